section P260_03_safe
set_option maxHeartbeats 4000000 in
set_option maxRecDepth 100000 in
theorem c_X8_rests (l : Launch) (dC : Nat → ClassId) (dI : Nat → Nat → Nat) (sz : Nat) (a0 : Nat) (a1 : Int32) (a0_0 : Int32) (a0g_1 a0g_2 a0g_3 a0g_4 a0g_5 a0g_6 a0g_7 a0g_8 a0g_9 a0g_10 a0g_12 a0g_13 a0g_15 a0g_16 a0g_17 a0g_18 a0g_19 a0g_20 a0g_21 a0g_22 a0g_23 a0g_24 a0g_25 a0g_26 a0g_27 a0g_28 a0g_29 a0g_30 a0g_31 a0g_32 a0g_33 a0g_34 a0g_35 a0g_36 a0g_38 a0g_39 : Value) (a0_11 : Int32) (a0_14 : Int32) (a0_37 : Int32) (ba0_14_l : (1 : Int) ≤ a0_14.toInt) (ba0_14_u : a0_14.toInt ≤ (1 : Int)) : zm l yX8_rests wsX8_rests ({ frames := 2, cells := 0, slots := 0, locals := 47 }) [.ref a0, .int a1] dC dI sz [(a0, .inr (8, [Value.int a0_0, a0g_1, a0g_2, a0g_3, a0g_4, a0g_5, a0g_6, a0g_7, a0g_8, a0g_9, a0g_10, Value.int a0_11, a0g_12, a0g_13, Value.int a0_14, a0g_15, a0g_16, a0g_17, a0g_18, a0g_19, a0g_20, a0g_21, a0g_22, a0g_23, a0g_24, a0g_25, a0g_26, a0g_27, a0g_28, a0g_29, a0g_30, a0g_31, a0g_32, a0g_33, a0g_34, a0g_35, a0g_36, Value.int a0_37, a0g_38, a0g_39]))] [] (fun A _ => True) (fun A => va_Qi (fun (r : Int32) (_ : Unit) => True) (fun (_ : Unit) (t : State) => ∃ na0_0 : Int32, ∃ na0_11 : Int32, ∃ na0_37 : Int32, ax_B dC dI A [(a0, .inr (8, [Value.int na0_0, a0g_1, a0g_2, a0g_3, a0g_4, a0g_5, a0g_6, a0g_7, a0g_8, a0g_9, a0g_10, Value.int na0_11, a0g_12, a0g_13, Value.int a0_14, a0g_15, a0g_16, a0g_17, a0g_18, a0g_19, a0g_20, a0g_21, a0g_22, a0g_23, a0g_24, a0g_25, a0g_26, a0g_27, a0g_28, a0g_29, a0g_30, a0g_31, a0g_32, a0g_33, a0g_34, a0g_35, a0g_36, Value.int na0_37, a0g_38, a0g_39]))] [] t) A) := by
  refine zh (cc := cX8_rests) (maxL := 3) (ret := (some .int)) zn_RX8 rfl (Nat.le_of_ble_eq_true rfl) (fun p e s m below meth c A ls hx hb hml hr hts (hown : s.vm.findClass RX8 = some m.cls) hlocks hA hS hP hK hD hE (hl : lv_has ls 3 [(0, .ref a0), (1, .int a1)]) => ?_)
  refine lv_aload_n hx hb dX8_rests_0 rfl (lv_at hl 0 rfl) ?_
  refine va_callv (va_runV (As := []) (rest := []) ⟨hx, hb, hml, hown, hts⟩ (c_X8_good l dC dI s.heap.size a0 a0_0 a0g_1 a0g_2 a0g_3 a0g_4 a0g_5 a0g_6 a0g_7 a0g_8 a0g_9 a0g_10 a0g_12 a0g_13 (Value.int a0_14) a0g_15 a0g_16 a0g_17 a0g_18 a0g_19 a0g_20 a0g_21 a0g_22 a0g_23 a0g_24 a0g_25 a0g_26 a0g_27 a0g_28 a0g_29 a0g_30 a0g_31 a0g_32 a0g_33 a0g_34 a0g_35 a0g_36 (Value.int a0_37) a0g_38 a0g_39 a0_11 ) (cwV 0 hts gX8_rests_X8_good rfl rfl rfl zd_X8_good ⟨Nat.le_of_ble_eq_true rfl, Nat.le_of_ble_eq_true rfl⟩) ⟨ax_blind (fun _ _ _ _ _ => trivial), zr_8 (zp_K hK) (zp_P1 hP) (q0 := 0) rfl, ax_pre (zp_P1 hP) (zp_K hK) (zp_D1 hD) (fun _ _ => trivial)⟩ rfl rfl hl.1 rfl (lv_room (Nat.le_of_ble_eq_true rfl)) dX8_rests_1 ⟨Nat.le_of_ble_eq_true rfl, Nat.le_of_ble_eq_true rfl⟩) hS (fun q _ h => zp_F1 hD hS hA q h) (zp_F1 hD hS hA) (fun u t H locs ht hvm hw => zx_2 (fun v1na0_0 v1na0_11 hB hz1 hk1 hS1 => zo1 hB ht hP hD hk1 (zp_F1 hD hS hA) hS1 (fun hP hK1 hD hS => ?_)))
  refine lv_aload_n hx hb dX8_rests_4 rfl (lv_at hl 0 rfl) ?_
  refine lv_aload_n hx hb dX8_rests_5 rfl (lv_at hl 0 rfl) ?_
  refine va_get (D := (dC, dI)) (ci := 8) (v := .int a0_14) (C := RX8) (T := TX8) (N := 40) hx hb hts zi_X8_rests_8 hown hK hP 0 rfl rfl 14 (by decide) (hts (.fieldLink RX8 173 "WaxTurnsModel" "hasGallery" "Z") (zm_X8_rests_r1 (List.mem_of_getElem? (i := 0) rfl))) (fun _ h9 => h9) rfl dX8_rests_6 ?_
  refine lv_iload_n hx hb dX8_rests_9 rfl (lv_at hl 1 rfl) ?_
  refine lv_iconst (v := 0) hx hb dX8_rests_10 zk_iconst_0 ?_
  refine lv_bipush (v := 9) hx hb dX8_rests_11 zk_bipush_9 ?_
  refine va_calli (va_runS (As := [.int a1, .int 0, .int 9]) (rest := [.int a0_14, .ref a0]) ⟨hx, hb, hml, hown, hts⟩ (c_X8_in l dC dI H.size a1 0 9 ) (va_cwS 3 hts gX8_rests_X8_in rfl rfl rfl zd_X8_in.2 ⟨Nat.le_of_ble_eq_true rfl, Nat.le_of_ble_eq_true rfl⟩) ⟨ax_blind (fun _ _ _ _ _ => trivial), ax_pre (zp_P0 hP) (zp_K hK) (zp_D0 hD) (fun _ _ => trivial)⟩ rfl rfl hl.1 rfl (lv_room (Nat.le_of_ble_eq_true rfl)) dX8_rests_13 ⟨Nat.le_of_ble_eq_true rfl, Nat.le_of_ble_eq_true rfl⟩) hS (fun q _ h => zp_F0 hD hS hA q h) (zp_F0 hD hS hA) (fun r13 u t H locs ht hvm hw hB hz1 hk1 hS1 => zo0 hB ht hP hD hk1 (zp_F0 hD hS hA) hS1 (fun hP hK1 hD hS => ?_))
  rcases hw with hw | hw
  · obtain ⟨hw, h13⟩ := hw
    subst hw
    have l13k0_a1 : (0 : Int) ≤ a1.toInt := Int.le_trans zq5 h13.1
    have u13k0_a1 : a1.toInt ≤ (9 : Int) := Int.le_trans h13.2 zq3
    refine va_calli (va_runV (As := [.int a0_14, .int 1]) (rest := []) ⟨hx, hb, hml, hown, hts⟩ (c_X8_whyB l dC dI H.size a0 a0_14 1 (Value.int v1na0_0) a0g_1 a0g_2 a0g_3 a0g_4 a0g_5 a0g_6 a0g_7 a0g_8 a0g_9 a0g_10 (Value.int v1na0_11) a0g_12 a0g_13 (Value.int a0_14) a0g_15 a0g_16 a0g_17 a0g_18 a0g_19 a0g_20 a0g_21 a0g_22 a0g_23 a0g_24 a0g_25 a0g_26 a0g_27 a0g_28 a0g_29 a0g_30 a0g_31 a0g_32 a0g_33 a0g_34 a0g_35 a0g_36 (Value.int a0_37) a0g_38 a0g_39 (Int.le_trans zq4 ba0_14_l) ba0_14_u (Int.le_trans zq4 zq1) zq0) (cwV 2 hts gX8_rests_X8_why rfl rfl rfl zd_X8_why ⟨Nat.le_of_ble_eq_true rfl, Nat.le_of_ble_eq_true rfl⟩) ⟨ax_blind (fun _ _ _ _ _ => trivial), zr_8 (zp_K hK) (zp_P1 hP) (q0 := 0) rfl, ax_pre (zp_P1 hP) (zp_K hK) (zp_D1 hD) (fun _ _ => trivial)⟩ rfl rfl hl.1 rfl (lv_room (Nat.le_of_ble_eq_true rfl)) dX8_rests_16 ⟨Nat.le_of_ble_eq_true rfl, Nat.le_of_ble_eq_true rfl⟩) hS (fun q _ h => zp_F1 hD hS hA q h) (zp_F1 hD hS hA) (fun r16 u t H locs ht hvm hw hB hz1 hk1 hS1 => zo1 hB ht hP hD hk1 (zp_F1 hD hS hA) hS1 (fun hP hK1 hD hS => ?_))
    rcases hw with hw | hw | hw
    · obtain ⟨hw, h16_0, h16_1, h16_2, h16_3⟩ := hw
      subst hw
      have l16k0_a0_14 : (1 : Int) ≤ a0_14.toInt := ba0_14_l
      have u16k0_a0_14 : a0_14.toInt ≤ (1 : Int) := ba0_14_u
      exact absurd h16_3 (by decide)
    · obtain ⟨hw, h16_0, h16_1⟩ := hw
      subst hw
      have l16k1_a0_14 : (1 : Int) ≤ a0_14.toInt := ba0_14_l
      have u16k1_a0_14 : a0_14.toInt ≤ (0 : Int) := h16_1
      exact absurd (Int.le_trans l16k1_a0_14 u16k1_a0_14) (by decide)
    · obtain ⟨hw, h16_0, h16_1, h16_2, h16_3⟩ := hw
      subst hw
      have l16k2_a0_14 : (1 : Int) ≤ a0_14.toInt := ba0_14_l
      have u16k2_a0_14 : a0_14.toInt ≤ (1 : Int) := ba0_14_u
      refine lv_istore_n (lv' := [(2, .int 0), (0, .ref a0), (1, .int a1)]) hx hb dX8_rests_19 rfl hl (by decide) rfl (fun ls hl => ?_)
      refine lv_iload_n hx hb dX8_rests_20 rfl (lv_at hl 0 rfl) ?_
      refine lv_if_eq (tgt := 32) hx hb dX8_rests_21 (by decide) (fun _ => ?_) (fun c21 => absurd (by decide +kernel) c21)
      refine lv_aload_n hx hb dX8_rests_32 rfl (lv_at hl 1 rfl) ?_
      refine lv_iload_n hx hb dX8_rests_33 rfl (lv_at hl 2 rfl) ?_
      refine va_calli (va_runV (As := [.int a1]) (rest := []) ⟨hx, hb, hml, hown, hts⟩ (c_X8_seekRests l dC dI H.size a0 a1 (Value.int v1na0_0) a0g_1 a0g_2 a0g_3 a0g_4 a0g_5 a0g_6 a0g_7 a0g_8 a0g_9 a0g_10 (Value.int v1na0_11) a0g_12 a0g_13 (Value.int a0_14) a0g_15 a0g_16 a0g_17 a0g_18 a0g_19 a0g_20 a0g_21 a0g_22 a0g_23 a0g_24 a0g_25 a0g_26 a0g_27 a0g_28 a0g_29 a0g_30 a0g_31 a0g_32 a0g_33 a0g_34 a0g_35 a0g_36 a0g_38 a0g_39 a0_37 ) (cwV 1 hts gX8_rests_X8_seekRests rfl rfl rfl zd_X8_seekRests ⟨Nat.le_of_ble_eq_true rfl, Nat.le_of_ble_eq_true rfl⟩) ⟨ax_blind (fun _ _ _ _ _ => trivial), zr_8 (zp_K hK) (zp_P1 hP) (q0 := 0) rfl, ax_pre (zp_P1 hP) (zp_K hK) (zp_D1 hD) (fun _ _ => trivial)⟩ rfl rfl hl.1 rfl (lv_room (Nat.le_of_ble_eq_true rfl)) dX8_rests_34 ⟨Nat.le_of_ble_eq_true rfl, Nat.le_of_ble_eq_true rfl⟩) hS (fun q _ h => zp_F1 hD hS hA q h) (zp_F1 hD hS hA) (fun r34 u t H locs ht hvm hw => zx_1 (fun v34na0_37 hB hz1 hk1 hS1 => zo1 hB ht hP hD hk1 (zp_F1 hD hS hA) hS1 (fun hP hK1 hD hS => ?_)))
      exact W.iret (v := r34) hx hb hr (fun t ht hW => ⟨⟨r34, (), rfl, trivial, v1na0_0, v1na0_11, v34na0_37, by rw [ht]; exact hP, va_K.moved hW.alike hK, hD⟩, hS.F ht⟩) hS.2.2 dX8_rests_37
  · obtain ⟨hw, h13⟩ := hw
    subst hw
    refine va_calli (va_runV (As := [.int a0_14, .int 0]) (rest := []) ⟨hx, hb, hml, hown, hts⟩ (c_X8_whyB l dC dI H.size a0 a0_14 0 (Value.int v1na0_0) a0g_1 a0g_2 a0g_3 a0g_4 a0g_5 a0g_6 a0g_7 a0g_8 a0g_9 a0g_10 (Value.int v1na0_11) a0g_12 a0g_13 (Value.int a0_14) a0g_15 a0g_16 a0g_17 a0g_18 a0g_19 a0g_20 a0g_21 a0g_22 a0g_23 a0g_24 a0g_25 a0g_26 a0g_27 a0g_28 a0g_29 a0g_30 a0g_31 a0g_32 a0g_33 a0g_34 a0g_35 a0g_36 (Value.int a0_37) a0g_38 a0g_39 (Int.le_trans zq4 ba0_14_l) ba0_14_u zq5 (Int.le_trans zq6 zq4)) (cwV 2 hts gX8_rests_X8_why rfl rfl rfl zd_X8_why ⟨Nat.le_of_ble_eq_true rfl, Nat.le_of_ble_eq_true rfl⟩) ⟨ax_blind (fun _ _ _ _ _ => trivial), zr_8 (zp_K hK) (zp_P1 hP) (q0 := 0) rfl, ax_pre (zp_P1 hP) (zp_K hK) (zp_D1 hD) (fun _ _ => trivial)⟩ rfl rfl hl.1 rfl (lv_room (Nat.le_of_ble_eq_true rfl)) dX8_rests_16 ⟨Nat.le_of_ble_eq_true rfl, Nat.le_of_ble_eq_true rfl⟩) hS (fun q _ h => zp_F1 hD hS hA q h) (zp_F1 hD hS hA) (fun r16 u t H locs ht hvm hw hB hz1 hk1 hS1 => zo1 hB ht hP hD hk1 (zp_F1 hD hS hA) hS1 (fun hP hK1 hD hS => ?_))
    rcases hw with hw | hw | hw
    · obtain ⟨hw, h16_0, h16_1, h16_2, h16_3⟩ := hw
      subst hw
      have l16k0_a0_14 : (1 : Int) ≤ a0_14.toInt := ba0_14_l
      have u16k0_a0_14 : a0_14.toInt ≤ (1 : Int) := ba0_14_u
      refine lv_istore_n (lv' := [(2, .int 2), (0, .ref a0), (1, .int a1)]) hx hb dX8_rests_19 rfl hl (by decide) rfl (fun ls hl => ?_)
      refine lv_iload_n hx hb dX8_rests_20 rfl (lv_at hl 0 rfl) ?_
      refine lv_if_eq (tgt := 32) hx hb dX8_rests_21 (by decide) (fun c21 => absurd c21 (by decide +kernel)) (fun _ => ?_)
      refine lv_aload_n hx hb dX8_rests_24 rfl (lv_at hl 1 rfl) ?_
      refine lv_iload_n hx hb dX8_rests_25 rfl (lv_at hl 0 rfl) ?_
      refine va_calli (va_runV (As := [.int 2]) (rest := []) ⟨hx, hb, hml, hown, hts⟩ (c_X8_no l dC dI H.size a0 2 (Value.int v1na0_0) a0g_1 a0g_2 a0g_3 a0g_4 a0g_5 a0g_6 a0g_7 a0g_8 a0g_9 a0g_10 a0g_12 a0g_13 (Value.int a0_14) a0g_15 a0g_16 a0g_17 a0g_18 a0g_19 a0g_20 a0g_21 a0g_22 a0g_23 a0g_24 a0g_25 a0g_26 a0g_27 a0g_28 a0g_29 a0g_30 a0g_31 a0g_32 a0g_33 a0g_34 a0g_35 a0g_36 (Value.int a0_37) a0g_38 a0g_39 v1na0_11 ) (cwV 1 hts gX8_rests_X8_no rfl rfl rfl zd_X8_no ⟨Nat.le_of_ble_eq_true rfl, Nat.le_of_ble_eq_true rfl⟩) ⟨ax_blind (fun _ _ _ _ _ => trivial), zr_8 (zp_K hK) (zp_P1 hP) (q0 := 0) rfl, ax_pre (zp_P1 hP) (zp_K hK) (zp_D1 hD) (fun _ _ => trivial)⟩ rfl rfl hl.1 rfl (lv_room (Nat.le_of_ble_eq_true rfl)) dX8_rests_26 ⟨Nat.le_of_ble_eq_true rfl, Nat.le_of_ble_eq_true rfl⟩) hS (fun q _ h => zp_F1 hD hS hA q h) (zp_F1 hD hS hA) (fun r26 u t H locs ht hvm hw => zx_1 (fun v26na0_11 hB hz1 hk1 hS1 => zo1 hB ht hP hD hk1 (zp_F1 hD hS hA) hS1 (fun hP hK1 hD hS => ?_)))
      have hw : r26 = (-1) := hw
      have hw := hw.symm
      subst hw
      refine lv_goto (tgt := 37) hx hb dX8_rests_29 (by decide) ?_
      exact W.iret (v := (-1)) hx hb hr (fun t ht hW => ⟨⟨(-1), (), rfl, trivial, v1na0_0, v26na0_11, a0_37, by rw [ht]; exact hP, va_K.moved hW.alike hK, hD⟩, hS.F ht⟩) hS.2.2 dX8_rests_37
    · obtain ⟨hw, h16_0, h16_1⟩ := hw
      subst hw
      have l16k1_a0_14 : (1 : Int) ≤ a0_14.toInt := ba0_14_l
      have u16k1_a0_14 : a0_14.toInt ≤ (0 : Int) := h16_1
      exact absurd (Int.le_trans l16k1_a0_14 u16k1_a0_14) (by decide)
    · obtain ⟨hw, h16_0, h16_1, h16_2, h16_3⟩ := hw
      subst hw
      have l16k2_a0_14 : (1 : Int) ≤ a0_14.toInt := ba0_14_l
      have u16k2_a0_14 : a0_14.toInt ≤ (1 : Int) := ba0_14_u
      exact absurd h16_2 (by decide)

set_option maxHeartbeats 4000000 in
set_option maxRecDepth 100000 in
theorem c_X8_rest (l : Launch) (dC : Nat → ClassId) (dI : Nat → Nat → Nat) (sz : Nat) (a0 : Nat) (a1 : Int32) (a0_0 : Int32) (a0g_1 a0g_2 a0g_3 a0g_4 a0g_5 a0g_6 a0g_7 a0g_8 a0g_9 a0g_10 a0g_12 a0g_13 a0g_15 a0g_16 a0g_17 a0g_18 a0g_19 a0g_20 a0g_21 a0g_22 a0g_23 a0g_24 a0g_25 a0g_26 a0g_27 a0g_28 a0g_29 a0g_30 a0g_31 a0g_32 a0g_33 a0g_34 a0g_35 a0g_36 a0g_38 a0g_39 : Value) (a0_11 : Int32) (a0_14 : Int32) (a0_37 : Int32) (ba0_14_l : (1 : Int) ≤ a0_14.toInt) (ba0_14_u : a0_14.toInt ≤ (1 : Int)) : zm l yX8_rest wsX8_rest ({ frames := 2, cells := 0, slots := 0, locals := 47 }) [.ref a0, .int a1] dC dI sz [(a0, .inr (8, [Value.int a0_0, a0g_1, a0g_2, a0g_3, a0g_4, a0g_5, a0g_6, a0g_7, a0g_8, a0g_9, a0g_10, Value.int a0_11, a0g_12, a0g_13, Value.int a0_14, a0g_15, a0g_16, a0g_17, a0g_18, a0g_19, a0g_20, a0g_21, a0g_22, a0g_23, a0g_24, a0g_25, a0g_26, a0g_27, a0g_28, a0g_29, a0g_30, a0g_31, a0g_32, a0g_33, a0g_34, a0g_35, a0g_36, Value.int a0_37, a0g_38, a0g_39]))] [] (fun A _ => True) (fun A => va_Qi (fun (r : Int32) (_ : Unit) => True) (fun (_ : Unit) (t : State) => ∃ na0_0 : Int32, ∃ na0_11 : Int32, ∃ na0_37 : Int32, ax_B dC dI A [(a0, .inr (8, [Value.int na0_0, a0g_1, a0g_2, a0g_3, a0g_4, a0g_5, a0g_6, a0g_7, a0g_8, a0g_9, a0g_10, Value.int na0_11, a0g_12, a0g_13, Value.int a0_14, a0g_15, a0g_16, a0g_17, a0g_18, a0g_19, a0g_20, a0g_21, a0g_22, a0g_23, a0g_24, a0g_25, a0g_26, a0g_27, a0g_28, a0g_29, a0g_30, a0g_31, a0g_32, a0g_33, a0g_34, a0g_35, a0g_36, Value.int na0_37, a0g_38, a0g_39]))] [] t) A) := by
  refine zh (cc := cX8_rest) (maxL := 3) (ret := (some .int)) zn_RX8 rfl (Nat.le_of_ble_eq_true rfl) (fun p e s m below meth c A ls hx hb hml hr hts (hown : s.vm.findClass RX8 = some m.cls) hlocks hA hS hP hK hD hE (hl : lv_has ls 3 [(0, .ref a0), (1, .int a1)]) => ?_)
  refine lv_aload_n hx hb dX8_rest_0 rfl (lv_at hl 0 rfl) ?_
  refine va_callv (va_runV (As := []) (rest := []) ⟨hx, hb, hml, hown, hts⟩ (c_X8_good l dC dI s.heap.size a0 a0_0 a0g_1 a0g_2 a0g_3 a0g_4 a0g_5 a0g_6 a0g_7 a0g_8 a0g_9 a0g_10 a0g_12 a0g_13 (Value.int a0_14) a0g_15 a0g_16 a0g_17 a0g_18 a0g_19 a0g_20 a0g_21 a0g_22 a0g_23 a0g_24 a0g_25 a0g_26 a0g_27 a0g_28 a0g_29 a0g_30 a0g_31 a0g_32 a0g_33 a0g_34 a0g_35 a0g_36 (Value.int a0_37) a0g_38 a0g_39 a0_11 ) (cwV 0 hts gX8_rest_X8_good rfl rfl rfl zd_X8_good ⟨Nat.le_of_ble_eq_true rfl, Nat.le_of_ble_eq_true rfl⟩) ⟨ax_blind (fun _ _ _ _ _ => trivial), zr_8 (zp_K hK) (zp_P1 hP) (q0 := 0) rfl, ax_pre (zp_P1 hP) (zp_K hK) (zp_D1 hD) (fun _ _ => trivial)⟩ rfl rfl hl.1 rfl (lv_room (Nat.le_of_ble_eq_true rfl)) dX8_rest_1 ⟨Nat.le_of_ble_eq_true rfl, Nat.le_of_ble_eq_true rfl⟩) hS (fun q _ h => zp_F1 hD hS hA q h) (zp_F1 hD hS hA) (fun u t H locs ht hvm hw => zx_2 (fun v1na0_0 v1na0_11 hB hz1 hk1 hS1 => zo1 hB ht hP hD hk1 (zp_F1 hD hS hA) hS1 (fun hP hK1 hD hS => ?_)))
  refine lv_aload_n hx hb dX8_rest_4 rfl (lv_at hl 0 rfl) ?_
  refine lv_aload_n hx hb dX8_rest_5 rfl (lv_at hl 0 rfl) ?_
  refine va_get (D := (dC, dI)) (ci := 8) (v := .int a0_14) (C := RX8) (T := TX8) (N := 40) hx hb hts zi_X8_rest_8 hown hK hP 0 rfl rfl 14 (by decide) (hts (.fieldLink RX8 173 "WaxTurnsModel" "hasGallery" "Z") (zm_X8_rest_r1 (List.mem_of_getElem? (i := 0) rfl))) (fun _ h9 => h9) rfl dX8_rest_6 ?_
  refine lv_iload_n hx hb dX8_rest_9 rfl (lv_at hl 1 rfl) ?_
  refine lv_iconst (v := 0) hx hb dX8_rest_10 zk_iconst_0 ?_
  refine lv_bipush (v := 9) hx hb dX8_rest_11 zk_bipush_9 ?_
  refine va_calli (va_runS (As := [.int a1, .int 0, .int 9]) (rest := [.int a0_14, .ref a0]) ⟨hx, hb, hml, hown, hts⟩ (c_X8_in l dC dI H.size a1 0 9 ) (va_cwS 3 hts gX8_rest_X8_in rfl rfl rfl zd_X8_in.2 ⟨Nat.le_of_ble_eq_true rfl, Nat.le_of_ble_eq_true rfl⟩) ⟨ax_blind (fun _ _ _ _ _ => trivial), ax_pre (zp_P0 hP) (zp_K hK) (zp_D0 hD) (fun _ _ => trivial)⟩ rfl rfl hl.1 rfl (lv_room (Nat.le_of_ble_eq_true rfl)) dX8_rest_13 ⟨Nat.le_of_ble_eq_true rfl, Nat.le_of_ble_eq_true rfl⟩) hS (fun q _ h => zp_F0 hD hS hA q h) (zp_F0 hD hS hA) (fun r13 u t H locs ht hvm hw hB hz1 hk1 hS1 => zo0 hB ht hP hD hk1 (zp_F0 hD hS hA) hS1 (fun hP hK1 hD hS => ?_))
  rcases hw with hw | hw
  · obtain ⟨hw, h13⟩ := hw
    subst hw
    have l13k0_a1 : (0 : Int) ≤ a1.toInt := Int.le_trans zq5 h13.1
    have u13k0_a1 : a1.toInt ≤ (9 : Int) := Int.le_trans h13.2 zq3
    refine va_calli (va_runV (As := [.int a0_14, .int 1]) (rest := []) ⟨hx, hb, hml, hown, hts⟩ (c_X8_whyB l dC dI H.size a0 a0_14 1 (Value.int v1na0_0) a0g_1 a0g_2 a0g_3 a0g_4 a0g_5 a0g_6 a0g_7 a0g_8 a0g_9 a0g_10 (Value.int v1na0_11) a0g_12 a0g_13 (Value.int a0_14) a0g_15 a0g_16 a0g_17 a0g_18 a0g_19 a0g_20 a0g_21 a0g_22 a0g_23 a0g_24 a0g_25 a0g_26 a0g_27 a0g_28 a0g_29 a0g_30 a0g_31 a0g_32 a0g_33 a0g_34 a0g_35 a0g_36 (Value.int a0_37) a0g_38 a0g_39 (Int.le_trans zq4 ba0_14_l) ba0_14_u (Int.le_trans zq4 zq1) zq0) (cwV 2 hts gX8_rest_X8_why rfl rfl rfl zd_X8_why ⟨Nat.le_of_ble_eq_true rfl, Nat.le_of_ble_eq_true rfl⟩) ⟨ax_blind (fun _ _ _ _ _ => trivial), zr_8 (zp_K hK) (zp_P1 hP) (q0 := 0) rfl, ax_pre (zp_P1 hP) (zp_K hK) (zp_D1 hD) (fun _ _ => trivial)⟩ rfl rfl hl.1 rfl (lv_room (Nat.le_of_ble_eq_true rfl)) dX8_rest_16 ⟨Nat.le_of_ble_eq_true rfl, Nat.le_of_ble_eq_true rfl⟩) hS (fun q _ h => zp_F1 hD hS hA q h) (zp_F1 hD hS hA) (fun r16 u t H locs ht hvm hw hB hz1 hk1 hS1 => zo1 hB ht hP hD hk1 (zp_F1 hD hS hA) hS1 (fun hP hK1 hD hS => ?_))
    rcases hw with hw | hw | hw
    · obtain ⟨hw, h16_0, h16_1, h16_2, h16_3⟩ := hw
      subst hw
      have l16k0_a0_14 : (1 : Int) ≤ a0_14.toInt := ba0_14_l
      have u16k0_a0_14 : a0_14.toInt ≤ (1 : Int) := ba0_14_u
      exact absurd h16_3 (by decide)
    · obtain ⟨hw, h16_0, h16_1⟩ := hw
      subst hw
      have l16k1_a0_14 : (1 : Int) ≤ a0_14.toInt := ba0_14_l
      have u16k1_a0_14 : a0_14.toInt ≤ (0 : Int) := h16_1
      exact absurd (Int.le_trans l16k1_a0_14 u16k1_a0_14) (by decide)
    · obtain ⟨hw, h16_0, h16_1, h16_2, h16_3⟩ := hw
      subst hw
      have l16k2_a0_14 : (1 : Int) ≤ a0_14.toInt := ba0_14_l
      have u16k2_a0_14 : a0_14.toInt ≤ (1 : Int) := ba0_14_u
      refine lv_istore_n (lv' := [(2, .int 0), (0, .ref a0), (1, .int a1)]) hx hb dX8_rest_19 rfl hl (by decide) rfl (fun ls hl => ?_)
      refine lv_iload_n hx hb dX8_rest_20 rfl (lv_at hl 0 rfl) ?_
      refine lv_if_eq (tgt := 30) hx hb dX8_rest_21 (by decide) (fun _ => ?_) (fun c21 => absurd (by decide +kernel) c21)
      refine lv_aload_n hx hb dX8_rest_30 rfl (lv_at hl 1 rfl) ?_
      refine lv_iload_n hx hb dX8_rest_31 rfl (lv_at hl 2 rfl) ?_
      refine va_calli (va_runV (As := [.int a1]) (rest := []) ⟨hx, hb, hml, hown, hts⟩ (c_X8_seekRests l dC dI H.size a0 a1 (Value.int v1na0_0) a0g_1 a0g_2 a0g_3 a0g_4 a0g_5 a0g_6 a0g_7 a0g_8 a0g_9 a0g_10 (Value.int v1na0_11) a0g_12 a0g_13 (Value.int a0_14) a0g_15 a0g_16 a0g_17 a0g_18 a0g_19 a0g_20 a0g_21 a0g_22 a0g_23 a0g_24 a0g_25 a0g_26 a0g_27 a0g_28 a0g_29 a0g_30 a0g_31 a0g_32 a0g_33 a0g_34 a0g_35 a0g_36 a0g_38 a0g_39 a0_37 ) (cwV 1 hts gX8_rest_X8_seekRests rfl rfl rfl zd_X8_seekRests ⟨Nat.le_of_ble_eq_true rfl, Nat.le_of_ble_eq_true rfl⟩) ⟨ax_blind (fun _ _ _ _ _ => trivial), zr_8 (zp_K hK) (zp_P1 hP) (q0 := 0) rfl, ax_pre (zp_P1 hP) (zp_K hK) (zp_D1 hD) (fun _ _ => trivial)⟩ rfl rfl hl.1 rfl (lv_room (Nat.le_of_ble_eq_true rfl)) dX8_rest_32 ⟨Nat.le_of_ble_eq_true rfl, Nat.le_of_ble_eq_true rfl⟩) hS (fun q _ h => zp_F1 hD hS hA q h) (zp_F1 hD hS hA) (fun r32 u t H locs ht hvm hw => zx_1 (fun v32na0_37 hB hz1 hk1 hS1 => zo1 hB ht hP hD hk1 (zp_F1 hD hS hA) hS1 (fun hP hK1 hD hS => ?_)))
      refine lv_pop hx hb dX8_rest_35 rfl ?_
      refine lv_aload_n hx hb dX8_rest_36 rfl (lv_at hl 1 rfl) ?_
      refine va_get (D := (dC, dI)) (ci := 8) (v := .int v32na0_37) (C := RX8) (T := TX8) (N := 40) hx hb hts zi_X8_rest_8 hown hK hP 0 rfl rfl 37 (by decide) (hts (.fieldLink RX8 359 "WaxTurnsModel" "firstRest" "I") (zm_X8_rest_r1 (List.mem_of_getElem? (i := 1) rfl))) (fun _ h9 => h9) rfl dX8_rest_37 ?_
      exact W.iret (v := v32na0_37) hx hb hr (fun t ht hW => ⟨⟨v32na0_37, (), rfl, trivial, v1na0_0, v1na0_11, v32na0_37, by rw [ht]; exact hP, va_K.moved hW.alike hK, hD⟩, hS.F ht⟩) hS.2.2 dX8_rest_40
  · obtain ⟨hw, h13⟩ := hw
    subst hw
    refine va_calli (va_runV (As := [.int a0_14, .int 0]) (rest := []) ⟨hx, hb, hml, hown, hts⟩ (c_X8_whyB l dC dI H.size a0 a0_14 0 (Value.int v1na0_0) a0g_1 a0g_2 a0g_3 a0g_4 a0g_5 a0g_6 a0g_7 a0g_8 a0g_9 a0g_10 (Value.int v1na0_11) a0g_12 a0g_13 (Value.int a0_14) a0g_15 a0g_16 a0g_17 a0g_18 a0g_19 a0g_20 a0g_21 a0g_22 a0g_23 a0g_24 a0g_25 a0g_26 a0g_27 a0g_28 a0g_29 a0g_30 a0g_31 a0g_32 a0g_33 a0g_34 a0g_35 a0g_36 (Value.int a0_37) a0g_38 a0g_39 (Int.le_trans zq4 ba0_14_l) ba0_14_u zq5 (Int.le_trans zq6 zq4)) (cwV 2 hts gX8_rest_X8_why rfl rfl rfl zd_X8_why ⟨Nat.le_of_ble_eq_true rfl, Nat.le_of_ble_eq_true rfl⟩) ⟨ax_blind (fun _ _ _ _ _ => trivial), zr_8 (zp_K hK) (zp_P1 hP) (q0 := 0) rfl, ax_pre (zp_P1 hP) (zp_K hK) (zp_D1 hD) (fun _ _ => trivial)⟩ rfl rfl hl.1 rfl (lv_room (Nat.le_of_ble_eq_true rfl)) dX8_rest_16 ⟨Nat.le_of_ble_eq_true rfl, Nat.le_of_ble_eq_true rfl⟩) hS (fun q _ h => zp_F1 hD hS hA q h) (zp_F1 hD hS hA) (fun r16 u t H locs ht hvm hw hB hz1 hk1 hS1 => zo1 hB ht hP hD hk1 (zp_F1 hD hS hA) hS1 (fun hP hK1 hD hS => ?_))
    rcases hw with hw | hw | hw
    · obtain ⟨hw, h16_0, h16_1, h16_2, h16_3⟩ := hw
      subst hw
      have l16k0_a0_14 : (1 : Int) ≤ a0_14.toInt := ba0_14_l
      have u16k0_a0_14 : a0_14.toInt ≤ (1 : Int) := ba0_14_u
      refine lv_istore_n (lv' := [(2, .int 2), (0, .ref a0), (1, .int a1)]) hx hb dX8_rest_19 rfl hl (by decide) rfl (fun ls hl => ?_)
      refine lv_iload_n hx hb dX8_rest_20 rfl (lv_at hl 0 rfl) ?_
      refine lv_if_eq (tgt := 30) hx hb dX8_rest_21 (by decide) (fun c21 => absurd c21 (by decide +kernel)) (fun _ => ?_)
      refine lv_aload_n hx hb dX8_rest_24 rfl (lv_at hl 1 rfl) ?_
      refine lv_iload_n hx hb dX8_rest_25 rfl (lv_at hl 0 rfl) ?_
      refine va_calli (va_runV (As := [.int 2]) (rest := []) ⟨hx, hb, hml, hown, hts⟩ (c_X8_no l dC dI H.size a0 2 (Value.int v1na0_0) a0g_1 a0g_2 a0g_3 a0g_4 a0g_5 a0g_6 a0g_7 a0g_8 a0g_9 a0g_10 a0g_12 a0g_13 (Value.int a0_14) a0g_15 a0g_16 a0g_17 a0g_18 a0g_19 a0g_20 a0g_21 a0g_22 a0g_23 a0g_24 a0g_25 a0g_26 a0g_27 a0g_28 a0g_29 a0g_30 a0g_31 a0g_32 a0g_33 a0g_34 a0g_35 a0g_36 (Value.int a0_37) a0g_38 a0g_39 v1na0_11 ) (cwV 1 hts gX8_rest_X8_no rfl rfl rfl zd_X8_no ⟨Nat.le_of_ble_eq_true rfl, Nat.le_of_ble_eq_true rfl⟩) ⟨ax_blind (fun _ _ _ _ _ => trivial), zr_8 (zp_K hK) (zp_P1 hP) (q0 := 0) rfl, ax_pre (zp_P1 hP) (zp_K hK) (zp_D1 hD) (fun _ _ => trivial)⟩ rfl rfl hl.1 rfl (lv_room (Nat.le_of_ble_eq_true rfl)) dX8_rest_26 ⟨Nat.le_of_ble_eq_true rfl, Nat.le_of_ble_eq_true rfl⟩) hS (fun q _ h => zp_F1 hD hS hA q h) (zp_F1 hD hS hA) (fun r26 u t H locs ht hvm hw => zx_1 (fun v26na0_11 hB hz1 hk1 hS1 => zo1 hB ht hP hD hk1 (zp_F1 hD hS hA) hS1 (fun hP hK1 hD hS => ?_)))
      have hw : r26 = (-1) := hw
      have hw := hw.symm
      subst hw
      exact W.iret (v := (-1)) hx hb hr (fun t ht hW => ⟨⟨(-1), (), rfl, trivial, v1na0_0, v26na0_11, a0_37, by rw [ht]; exact hP, va_K.moved hW.alike hK, hD⟩, hS.F ht⟩) hS.2.2 dX8_rest_29
    · obtain ⟨hw, h16_0, h16_1⟩ := hw
      subst hw
      have l16k1_a0_14 : (1 : Int) ≤ a0_14.toInt := ba0_14_l
      have u16k1_a0_14 : a0_14.toInt ≤ (0 : Int) := h16_1
      exact absurd (Int.le_trans l16k1_a0_14 u16k1_a0_14) (by decide)
    · obtain ⟨hw, h16_0, h16_1, h16_2, h16_3⟩ := hw
      subst hw
      have l16k2_a0_14 : (1 : Int) ≤ a0_14.toInt := ba0_14_l
      have u16k2_a0_14 : a0_14.toInt ≤ (1 : Int) := ba0_14_u
      exact absurd h16_2 (by decide)

set_option maxHeartbeats 4000000 in
set_option maxRecDepth 100000 in
theorem c_X8_turnsOf (l : Launch) (dC : Nat → ClassId) (dI : Nat → Nat → Nat) (sz : Nat) (a0 : Nat) (a1 : Int32) (a2 : Int32) (a0g_0 a0g_1 a0g_2 a0g_3 a0g_4 a0g_5 a0g_6 a0g_7 a0g_8 a0g_9 a0g_10 a0g_11 a0g_12 a0g_13 a0g_14 a0g_16 a0g_18 a0g_19 a0g_20 a0g_21 a0g_22 a0g_23 a0g_24 a0g_25 a0g_26 a0g_27 a0g_28 a0g_32 a0g_33 a0g_34 a0g_35 a0g_36 a0g_37 a0g_38 a0g_39 : Value) (a0_15 : Nat) (a0_17 : Nat) (a0_29 : Nat) (a0_30 : Int32) (a0_31 : Int32) (ka0_17 : ClassId) (fa0_17 : Nat → Int32) (ka0_29 : ClassId) (fa0_29 : Nat → Int32) (ka0_15 : ClassId) (fa0_15 : Nat → Int32) (ba2_l : (0 : Int) ≤ a2.toInt) (ba2_u : a2.toInt ≤ (8 : Int)) (bfa0_17 : ((∀ k : Nat, 0 ≤ k → k ≤ 8 → (0 : Int) ≤ (fa0_17 k).toInt ∧ (fa0_17 k).toInt ≤ 8) ∧ (∀ k : Nat, 19 ≤ k → k ≤ 19 → (0 : Int) ≤ (fa0_17 k).toInt ∧ (fa0_17 k).toInt ≤ 8) ∧ (∀ k : Nat, 20 ≤ k → k ≤ 20 → (0 : Int) ≤ (fa0_17 k).toInt ∧ (fa0_17 k).toInt ≤ 19))) (bfa0_29 : (∀ k, (0 : Int) ≤ (fa0_29 k).toInt ∧ (fa0_29 k).toInt ≤ 8)) (bfa0_15 : ((∀ k : Nat, 0 ≤ k → k ≤ 0 → (2 : Int) ≤ (fa0_15 k).toInt ∧ (fa0_15 k).toInt ≤ 9) ∧ (∀ k : Nat, 1 ≤ k → k ≤ 1 → (1 : Int) ≤ (fa0_15 k).toInt ∧ (fa0_15 k).toInt ≤ 20) ∧ (∀ k : Nat, 2 ≤ k → k ≤ 2 → (0 : Int) ≤ (fa0_15 k).toInt ∧ (fa0_15 k).toInt ≤ 8) ∧ (∀ k : Nat, 3 ≤ k → k ≤ 3 → (0 : Int) ≤ (fa0_15 k).toInt ∧ (fa0_15 k).toInt ≤ 100) ∧ (∀ k : Nat, 4 ≤ k → k ≤ 4 → (0 : Int) ≤ (fa0_15 k).toInt ∧ (fa0_15 k).toInt ≤ 9) ∧ (∀ k : Nat, 5 ≤ k → k ≤ 5 → (0 : Int) ≤ (fa0_15 k).toInt ∧ (fa0_15 k).toInt ≤ 3) ∧ (∀ k : Nat, 6 ≤ k → k ≤ 6 → (0 : Int) ≤ (fa0_15 k).toInt ∧ (fa0_15 k).toInt ≤ 6) ∧ (∀ k : Nat, 7 ≤ k → k ≤ 9 → (0 : Int) ≤ (fa0_15 k).toInt ∧ (fa0_15 k).toInt ≤ 8) ∧ (∀ k : Nat, 12 ≤ k → k ≤ 29 → (0 : Int) ≤ (fa0_15 k).toInt ∧ (fa0_15 k).toInt ≤ 20) ∧ (∀ k : Nat, 30 ≤ k → k ≤ 35 → (0 : Int) ≤ (fa0_15 k).toInt ∧ (fa0_15 k).toInt ≤ 8) ∧ (∀ k : Nat, 36 ≤ k → k ≤ 47 → (0 : Int) ≤ (fa0_15 k).toInt ∧ (fa0_15 k).toInt ≤ 999))) : zm l yX8_turnsOf wsX8_turnsOf ({ frames := 2, cells := 0, slots := 0, locals := 44 }) [.ref a0, .int a1, .int a2] dC dI sz [(a0, .inr (8, [a0g_0, a0g_1, a0g_2, a0g_3, a0g_4, a0g_5, a0g_6, a0g_7, a0g_8, a0g_9, a0g_10, a0g_11, a0g_12, a0g_13, a0g_14, Value.ref a0_15, a0g_16, Value.ref a0_17, a0g_18, a0g_19, a0g_20, a0g_21, a0g_22, a0g_23, a0g_24, a0g_25, a0g_26, a0g_27, a0g_28, Value.ref a0_29, Value.int a0_30, Value.int a0_31, a0g_32, a0g_33, a0g_34, a0g_35, a0g_36, a0g_37, a0g_38, a0g_39])), (a0_17, .inl (ka0_17, 23, .inl (fa0_17))), (a0_29, .inl (ka0_29, 10, .inl (fa0_29))), (a0_15, .inl (ka0_15, 156, .inl (fa0_15)))] [(ka0_17, .int), (ka0_29, .int), (ka0_15, .int)] (fun A _ => True) (fun A => va_Qi (fun (r : Int32) (_ : Unit) => (0 : Int) ≤ r.toInt ∧ r.toInt ≤ (8 : Int)) (fun (_ : Unit) (t : State) => ∃ na0_30 : Int32, ∃ na0_31 : Int32, ∃ nfa0_29 : Nat → Int32, (∀ k, (0 : Int) ≤ (nfa0_29 k).toInt ∧ (nfa0_29 k).toInt ≤ 8) ∧ ax_B dC dI A [(a0, .inr (8, [a0g_0, a0g_1, a0g_2, a0g_3, a0g_4, a0g_5, a0g_6, a0g_7, a0g_8, a0g_9, a0g_10, a0g_11, a0g_12, a0g_13, a0g_14, Value.ref a0_15, a0g_16, Value.ref a0_17, a0g_18, a0g_19, a0g_20, a0g_21, a0g_22, a0g_23, a0g_24, a0g_25, a0g_26, a0g_27, a0g_28, Value.ref a0_29, Value.int na0_30, Value.int na0_31, a0g_32, a0g_33, a0g_34, a0g_35, a0g_36, a0g_37, a0g_38, a0g_39])), (a0_17, .inl (ka0_17, 23, .inl (fa0_17))), (a0_29, .inl (ka0_29, 10, .inl (nfa0_29))), (a0_15, .inl (ka0_15, 156, .inl (fa0_15)))] [(ka0_17, .int), (ka0_29, .int), (ka0_15, .int)] t) A) := by
  refine zh (cc := cX8_turnsOf) (maxL := 5) (ret := (some .int)) zn_RX8 rfl (Nat.le_of_ble_eq_true rfl) (fun p e s m below meth c A ls hx hb hml hr hts (hown : s.vm.findClass RX8 = some m.cls) hlocks hA hS hP hK hD hE (hl : lv_has ls 5 [(0, .ref a0), (1, .int a1), (2, .int a2)]) => ?_)
  refine ai_open (fun K hK0 => ?_)
  refine (hK0 _ _ _).mpr ?_
  refine lv_aload_n hx hb dX8_turnsOf_0 rfl (lv_at hl 0 rfl) ?_
  have hKc := hK.sub (tys' := [(ka0_17, .int), (ka0_29, .int), (ka0_15, .int)]) [0, 1, 2] rfl
  refine va_callv (va_runV (As := []) (rest := []) ⟨hx, hb, hml, hown, hts⟩ (c_X8_goRound l dC dI s.heap.size a0 a0g_0 a0g_1 a0g_2 a0g_3 a0g_4 a0g_5 a0g_6 a0g_7 a0g_8 a0g_9 a0g_10 a0g_11 a0g_12 a0g_13 a0g_14 a0g_16 a0g_18 a0g_19 a0g_20 a0g_21 a0g_22 a0g_23 a0g_24 a0g_25 a0g_26 a0g_27 a0g_28 a0g_32 a0g_33 a0g_34 a0g_35 a0g_36 a0g_37 a0g_38 a0g_39 a0_15 a0_17 a0_29 a0_30 a0_31 ka0_17 fa0_17 ka0_29 fa0_29 ka0_15 fa0_15 bfa0_17 bfa0_29 bfa0_15) (cwV 0 hts gX8_turnsOf_X8_goRound rfl rfl rfl zd_X8_goRound ⟨Nat.le_of_ble_eq_true rfl, Nat.le_of_ble_eq_true rfl⟩) ⟨ax_blind (fun _ _ _ _ _ => trivial), zr_8 hKc (zp_P4 hP) (q0 := 0) rfl, ax_pre (zp_P4 hP) hKc (zp_D4 hD) (fun _ _ => trivial)⟩ rfl rfl hl.1 rfl (lv_room (Nat.le_of_ble_eq_true rfl)) dX8_turnsOf_1 ⟨Nat.le_of_ble_eq_true rfl, Nat.le_of_ble_eq_true rfl⟩) hS (fun q _ h => zp_F4 hD hS hA q h) (zp_F4 hD hS hA) (fun u t H locs ht hvm hw => zx_3 (fun v1na0_30 v1na0_31 v1nfa0_29 => zy_2 (fun bv1nfa0_29 hraw1_0 hB hz1 hk1 hS1 => zo4 hB ht hP hD hk1 (zp_F4 hD hS hA) hS1 (fun hP hK1 hD hS => ?_))))
  refine lv_iconst (v := 0) hx hb dX8_turnsOf_4 zk_iconst_0 ?_
  refine lv_istore_n (lv' := [(3, .int 0), (0, .ref a0), (1, .int a1), (2, .int a2)]) hx hb dX8_turnsOf_5 rfl hl (by decide) rfl (fun ls hl => ?_)
  refine lv_iconst (v := 1) hx hb dX8_turnsOf_6 zk_iconst_1 ?_
  refine lv_istore (lv' := [(4, .int 1), (3, .int 0), (0, .ref a0), (1, .int a1), (2, .int a2)]) hx hb dX8_turnsOf_7 hl (by decide) rfl (fun ls hl => ?_)
  have J9 : ∀ (n : Nat) (j9l4 : Int32) (j9l3 : Int32) (H : Heap) (locs : List Loc) (ls : Array Slot), (10 : Int) - j9l4.toInt ≤ (n : Int) → (1 : Int) ≤ j9l4.toInt → j9l4.toInt ≤ (9 : Int) → (0 : Int) ≤ j9l3.toInt → j9l3.toInt ≤ (9 : Int) → ((0 : Int) ≤ j9l3.toInt ∧ j9l3.toInt < j9l4.toInt) → va_P (dC, dI) vwCl [(a0, .inr (8, [a0g_0, a0g_1, a0g_2, a0g_3, a0g_4, a0g_5, a0g_6, a0g_7, a0g_8, a0g_9, a0g_10, a0g_11, a0g_12, a0g_13, a0g_14, Value.ref a0_15, a0g_16, Value.ref a0_17, a0g_18, a0g_19, a0g_20, a0g_21, a0g_22, a0g_23, a0g_24, a0g_25, a0g_26, a0g_27, a0g_28, Value.ref a0_29, Value.int v1na0_30, Value.int v1na0_31, a0g_32, a0g_33, a0g_34, a0g_35, a0g_36, a0g_37, a0g_38, a0g_39])), (a0_17, .inl (ka0_17, 23, .inl (fa0_17))), (a0_29, .inl (ka0_29, 10, .inl (v1nfa0_29))), (a0_15, .inl (ka0_15, 156, .inl (fa0_15)))] H → va_D A [(a0, .inr (8, [a0g_0, a0g_1, a0g_2, a0g_3, a0g_4, a0g_5, a0g_6, a0g_7, a0g_8, a0g_9, a0g_10, a0g_11, a0g_12, a0g_13, a0g_14, Value.ref a0_15, a0g_16, Value.ref a0_17, a0g_18, a0g_19, a0g_20, a0g_21, a0g_22, a0g_23, a0g_24, a0g_25, a0g_26, a0g_27, a0g_28, Value.ref a0_29, Value.int v1na0_30, Value.int v1na0_31, a0g_32, a0g_33, a0g_34, a0g_35, a0g_36, a0g_37, a0g_38, a0g_39])), (a0_17, .inl (ka0_17, 23, .inl (fa0_17))), (a0_29, .inl (ka0_29, 10, .inl (v1nfa0_29))), (a0_15, .inl (ka0_15, 156, .inl (fa0_15)))] → va_S A s.heap H locs → lv_has ls 5 [(0, .ref a0), (1, .int a1), (2, .int a2), (3, .int j9l3), (4, .int j9l4)] → K H locs (F0 m 9 ls []) := by
    intro n
    induction n with
    | zero =>
      intro j9l4 j9l3 H locs ls hm bj9l4_l bj9l4_u bj9l3_l bj9l3_u ts9 hP hD hS hl
      first | exact zg_0 hm bj9l4_u (by decide) | (have h8 := ai_min j9l4; have h9 := ai_max j9l4; exact absurd hm (by omega))
    | succ n ih9 =>
      intro j9l4 j9l3 H locs ls hm bj9l4_l bj9l4_u bj9l3_l bj9l3_u ts9 hP hD hS hl
      refine (hK0 _ _ _).mpr ?_
      have hm9 := hm
      refine lv_iload hx hb dX8_turnsOf_9 (lv_at hl 4 rfl) ?_
      refine lv_iload_n hx hb dX8_turnsOf_11 rfl (lv_at hl 2 rfl) ?_
      refine lv_icmp_gt (tgt := 39) hx hb dX8_turnsOf_12 (by decide) (fun c12 => ?_) (fun c12 => ?_)
      · have gc12 := ai_lt c12
        have u12t_a2 : a2.toInt ≤ (8 : Int) := ba2_u
        have l12t_j9l4 : (1 : Int) ≤ j9l4.toInt := bj9l4_l
        refine lv_iload_n hx hb dX8_turnsOf_39 rfl (lv_at hl 3 rfl) ?_
        have u39z_j9l3 : j9l3.toInt ≤ (8 : Int) := by omega
        exact W.iret (v := j9l3) hx hb hr (fun t ht hW => ⟨⟨j9l3, (), rfl, ⟨bj9l3_l, u39z_j9l3⟩, v1na0_30, v1na0_31, v1nfa0_29, bv1nfa0_29, by rw [ht]; exact hP, va_K.moved hW.alike hK, hD⟩, hS.F ht⟩) hS.2.2 dX8_turnsOf_40
      · have gc12 := ai_nlt c12
        have u12f_j9l4 : j9l4.toInt ≤ (8 : Int) := Int.le_trans gc12 ba2_u
        have l12f_a2 : (1 : Int) ≤ a2.toInt := Int.le_trans bj9l4_l gc12
        refine lv_iload_n hx hb dX8_turnsOf_15 rfl (lv_at hl 3 rfl) ?_
        have u15z_j9l3 : j9l3.toInt ≤ (8 : Int) := by omega
        refine lv_aload_n hx hb dX8_turnsOf_16 rfl (lv_at hl 0 rfl) ?_
        refine lv_iload hx hb dX8_turnsOf_17 (lv_at hl 4 rfl) ?_
        refine zc_cutc (wc := [(a0, .inr (8, [a0g_0, a0g_1, a0g_2, a0g_3, a0g_4, a0g_5, a0g_6, a0g_7, a0g_8, a0g_9, a0g_10, a0g_11, a0g_12, a0g_13, a0g_14, Value.ref a0_15, a0g_16, Value.ref a0_17, a0g_18, a0g_19, a0g_20, a0g_21, a0g_22, a0g_23, a0g_24, a0g_25, a0g_26, a0g_27, a0g_28, Value.ref a0_29, Value.int v1na0_30, Value.int v1na0_31, a0g_32, a0g_33, a0g_34, a0g_35, a0g_36, a0g_37, a0g_38, a0g_39])), (a0_29, .inl (ka0_29, 10, .inl (v1nfa0_29)))]) hP hD hS hA [0, 2] (by decide +kernel) rfl (fun hPc hDc hFc hCc => ?_)
        have hKc := hK.sub (tys' := [(ka0_29, .int)]) [1] rfl
        refine va_calli (va_runV (As := [.int j9l4]) (rest := [.int j9l3]) ⟨hx, hb, hml, hown, hts⟩ (c_X8_turnAt l dC dI H.size a0 j9l4 a0g_0 a0g_1 a0g_2 a0g_3 a0g_4 a0g_5 a0g_6 a0g_7 a0g_8 a0g_9 a0g_10 a0g_11 a0g_12 a0g_13 a0g_14 (Value.ref a0_15) a0g_16 (Value.ref a0_17) a0g_18 a0g_19 a0g_20 a0g_21 a0g_22 a0g_23 a0g_24 a0g_25 a0g_26 a0g_27 a0g_28 a0g_32 a0g_33 a0g_34 a0g_35 a0g_36 a0g_37 a0g_38 a0g_39 a0_29 v1na0_30 v1na0_31 ka0_29 v1nfa0_29 (Int.le_trans zq4 bj9l4_l) (by omega : (0 : Int) ≤ v1na0_30.toInt) (by omega : v1na0_30.toInt ≤ (8 : Int)) (by omega : (1 : Int) ≤ v1na0_31.toInt) (by omega : v1na0_31.toInt ≤ (9 : Int)) bv1nfa0_29 (by omega)) (cwV 1 hts gX8_turnsOf_X8_turnAt rfl rfl rfl zd_X8_turnAt ⟨Nat.le_of_ble_eq_true rfl, Nat.le_of_ble_eq_true rfl⟩) ⟨ax_blind (fun _ _ _ _ _ => trivial), zr_8 hKc hPc (q0 := 0) rfl, ax_pre hPc hKc hDc (fun _ _ => trivial)⟩ rfl rfl hl.1 rfl (lv_room (Nat.le_of_ble_eq_true rfl)) dX8_turnsOf_19 ⟨Nat.le_of_ble_eq_true rfl, Nat.le_of_ble_eq_true rfl⟩) hS (fun q _ h => hFc q h) hFc (fun r19 u t H locs ht hvm hw hB hz1 hk1 hS1 => zo hB ht hS1 (fun hP1 hK1 hD1 hS => ?_))
        refine zc_backc (w := [(a0, .inr (8, [a0g_0, a0g_1, a0g_2, a0g_3, a0g_4, a0g_5, a0g_6, a0g_7, a0g_8, a0g_9, a0g_10, a0g_11, a0g_12, a0g_13, a0g_14, Value.ref a0_15, a0g_16, Value.ref a0_17, a0g_18, a0g_19, a0g_20, a0g_21, a0g_22, a0g_23, a0g_24, a0g_25, a0g_26, a0g_27, a0g_28, Value.ref a0_29, Value.int v1na0_30, Value.int v1na0_31, a0g_32, a0g_33, a0g_34, a0g_35, a0g_36, a0g_37, a0g_38, a0g_39])), (a0_17, .inl (ka0_17, 23, .inl (fa0_17))), (a0_29, .inl (ka0_29, 10, .inl (v1nfa0_29))), (a0_15, .inl (ka0_15, 156, .inl (fa0_15)))]) hP hD hCc hk1 hFc hP1 hD1 [.inr 0, .inl 1, .inr 1, .inl 3] (by decide +kernel) rfl (fun hP hD => ?_)
        have hw : (0 : Int) ≤ r19.toInt ∧ r19.toInt ≤ (8 : Int) := hw
        obtain ⟨h19_0, h19_1⟩ := hw
        refine lv_iload_n hx hb dX8_turnsOf_22 rfl (lv_at hl 1 rfl) ?_
        refine lv_icmp_ne (tgt := 30) hx hb dX8_turnsOf_23 (by decide) (fun c23 => ?_) (fun c23 => ?_)
        · have gc23 := ai_ne c23
          refine lv_iconst (v := 0) hx hb dX8_turnsOf_30 zk_iconst_0 ?_
          refine lv_iadd hx hb dX8_turnsOf_31 ?_
          refine lv_topi (fun x31 ex31 => ?_)
          have qx31 : x31.toInt = j9l3.toInt + (0 : Int32).toInt := ai_add ex31 ⟨bj9l3_l, u15z_j9l3⟩ ⟨zq5, zq6⟩ (by decide) (by decide)
          have bx31 : (0 : Int) ≤ x31.toInt ∧ x31.toInt ≤ 8 := ⟨by rw [qx31]; exact Int.add_le_add bj9l3_l zq5, by rw [qx31]; exact Int.add_le_add u15z_j9l3 zq6⟩
          have wx31 : x31.toInt = j9l3.toInt + 0 := qx31
          refine lv_istore_n (lv' := [(3, .int x31), (0, .ref a0), (1, .int a1), (2, .int a2), (4, .int j9l4)]) hx hb dX8_turnsOf_32 rfl hl (by decide) rfl (fun ls hl => ?_)
          obtain ⟨x33, ex33⟩ : ∃ y : Int32, y = j9l4 + Int32.ofInt 1 := ⟨_, rfl⟩
          have qx33 : x33.toInt = j9l4.toInt + 1 := ai_inc ex33 (by decide) (by decide) u12f_j9l4 (by decide)
          have bx33 : (2 : Int) ≤ x33.toInt ∧ x33.toInt ≤ 9 := ⟨by rw [qx33]; exact Int.add_le_add bj9l4_l (Int.le_refl _), by rw [qx33]; exact Int.add_le_add u12f_j9l4 (Int.le_refl _)⟩
          refine lv_iinc (v := x33) (lv' := [(4, .int x33), (3, .int x31), (0, .ref a0), (1, .int a1), (2, .int a2)]) hx hb dX8_turnsOf_33 hl (k := 4) rfl ex33.symm (by decide) rfl (fun ls hl => ?_)
          refine lv_goto (tgt := 9) hx hb dX8_turnsOf_36 (by decide) ?_
          exact (hK0 _ _ _).mp (ih9 x33 x31 _ _ _ (by first | exact zg_s hm9 qx33 | (have h0 := qx33; omega)) (Int.le_trans zq54 bx33.1) bx33.2 bx31.1 (Int.le_trans bx31.2 zq22) ⟨by omega, by omega⟩ hP hD hS (lv_sub hl [2, 3, 4, 1, 0] rfl))
        · have gc23 := ai_eq c23
          have u23f_a1 : a1.toInt ≤ (8 : Int) := Int.le_trans (Int.le_of_eq gc23.symm) h19_1
          have l23f_a1 : (0 : Int) ≤ a1.toInt := Int.le_trans h19_0 (Int.le_of_eq gc23)
          refine lv_iconst (v := 1) hx hb dX8_turnsOf_26 zk_iconst_1 ?_
          refine lv_goto (tgt := 31) hx hb dX8_turnsOf_27 (by decide) ?_
          refine lv_iadd hx hb dX8_turnsOf_31 ?_
          refine lv_topi (fun x31 ex31 => ?_)
          have qx31 : x31.toInt = j9l3.toInt + (1 : Int32).toInt := ai_add ex31 ⟨bj9l3_l, u15z_j9l3⟩ ⟨zq1, zq0⟩ (by decide) (by decide)
          have bx31 : (1 : Int) ≤ x31.toInt ∧ x31.toInt ≤ 9 := ⟨by rw [qx31]; exact Int.add_le_add bj9l3_l zq1, by rw [qx31]; exact Int.add_le_add u15z_j9l3 zq0⟩
          have wx31 : x31.toInt = j9l3.toInt + 1 := qx31
          refine lv_istore_n (lv' := [(3, .int x31), (0, .ref a0), (1, .int a1), (2, .int a2), (4, .int j9l4)]) hx hb dX8_turnsOf_32 rfl hl (by decide) rfl (fun ls hl => ?_)
          obtain ⟨x33, ex33⟩ : ∃ y : Int32, y = j9l4 + Int32.ofInt 1 := ⟨_, rfl⟩
          have qx33 : x33.toInt = j9l4.toInt + 1 := ai_inc ex33 (by decide) (by decide) u12f_j9l4 (by decide)
          have bx33 : (2 : Int) ≤ x33.toInt ∧ x33.toInt ≤ 9 := ⟨by rw [qx33]; exact Int.add_le_add bj9l4_l (Int.le_refl _), by rw [qx33]; exact Int.add_le_add u12f_j9l4 (Int.le_refl _)⟩
          refine lv_iinc (v := x33) (lv' := [(4, .int x33), (3, .int x31), (0, .ref a0), (1, .int a1), (2, .int a2)]) hx hb dX8_turnsOf_33 hl (k := 4) rfl ex33.symm (by decide) rfl (fun ls hl => ?_)
          refine lv_goto (tgt := 9) hx hb dX8_turnsOf_36 (by decide) ?_
          exact (hK0 _ _ _).mp (ih9 x33 x31 _ _ _ (by first | exact zg_s hm9 qx33 | (have h0 := qx33; omega)) (Int.le_trans zq54 bx33.1) bx33.2 (Int.le_trans zq4 bx31.1) bx31.2 ⟨by omega, by omega⟩ hP hD hS (lv_sub hl [2, 3, 4, 1, 0] rfl))
  exact (hK0 _ _ _).mp (J9 9 1 0 _ _ _ (by first | decide +kernel | (have h1 : (1 : Int) ≤ (1 : Int32).toInt := zq1; have h2 : (1 : Int32).toInt ≤ (1 : Int) := zq0; omega)) zq1 (Int.le_trans zq0 zq56) zq5 (Int.le_trans zq6 zq7) (by decide) hP hD hS (lv_sub hl [2, 3, 4, 1, 0] rfl))

set_option maxHeartbeats 4000000 in
set_option maxRecDepth 100000 in
theorem c_X8_lowest (l : Launch) (dC : Nat → ClassId) (dI : Nat → Nat → Nat) (sz : Nat) (a1 : Int64) (a2 : Int64) (a3 : Int32) (hd : ¬ a2 = 0) : zm l yX8_lowest wsX8_lowest ({ frames := 0, cells := 0, slots := 0, locals := 0 }) [.long a1, .long a2, .int a3] dC dI sz [] [] (fun A _ => True) (fun A => va_Ql (fun (r : Int64) (_ : Unit) => True) (fun (_ : Unit) (t : State) => ax_B dC dI A [] [] t) A) := by
  refine zh (cc := cX8_lowest) (maxL := 11) (ret := (some .long)) zn_RX8 rfl (Nat.le_of_ble_eq_true rfl) (fun p e s m below meth c A ls hx hb hml hr hts (hown : s.vm.findClass RX8 = some m.cls) hlocks hA hS hP hK hD hE (hl : lv_has ls 11 [(0, .long a1), (2, .long a2), (4, .int a3)]) => ?_)
  refine ai_open (fun K hK0 => ?_)
  refine (hK0 _ _ _).mpr ?_
  refine lv_lload_n hx hb dX8_lowest_0 rfl (lv_at hl 1 rfl) ?_
  refine lv_lstore (lv' := [(5, .long a2), (0, .long a1), (2, .long a2), (4, .int a3)]) hx hb dX8_lowest_1 hl (by decide) rfl (fun ls hl => ?_)
  refine lv_lload_n hx hb dX8_lowest_3 rfl (lv_at hl 1 rfl) ?_
  refine lv_lstore (lv' := [(7, .long a1), (5, .long a2), (0, .long a1), (2, .long a2), (4, .int a3)]) hx hb dX8_lowest_4 hl (by decide) rfl (fun ls hl => ?_)
  have J6 : ∀ (n : Nat) (j6l7 : Int64) (j6l5 : Int64) (H : Heap) (locs : List Loc) (ls : Array Slot), j6l7.toInt.natAbs < n → (¬ j6l5 = 0) → va_P (dC, dI) vwCl [] H → va_D A [] → va_S A s.heap H locs → lv_has ls 11 [(0, .long a1), (2, .long a2), (4, .int a3), (5, .long j6l5), (7, .long j6l7)] → K H locs (F0 m 6 ls []) := by
    intro n
    induction n with
    | zero =>
      intro j6l7 j6l5 H locs ls hm nz6 hP hD hS hl
      exact absurd hm (by omega)
    | succ n ih6 =>
      intro j6l7 j6l5 H locs ls hm nz6 hP hD hS hl
      refine (hK0 _ _ _).mpr ?_
      have hm6 := hm
      refine lv_lload hx hb dX8_lowest_6 (lv_at hl 4 rfl) ?_
      refine lv_lconst (v := 0) hx hb dX8_lowest_8 (by decide) ?_
      refine W.lcmp hx hb dX8_lowest_9 ?_
      refine lv_topi (fun x9 ex9 => ?_)
      refine lv_if_eq (tgt := 31) hx hb dX8_lowest_10 (by decide) (fun c10 => ?_) (fun c10 => ?_)
      · have gc10 := ai_eq c10
        have u10t_x9 : x9.toInt ≤ (0 : Int) := Int.le_trans (Int.le_of_eq gc10) zq6
        have l10t_x9 : (0 : Int) ≤ x9.toInt := Int.le_trans zq5 (Int.le_of_eq gc10.symm)
        refine lv_iload hx hb dX8_lowest_31 (lv_at hl 2 rfl) ?_
        have J41 : ∀ (j41s0 : Int64) (H : Heap) (locs : List Loc) (ls : Array Slot), va_P (dC, dI) vwCl [] H → va_D A [] → va_S A s.heap H locs → lv_has ls 11 [(5, .long j6l5)] → K H locs (F0 m 41 ls [.long j41s0]) := by
          intro j41s0 H locs ls   hP hD hS hl
          refine (hK0 _ _ _).mpr ?_
          refine lv_lload hx hb dX8_lowest_41 (lv_at hl 0 rfl) ?_
          refine lv_ldiv hx hb dX8_lowest_43 nz6 ?_
          refine lv_topl (fun x43 ex43 => ?_)
          exact W.lret (v := x43) hx hb hr (fun t ht hW => ⟨⟨x43, (), rfl, trivial, by rw [ht]; exact hP, va_K.moved hW.alike hK, hD⟩, hS.F ht⟩) hS.2.2 dX8_lowest_44
        refine lv_if_eq (tgt := 40) hx hb dX8_lowest_33 (by decide) (fun c33 => ?_) (fun c33 => ?_)
        · have gc33 := ai_eq c33
          have u33t_a3 : a3.toInt ≤ (0 : Int) := Int.le_trans (Int.le_of_eq gc33) zq6
          have l33t_a3 : (0 : Int) ≤ a3.toInt := Int.le_trans zq5 (Int.le_of_eq gc33.symm)
          refine lv_lload_n hx hb dX8_lowest_40 rfl (lv_at hl 0 rfl) ?_
          exact (hK0 _ _ _).mp (J41 a1 _ _ _   hP hD hS (lv_sub hl [3] rfl))
        · have gc33 := ai_ne c33
          refine lv_lload_n hx hb dX8_lowest_36 rfl (lv_at hl 1 rfl) ?_
          refine lv_goto (tgt := 41) hx hb dX8_lowest_37 (by decide) ?_
          exact (hK0 _ _ _).mp (J41 a2 _ _ _   hP hD hS (lv_sub hl [3] rfl))
      · have gc10 := ai_ne c10
        have zc10 : ¬ j6l7 = 0 := ai_lcne ex9 c10
        refine lv_lload hx hb dX8_lowest_13 (lv_at hl 3 rfl) ?_
        refine lv_lload hx hb dX8_lowest_15 (lv_at hl 4 rfl) ?_
        refine lv_lrem hx hb dX8_lowest_17 zc10 ?_
        refine lv_topl (fun x17 ex17 => ?_)
        refine lv_lstore (lv' := [(9, .long x17), (0, .long a1), (2, .long a2), (4, .int a3), (5, .long j6l5), (7, .long j6l7)]) hx hb dX8_lowest_18 hl (by decide) rfl (fun ls hl => ?_)
        refine lv_lload hx hb dX8_lowest_20 (lv_at hl 5 rfl) ?_
        refine lv_lstore (lv' := [(5, .long j6l7), (9, .long x17), (0, .long a1), (2, .long a2), (4, .int a3), (7, .long j6l7)]) hx hb dX8_lowest_22 hl (by decide) rfl (fun ls hl => ?_)
        refine lv_lload hx hb dX8_lowest_24 (lv_at hl 1 rfl) ?_
        refine lv_lstore (lv' := [(7, .long x17), (5, .long j6l7), (9, .long x17), (0, .long a1), (2, .long a2), (4, .int a3)]) hx hb dX8_lowest_26 hl (by decide) rfl (fun ls hl => ?_)
        refine lv_goto (tgt := 6) hx hb dX8_lowest_28 (by decide) ?_
        exact (hK0 _ _ _).mp (ih6 x17 j6l7 _ _ _ (by have h1 := lw_mod (x := j6l5) zc10; rw [← ex17] at h1; omega) zc10 hP hD hS (lv_sub hl [3, 4, 5, 1, 0] rfl))
  exact (hK0 _ _ _).mp (J6 9223372036854775809 a1 a2 _ _ _ (lw_b _) hd hP hD hS (lv_sub hl [2, 3, 4, 1, 0] rfl))

set_option maxHeartbeats 4000000 in
set_option maxRecDepth 100000 in
theorem c_X8_odds (l : Launch) (dC : Nat → ClassId) (dI : Nat → Nat → Nat) (sz : Nat) (a0 : Nat) (a1 : Int32) (a2 : Int32) (a3 : Int32) (a0_0 : Int32) (a0g_1 a0g_2 a0g_3 a0g_4 a0g_5 a0g_6 a0g_7 a0g_8 a0g_9 a0g_10 a0g_12 a0g_13 a0g_16 a0g_18 a0g_19 a0g_20 a0g_21 a0g_22 a0g_23 a0g_24 a0g_25 a0g_26 a0g_27 a0g_28 a0g_32 a0g_33 a0g_34 a0g_35 a0g_36 a0g_37 a0g_38 a0g_39 : Value) (a0_11 : Int32) (a0_14 : Int32) (a0_15 : Nat) (a0_17 : Nat) (a0_29 : Nat) (a0_30 : Int32) (a0_31 : Int32) (ka0_15 : ClassId) (fa0_15 : Nat → Int32) (ka0_17 : ClassId) (fa0_17 : Nat → Int32) (ka0_29 : ClassId) (fa0_29 : Nat → Int32) (ba0_14_l : (1 : Int) ≤ a0_14.toInt) (ba0_14_u : a0_14.toInt ≤ (1 : Int)) (bfa0_15 : ((∀ k : Nat, 0 ≤ k → k ≤ 0 → (2 : Int) ≤ (fa0_15 k).toInt ∧ (fa0_15 k).toInt ≤ 9) ∧ (∀ k : Nat, 1 ≤ k → k ≤ 1 → (1 : Int) ≤ (fa0_15 k).toInt ∧ (fa0_15 k).toInt ≤ 20) ∧ (∀ k : Nat, 2 ≤ k → k ≤ 2 → (0 : Int) ≤ (fa0_15 k).toInt ∧ (fa0_15 k).toInt ≤ 8) ∧ (∀ k : Nat, 3 ≤ k → k ≤ 3 → (0 : Int) ≤ (fa0_15 k).toInt ∧ (fa0_15 k).toInt ≤ 100) ∧ (∀ k : Nat, 4 ≤ k → k ≤ 4 → (0 : Int) ≤ (fa0_15 k).toInt ∧ (fa0_15 k).toInt ≤ 9) ∧ (∀ k : Nat, 5 ≤ k → k ≤ 5 → (0 : Int) ≤ (fa0_15 k).toInt ∧ (fa0_15 k).toInt ≤ 3) ∧ (∀ k : Nat, 6 ≤ k → k ≤ 6 → (0 : Int) ≤ (fa0_15 k).toInt ∧ (fa0_15 k).toInt ≤ 6) ∧ (∀ k : Nat, 7 ≤ k → k ≤ 9 → (0 : Int) ≤ (fa0_15 k).toInt ∧ (fa0_15 k).toInt ≤ 8) ∧ (∀ k : Nat, 12 ≤ k → k ≤ 29 → (0 : Int) ≤ (fa0_15 k).toInt ∧ (fa0_15 k).toInt ≤ 20) ∧ (∀ k : Nat, 30 ≤ k → k ≤ 35 → (0 : Int) ≤ (fa0_15 k).toInt ∧ (fa0_15 k).toInt ≤ 8) ∧ (∀ k : Nat, 36 ≤ k → k ≤ 47 → (0 : Int) ≤ (fa0_15 k).toInt ∧ (fa0_15 k).toInt ≤ 999))) (bfa0_17 : ((∀ k : Nat, 0 ≤ k → k ≤ 8 → (0 : Int) ≤ (fa0_17 k).toInt ∧ (fa0_17 k).toInt ≤ 8) ∧ (∀ k : Nat, 19 ≤ k → k ≤ 19 → (0 : Int) ≤ (fa0_17 k).toInt ∧ (fa0_17 k).toInt ≤ 8) ∧ (∀ k : Nat, 20 ≤ k → k ≤ 20 → (0 : Int) ≤ (fa0_17 k).toInt ∧ (fa0_17 k).toInt ≤ 19))) (bfa0_29 : (∀ k, (0 : Int) ≤ (fa0_29 k).toInt ∧ (fa0_29 k).toInt ≤ 8)) : zm l yX8_odds wsX8_odds ({ frames := 3, cells := 0, slots := 0, locals := 68 }) [.ref a0, .int a1, .int a2, .int a3] dC dI sz [(a0, .inr (8, [Value.int a0_0, a0g_1, a0g_2, a0g_3, a0g_4, a0g_5, a0g_6, a0g_7, a0g_8, a0g_9, a0g_10, Value.int a0_11, a0g_12, a0g_13, Value.int a0_14, Value.ref a0_15, a0g_16, Value.ref a0_17, a0g_18, a0g_19, a0g_20, a0g_21, a0g_22, a0g_23, a0g_24, a0g_25, a0g_26, a0g_27, a0g_28, Value.ref a0_29, Value.int a0_30, Value.int a0_31, a0g_32, a0g_33, a0g_34, a0g_35, a0g_36, a0g_37, a0g_38, a0g_39])), (a0_15, .inl (ka0_15, 156, .inl (fa0_15))), (a0_17, .inl (ka0_17, 23, .inl (fa0_17))), (a0_29, .inl (ka0_29, 10, .inl (fa0_29)))] [(ka0_15, .int), (ka0_17, .int), (ka0_29, .int)] (fun A _ => True) (fun A => va_Ql (fun (r : Int64) (_ : Unit) => True) (fun (_ : Unit) (t : State) => ∃ na0_0 : Int32, ∃ na0_11 : Int32, ∃ na0_30 : Int32, ∃ na0_31 : Int32, ∃ nfa0_29 : Nat → Int32, (∀ k, (0 : Int) ≤ (nfa0_29 k).toInt ∧ (nfa0_29 k).toInt ≤ 8) ∧ ax_B dC dI A [(a0, .inr (8, [Value.int na0_0, a0g_1, a0g_2, a0g_3, a0g_4, a0g_5, a0g_6, a0g_7, a0g_8, a0g_9, a0g_10, Value.int na0_11, a0g_12, a0g_13, Value.int a0_14, Value.ref a0_15, a0g_16, Value.ref a0_17, a0g_18, a0g_19, a0g_20, a0g_21, a0g_22, a0g_23, a0g_24, a0g_25, a0g_26, a0g_27, a0g_28, Value.ref a0_29, Value.int na0_30, Value.int na0_31, a0g_32, a0g_33, a0g_34, a0g_35, a0g_36, a0g_37, a0g_38, a0g_39])), (a0_15, .inl (ka0_15, 156, .inl (fa0_15))), (a0_17, .inl (ka0_17, 23, .inl (fa0_17))), (a0_29, .inl (ka0_29, 10, .inl (nfa0_29)))] [(ka0_15, .int), (ka0_17, .int), (ka0_29, .int)] t) A) := by
  refine zh (cc := cX8_odds) (maxL := 11) (ret := (some .long)) zn_RX8 rfl (Nat.le_of_ble_eq_true rfl) (fun p e s m below meth c A ls hx hb hml hr hts (hown : s.vm.findClass RX8 = some m.cls) hlocks hA hS hP hK hD hE (hl : lv_has ls 11 [(0, .ref a0), (1, .int a1), (2, .int a2), (3, .int a3)]) => ?_)
  refine lv_aload_n hx hb dX8_odds_0 rfl (lv_at hl 0 rfl) ?_
  refine va_callv (va_runV (As := []) (rest := []) ⟨hx, hb, hml, hown, hts⟩ (c_X8_good l dC dI s.heap.size a0 a0_0 a0g_1 a0g_2 a0g_3 a0g_4 a0g_5 a0g_6 a0g_7 a0g_8 a0g_9 a0g_10 a0g_12 a0g_13 (Value.int a0_14) (Value.ref a0_15) a0g_16 (Value.ref a0_17) a0g_18 a0g_19 a0g_20 a0g_21 a0g_22 a0g_23 a0g_24 a0g_25 a0g_26 a0g_27 a0g_28 (Value.ref a0_29) (Value.int a0_30) (Value.int a0_31) a0g_32 a0g_33 a0g_34 a0g_35 a0g_36 a0g_37 a0g_38 a0g_39 a0_11 ) (cwV 0 hts gX8_odds_X8_good rfl rfl rfl zd_X8_good ⟨Nat.le_of_ble_eq_true rfl, Nat.le_of_ble_eq_true rfl⟩) ⟨ax_blind (fun _ _ _ _ _ => trivial), zr_8 (zp_K hK) (zp_P1 hP) (q0 := 0) rfl, ax_pre (zp_P1 hP) (zp_K hK) (zp_D1 hD) (fun _ _ => trivial)⟩ rfl rfl hl.1 rfl (lv_room (Nat.le_of_ble_eq_true rfl)) dX8_odds_1 ⟨Nat.le_of_ble_eq_true rfl, Nat.le_of_ble_eq_true rfl⟩) hS (fun q _ h => zp_F1 hD hS hA q h) (zp_F1 hD hS hA) (fun u t H locs ht hvm hw => zx_2 (fun v1na0_0 v1na0_11 hB hz1 hk1 hS1 => zo1 hB ht hP hD hk1 (zp_F1 hD hS hA) hS1 (fun hP hK1 hD hS => ?_)))
  refine lv_aload_n hx hb dX8_odds_4 rfl (lv_at hl 0 rfl) ?_
  refine lv_aload_n hx hb dX8_odds_5 rfl (lv_at hl 0 rfl) ?_
  refine lv_iload_n hx hb dX8_odds_6 rfl (lv_at hl 1 rfl) ?_
  have hKc := hK.sub (tys' := [(ka0_15, .int)]) [0] rfl
  refine va_calli (va_runV (As := [.int a1]) (rest := [.ref a0]) ⟨hx, hb, hml, hown, hts⟩ (c_X8_isFigure l dC dI H.size a0 a1 (Value.int v1na0_0) a0g_1 a0g_2 a0g_3 a0g_4 a0g_5 a0g_6 a0g_7 a0g_8 a0g_9 a0g_10 (Value.int v1na0_11) a0g_12 a0g_13 a0g_16 (Value.ref a0_17) a0g_18 a0g_19 a0g_20 a0g_21 a0g_22 a0g_23 a0g_24 a0g_25 a0g_26 a0g_27 a0g_28 (Value.ref a0_29) (Value.int a0_30) (Value.int a0_31) a0g_32 a0g_33 a0g_34 a0g_35 a0g_36 a0g_37 a0g_38 a0g_39 a0_14 a0_15 ka0_15 fa0_15 ba0_14_l ba0_14_u bfa0_15) (cwV 1 hts gX8_odds_X8_isFigure rfl rfl rfl zd_X8_isFigure ⟨Nat.le_of_ble_eq_true rfl, Nat.le_of_ble_eq_true rfl⟩) ⟨ax_blind (fun _ _ _ _ _ => trivial), zr_8 hKc (zp_P2 hP) (q0 := 0) rfl, ax_pre (zp_P2 hP) hKc (zp_D2 hD) (fun _ _ => trivial)⟩ rfl rfl hl.1 rfl (lv_room (Nat.le_of_ble_eq_true rfl)) dX8_odds_7 ⟨Nat.le_of_ble_eq_true rfl, Nat.le_of_ble_eq_true rfl⟩) hS (fun q _ h => zp_F2 hD hS hA q h) (zp_F2 hD hS hA) (fun r7 u t H locs ht hvm hw hB hz1 hk1 hS1 => zo2 hB ht hP hD hk1 (zp_F2 hD hS hA) hS1 (fun hP hK1 hD hS => ?_))
  rcases hw with hw | hw
  · obtain ⟨hw, h7_0, h7_1⟩ := hw
    subst hw
    have l7k0_a1 : (0 : Int) ≤ a1.toInt := h7_0
    have u7k0_a1 : a1.toInt ≤ (8 : Int) := h7_1
    refine lv_iload_n hx hb dX8_odds_10 rfl (lv_at hl 2 rfl) ?_
    refine lv_iconst (v := 0) hx hb dX8_odds_11 zk_iconst_0 ?_
    refine lv_bipush (v := 8) hx hb dX8_odds_12 zk_bipush_8 ?_
    refine va_calli (va_runS (As := [.int a2, .int 0, .int 8]) (rest := [.int 1, .ref a0]) ⟨hx, hb, hml, hown, hts⟩ (c_X8_in l dC dI H.size a2 0 8 ) (va_cwS 3 hts gX8_odds_X8_in rfl rfl rfl zd_X8_in.2 ⟨Nat.le_of_ble_eq_true rfl, Nat.le_of_ble_eq_true rfl⟩) ⟨ax_blind (fun _ _ _ _ _ => trivial), ax_pre (zp_P0 hP) (zp_K hK) (zp_D0 hD) (fun _ _ => trivial)⟩ rfl rfl hl.1 rfl (lv_room (Nat.le_of_ble_eq_true rfl)) dX8_odds_14 ⟨Nat.le_of_ble_eq_true rfl, Nat.le_of_ble_eq_true rfl⟩) hS (fun q _ h => zp_F0 hD hS hA q h) (zp_F0 hD hS hA) (fun r14 u t H locs ht hvm hw hB hz1 hk1 hS1 => zo0 hB ht hP hD hk1 (zp_F0 hD hS hA) hS1 (fun hP hK1 hD hS => ?_))
    rcases hw with hw | hw
    · obtain ⟨hw, h14⟩ := hw
      subst hw
      have l14k0_a2 : (0 : Int) ≤ a2.toInt := Int.le_trans zq5 h14.1
      have u14k0_a2 : a2.toInt ≤ (8 : Int) := Int.le_trans h14.2 zq28
      refine va_calli (va_runV (As := [.int 1, .int 1]) (rest := []) ⟨hx, hb, hml, hown, hts⟩ (c_X8_whyB l dC dI H.size a0 1 1 (Value.int v1na0_0) a0g_1 a0g_2 a0g_3 a0g_4 a0g_5 a0g_6 a0g_7 a0g_8 a0g_9 a0g_10 (Value.int v1na0_11) a0g_12 a0g_13 (Value.int a0_14) (Value.ref a0_15) a0g_16 (Value.ref a0_17) a0g_18 a0g_19 a0g_20 a0g_21 a0g_22 a0g_23 a0g_24 a0g_25 a0g_26 a0g_27 a0g_28 (Value.ref a0_29) (Value.int a0_30) (Value.int a0_31) a0g_32 a0g_33 a0g_34 a0g_35 a0g_36 a0g_37 a0g_38 a0g_39 (Int.le_trans zq4 zq1) zq0 (Int.le_trans zq4 zq1) zq0) (cwV 2 hts gX8_odds_X8_why rfl rfl rfl zd_X8_why ⟨Nat.le_of_ble_eq_true rfl, Nat.le_of_ble_eq_true rfl⟩) ⟨ax_blind (fun _ _ _ _ _ => trivial), zr_8 (zp_K hK) (zp_P1 hP) (q0 := 0) rfl, ax_pre (zp_P1 hP) (zp_K hK) (zp_D1 hD) (fun _ _ => trivial)⟩ rfl rfl hl.1 rfl (lv_room (Nat.le_of_ble_eq_true rfl)) dX8_odds_17 ⟨Nat.le_of_ble_eq_true rfl, Nat.le_of_ble_eq_true rfl⟩) hS (fun q _ h => zp_F1 hD hS hA q h) (zp_F1 hD hS hA) (fun r17 u t H locs ht hvm hw hB hz1 hk1 hS1 => zo1 hB ht hP hD hk1 (zp_F1 hD hS hA) hS1 (fun hP hK1 hD hS => ?_))
      rcases hw with hw | hw | hw
      · obtain ⟨hw, h17_0, h17_1, h17_2, h17_3⟩ := hw
        subst hw
        exact absurd h17_3 (by decide)
      · obtain ⟨hw, h17_0, h17_1⟩ := hw
        subst hw
        exact absurd h17_1 (by decide)
      · obtain ⟨hw, h17_0, h17_1, h17_2, h17_3⟩ := hw
        subst hw
        refine lv_istore (lv' := [(4, .int 0), (0, .ref a0), (1, .int a1), (2, .int a2), (3, .int a3)]) hx hb dX8_odds_20 hl (by decide) rfl (fun ls hl => ?_)
        refine lv_iload hx hb dX8_odds_22 (lv_at hl 0 rfl) ?_
        refine lv_if_eq (tgt := 35) hx hb dX8_odds_24 (by decide) (fun _ => ?_) (fun c24 => absurd (by decide +kernel) c24)
        refine lv_aload_n hx hb dX8_odds_35 rfl (lv_at hl 1 rfl) ?_
        refine lv_iload_n hx hb dX8_odds_36 rfl (lv_at hl 2 rfl) ?_
        refine lv_iload_n hx hb dX8_odds_37 rfl (lv_at hl 3 rfl) ?_
        refine zc_cutc (wc := [(a0, .inr (8, [Value.int v1na0_0, a0g_1, a0g_2, a0g_3, a0g_4, a0g_5, a0g_6, a0g_7, a0g_8, a0g_9, a0g_10, Value.int v1na0_11, a0g_12, a0g_13, Value.int a0_14, Value.ref a0_15, a0g_16, Value.ref a0_17, a0g_18, a0g_19, a0g_20, a0g_21, a0g_22, a0g_23, a0g_24, a0g_25, a0g_26, a0g_27, a0g_28, Value.ref a0_29, Value.int a0_30, Value.int a0_31, a0g_32, a0g_33, a0g_34, a0g_35, a0g_36, a0g_37, a0g_38, a0g_39])), (a0_17, .inl (ka0_17, 23, .inl (fa0_17))), (a0_29, .inl (ka0_29, 10, .inl (fa0_29))), (a0_15, .inl (ka0_15, 156, .inl (fa0_15)))]) hP hD hS hA [0, 2, 3, 1] (by decide +kernel) rfl (fun hPc hDc hFc hCc => ?_)
        have hKc := hK.sub (tys' := [(ka0_17, .int), (ka0_29, .int), (ka0_15, .int)]) [1, 2, 0] rfl
        refine va_calli (va_runV (As := [.int a1, .int a2]) (rest := []) ⟨hx, hb, hml, hown, hts⟩ (c_X8_turnsOf l dC dI H.size a0 a1 a2 (Value.int v1na0_0) a0g_1 a0g_2 a0g_3 a0g_4 a0g_5 a0g_6 a0g_7 a0g_8 a0g_9 a0g_10 (Value.int v1na0_11) a0g_12 a0g_13 (Value.int a0_14) a0g_16 a0g_18 a0g_19 a0g_20 a0g_21 a0g_22 a0g_23 a0g_24 a0g_25 a0g_26 a0g_27 a0g_28 a0g_32 a0g_33 a0g_34 a0g_35 a0g_36 a0g_37 a0g_38 a0g_39 a0_15 a0_17 a0_29 a0_30 a0_31 ka0_17 fa0_17 ka0_29 fa0_29 ka0_15 fa0_15 l14k0_a2 u14k0_a2 bfa0_17 bfa0_29 bfa0_15) (cwV 2 hts gX8_odds_X8_turnsOf rfl rfl rfl zd_X8_turnsOf ⟨Nat.le_of_ble_eq_true rfl, Nat.le_of_ble_eq_true rfl⟩) ⟨ax_blind (fun _ _ _ _ _ => trivial), zr_8 hKc hPc (q0 := 0) rfl, ax_pre hPc hKc hDc (fun _ _ => trivial)⟩ rfl rfl hl.1 rfl (lv_room (Nat.le_of_ble_eq_true rfl)) dX8_odds_38 ⟨Nat.le_of_ble_eq_true rfl, Nat.le_of_ble_eq_true rfl⟩) hS (fun q _ h => hFc q h) hFc (fun r38 u t H locs ht hvm hw => zx_3 (fun v38na0_30 v38na0_31 v38nfa0_29 => zy_1 (fun bv38nfa0_29 hB hz1 hk1 hS1 => zo hB ht hS1 (fun hP1 hK1 hD1 hS => ?_))))
        refine zc_backc (w := [(a0, .inr (8, [Value.int v1na0_0, a0g_1, a0g_2, a0g_3, a0g_4, a0g_5, a0g_6, a0g_7, a0g_8, a0g_9, a0g_10, Value.int v1na0_11, a0g_12, a0g_13, Value.int a0_14, Value.ref a0_15, a0g_16, Value.ref a0_17, a0g_18, a0g_19, a0g_20, a0g_21, a0g_22, a0g_23, a0g_24, a0g_25, a0g_26, a0g_27, a0g_28, Value.ref a0_29, Value.int v38na0_30, Value.int v38na0_31, a0g_32, a0g_33, a0g_34, a0g_35, a0g_36, a0g_37, a0g_38, a0g_39])), (a0_15, .inl (ka0_15, 156, .inl (fa0_15))), (a0_17, .inl (ka0_17, 23, .inl (fa0_17))), (a0_29, .inl (ka0_29, 10, .inl (v38nfa0_29)))]) hP hD hCc hk1 hFc hP1 hD1 [.inr 0, .inr 3, .inr 1, .inr 2] (by decide +kernel) rfl (fun hP hD => ?_)
        have hw : (0 : Int) ≤ r38.toInt ∧ r38.toInt ≤ (8 : Int) := hw
        obtain ⟨h38_0, h38_1⟩ := hw
        refine lv_istore (lv' := [(5, .int r38), (4, .int 0), (0, .ref a0), (1, .int a1), (2, .int a2), (3, .int a3)]) hx hb dX8_odds_41 hl (by decide) rfl (fun ls hl => ?_)
        refine lv_lconst (v := 1) hx hb dX8_odds_43 (by decide) ?_
        refine lv_lstore (lv' := [(6, .long 1), (5, .int r38), (4, .int 0), (0, .ref a0), (1, .int a1), (2, .int a2), (3, .int a3)]) hx hb dX8_odds_44 hl (by decide) rfl (fun ls hl => ?_)
        refine lv_lconst (v := 1) hx hb dX8_odds_46 (by decide) ?_
        refine lv_lstore (lv' := [(8, .long 1), (6, .long 1), (5, .int r38), (4, .int 0), (0, .ref a0), (1, .int a1), (2, .int a2), (3, .int a3)]) hx hb dX8_odds_47 hl (by decide) rfl (fun ls hl => ?_)
        refine lv_iconst (v := 0) hx hb dX8_odds_49 zk_iconst_0 ?_
        refine lv_istore (lv' := [(10, .int 0), (8, .long 1), (6, .long 1), (5, .int r38), (4, .int 0), (0, .ref a0), (1, .int a1), (2, .int a2), (3, .int a3)]) hx hb dX8_odds_50 hl (by decide) rfl (fun ls hl => ?_)
        refine lv_iload hx hb dX8_odds_52 (lv_at hl 0 rfl) ?_
        refine lv_iload hx hb dX8_odds_54 (lv_at hl 3 rfl) ?_
        refine lv_icmp_ge (tgt := 85) hx hb dX8_odds_56 (by decide) (fun c56 => ?_) (fun c56 => ?_)
        · have gc56 := ai_le c56
          have u56t_r38 : r38.toInt ≤ (0 : Int) := Int.le_trans gc56 zq6
          refine lv_lload hx hb dX8_odds_85 (lv_at hl 2 rfl) ?_
          refine lv_lload hx hb dX8_odds_87 (lv_at hl 1 rfl) ?_
          refine lv_lsub hx hb dX8_odds_89 ?_
          refine lv_topl (fun x89 ex89 => ?_)
          refine lv_lload hx hb dX8_odds_90 (lv_at hl 2 rfl) ?_
          refine lv_iload_n hx hb dX8_odds_92 rfl (lv_at hl 8 rfl) ?_
          refine va_calll (va_runS (As := [.long x89, .long 1, .int a3]) (rest := []) ⟨hx, hb, hml, hown, hts⟩ (c_X8_lowest l dC dI H.size x89 1 a3 (by decide)) (va_cwS 3 hts gX8_odds_X8_lowest rfl rfl rfl zd_X8_lowest.2 ⟨Nat.le_of_ble_eq_true rfl, Nat.le_of_ble_eq_true rfl⟩) ⟨ax_blind (fun _ _ _ _ _ => trivial), ax_pre (zp_P0 hP) (zp_K hK) (zp_D0 hD) (fun _ _ => trivial)⟩ rfl rfl hl.1 rfl (lv_room (Nat.le_of_ble_eq_true rfl)) dX8_odds_93 ⟨Nat.le_of_ble_eq_true rfl, Nat.le_of_ble_eq_true rfl⟩) hS (fun q _ h => zp_F0 hD hS hA q h) (zp_F0 hD hS hA) (fun r93 u t H locs ht hvm hw hB hz1 hk1 hS1 => zo0 hB ht hP hD hk1 (zp_F0 hD hS hA) hS1 (fun hP hK1 hD hS => ?_))
          exact W.lret (v := r93) hx hb hr (fun t ht hW => ⟨⟨r93, (), rfl, trivial, v1na0_0, v1na0_11, v38na0_30, v38na0_31, v38nfa0_29, bv38nfa0_29, by rw [ht]; exact hP, va_K.moved hW.alike hK, hD⟩, hS.F ht⟩) hS.2.2 dX8_odds_96
        · have gc56 := ai_nle c56
          have l56f_r38 : (1 : Int) ≤ r38.toInt := ai_ltlo gc56 zq5
          refine lv_lload hx hb dX8_odds_59 (lv_at hl 2 rfl) ?_
          refine lv_ldc2 (v := 100) hx hb hown (hts (.constantLong RX8 368 (100)) (zm_X8_odds_r1 (List.mem_of_getElem? (i := 0) rfl))) dX8_odds_61 ?_
          refine lv_lmul hx hb dX8_odds_64 ?_
          refine ax_tv (.long 100) (by decide +kernel) ?_
          refine lv_lstore (lv' := [(6, .long 100), (10, .int 0), (8, .long 1), (5, .int r38), (4, .int 0), (0, .ref a0), (1, .int a1), (2, .int a2), (3, .int a3)]) hx hb dX8_odds_65 hl (by decide) rfl (fun ls hl => ?_)
          refine lv_lload hx hb dX8_odds_67 (lv_at hl 2 rfl) ?_
          refine lv_aload_n hx hb dX8_odds_69 rfl (lv_at hl 5 rfl) ?_
          refine va_get (D := (dC, dI)) (ci := 8) (v := .ref a0_15) (C := RX8) (T := TX8) (N := 40) hx hb hts zi_X8_odds_8 hown hK hP 0 rfl rfl 15 (by decide) (hts (.fieldLink RX8 20 "WaxTurnsModel" "\x72" "[I") (zm_X8_odds_r1 (List.mem_of_getElem? (i := 1) rfl))) (fun _ h9 => h9) rfl dX8_odds_70 ?_
          refine lv_iconst (v := 3) hx hb dX8_odds_73 zk_iconst_3 ?_
          refine va_iald hx hb hK hP 1 0 rfl rfl (by unfold vp_in; decide +kernel) dX8_odds_74 ?_
          refine lv_topi (fun x74 ex74 => ?_)
          have bx74 : (0 : Int) ≤ x74.toInt ∧ x74.toInt ≤ 100 := by rw [ex74]; exact ai_rd bfa0_15.2.2.2.1 zq8 zq9 (by decide) (by decide) (by decide)
          obtain ⟨x75, ex75⟩ : ∃ y : Int64, y = (x74 : Int32).toInt64 := ⟨_, rfl⟩
          refine lv_i2l (v := x75) hx hb dX8_odds_75 ex75.symm ?_
          refine lv_lmul hx hb dX8_odds_76 ?_
          refine lv_topl (fun x76 ex76 => ?_)
          refine lv_lstore (lv' := [(8, .long x76), (6, .long 100), (10, .int 0), (5, .int r38), (4, .int 0), (0, .ref a0), (1, .int a1), (2, .int a2), (3, .int a3)]) hx hb dX8_odds_77 hl (by decide) rfl (fun ls hl => ?_)
          refine lv_iinc (v := 1) (lv' := [(10, .int 1), (8, .long x76), (6, .long 100), (5, .int r38), (4, .int 0), (0, .ref a0), (1, .int a1), (2, .int a2), (3, .int a3)]) hx hb dX8_odds_79 hl (k := 2) rfl (by decide +kernel) (by decide) rfl (fun ls hl => ?_)
          refine lv_goto (tgt := 52) hx hb dX8_odds_82 (by decide) ?_
          refine lv_iload hx hb dX8_odds_52 (lv_at hl 0 rfl) ?_
          refine lv_iload hx hb dX8_odds_54 (lv_at hl 3 rfl) ?_
          refine lv_icmp_ge (tgt := 85) hx hb dX8_odds_56 (by decide) (fun c56 => ?_) (fun c56 => ?_)
          · have gc56 := ai_le c56
            have u56t_r38 : r38.toInt ≤ (1 : Int) := Int.le_trans gc56 zq0
            refine lv_lload hx hb dX8_odds_85 (lv_at hl 2 rfl) ?_
            refine lv_lload hx hb dX8_odds_87 (lv_at hl 1 rfl) ?_
            refine lv_lsub hx hb dX8_odds_89 ?_
            refine lv_topl (fun x89 ex89 => ?_)
            refine lv_lload hx hb dX8_odds_90 (lv_at hl 2 rfl) ?_
            refine lv_iload_n hx hb dX8_odds_92 rfl (lv_at hl 8 rfl) ?_
            refine va_calll (va_runS (As := [.long x89, .long 100, .int a3]) (rest := []) ⟨hx, hb, hml, hown, hts⟩ (c_X8_lowest l dC dI H.size x89 100 a3 (by decide)) (va_cwS 3 hts gX8_odds_X8_lowest rfl rfl rfl zd_X8_lowest.2 ⟨Nat.le_of_ble_eq_true rfl, Nat.le_of_ble_eq_true rfl⟩) ⟨ax_blind (fun _ _ _ _ _ => trivial), ax_pre (zp_P0 hP) (zp_K hK) (zp_D0 hD) (fun _ _ => trivial)⟩ rfl rfl hl.1 rfl (lv_room (Nat.le_of_ble_eq_true rfl)) dX8_odds_93 ⟨Nat.le_of_ble_eq_true rfl, Nat.le_of_ble_eq_true rfl⟩) hS (fun q _ h => zp_F0 hD hS hA q h) (zp_F0 hD hS hA) (fun r93 u t H locs ht hvm hw hB hz1 hk1 hS1 => zo0 hB ht hP hD hk1 (zp_F0 hD hS hA) hS1 (fun hP hK1 hD hS => ?_))
            exact W.lret (v := r93) hx hb hr (fun t ht hW => ⟨⟨r93, (), rfl, trivial, v1na0_0, v1na0_11, v38na0_30, v38na0_31, v38nfa0_29, bv38nfa0_29, by rw [ht]; exact hP, va_K.moved hW.alike hK, hD⟩, hS.F ht⟩) hS.2.2 dX8_odds_96
          · have gc56 := ai_nle c56
            have l56f_r38 : (2 : Int) ≤ r38.toInt := ai_ltlo gc56 zq1
            refine lv_lload hx hb dX8_odds_59 (lv_at hl 2 rfl) ?_
            refine lv_ldc2 (v := 100) hx hb hown (hts (.constantLong RX8 368 (100)) (zm_X8_odds_r1 (List.mem_of_getElem? (i := 0) rfl))) dX8_odds_61 ?_
            refine lv_lmul hx hb dX8_odds_64 ?_
            refine ax_tv (.long 10000) (by decide +kernel) ?_
            refine lv_lstore (lv' := [(6, .long 10000), (10, .int 1), (8, .long x76), (5, .int r38), (4, .int 0), (0, .ref a0), (1, .int a1), (2, .int a2), (3, .int a3)]) hx hb dX8_odds_65 hl (by decide) rfl (fun ls hl => ?_)
            refine lv_lload hx hb dX8_odds_67 (lv_at hl 2 rfl) ?_
            refine lv_aload_n hx hb dX8_odds_69 rfl (lv_at hl 5 rfl) ?_
            refine va_get (D := (dC, dI)) (ci := 8) (v := .ref a0_15) (C := RX8) (T := TX8) (N := 40) hx hb hts zi_X8_odds_8 hown hK hP 0 rfl rfl 15 (by decide) (hts (.fieldLink RX8 20 "WaxTurnsModel" "\x72" "[I") (zm_X8_odds_r1 (List.mem_of_getElem? (i := 1) rfl))) (fun _ h9 => h9) rfl dX8_odds_70 ?_
            refine lv_iconst (v := 3) hx hb dX8_odds_73 zk_iconst_3 ?_
            refine va_iald hx hb hK hP 1 0 rfl rfl (by unfold vp_in; decide +kernel) dX8_odds_74 ?_
            refine ax_ti x74 ex74.symm ?_
            obtain ⟨x75v2, ex75v2⟩ : ∃ y : Int64, y = (x74 : Int32).toInt64 := ⟨_, rfl⟩
            refine lv_i2l (v := x75v2) hx hb dX8_odds_75 ex75v2.symm ?_
            refine lv_lmul hx hb dX8_odds_76 ?_
            refine lv_topl (fun x76v2 ex76v2 => ?_)
            refine lv_lstore (lv' := [(8, .long x76v2), (6, .long 10000), (10, .int 1), (5, .int r38), (4, .int 0), (0, .ref a0), (1, .int a1), (2, .int a2), (3, .int a3)]) hx hb dX8_odds_77 hl (by decide) rfl (fun ls hl => ?_)
            refine lv_iinc (v := 2) (lv' := [(10, .int 2), (8, .long x76v2), (6, .long 10000), (5, .int r38), (4, .int 0), (0, .ref a0), (1, .int a1), (2, .int a2), (3, .int a3)]) hx hb dX8_odds_79 hl (k := 2) rfl (by decide +kernel) (by decide) rfl (fun ls hl => ?_)
            refine lv_goto (tgt := 52) hx hb dX8_odds_82 (by decide) ?_
            refine lv_iload hx hb dX8_odds_52 (lv_at hl 0 rfl) ?_
            refine lv_iload hx hb dX8_odds_54 (lv_at hl 3 rfl) ?_
            refine lv_icmp_ge (tgt := 85) hx hb dX8_odds_56 (by decide) (fun c56 => ?_) (fun c56 => ?_)
            · have gc56 := ai_le c56
              have u56t_r38 : r38.toInt ≤ (2 : Int) := Int.le_trans gc56 zq13
              refine lv_lload hx hb dX8_odds_85 (lv_at hl 2 rfl) ?_
              refine lv_lload hx hb dX8_odds_87 (lv_at hl 1 rfl) ?_
              refine lv_lsub hx hb dX8_odds_89 ?_
              refine lv_topl (fun x89 ex89 => ?_)
              refine lv_lload hx hb dX8_odds_90 (lv_at hl 2 rfl) ?_
              refine lv_iload_n hx hb dX8_odds_92 rfl (lv_at hl 8 rfl) ?_
              refine va_calll (va_runS (As := [.long x89, .long 10000, .int a3]) (rest := []) ⟨hx, hb, hml, hown, hts⟩ (c_X8_lowest l dC dI H.size x89 10000 a3 (by decide)) (va_cwS 3 hts gX8_odds_X8_lowest rfl rfl rfl zd_X8_lowest.2 ⟨Nat.le_of_ble_eq_true rfl, Nat.le_of_ble_eq_true rfl⟩) ⟨ax_blind (fun _ _ _ _ _ => trivial), ax_pre (zp_P0 hP) (zp_K hK) (zp_D0 hD) (fun _ _ => trivial)⟩ rfl rfl hl.1 rfl (lv_room (Nat.le_of_ble_eq_true rfl)) dX8_odds_93 ⟨Nat.le_of_ble_eq_true rfl, Nat.le_of_ble_eq_true rfl⟩) hS (fun q _ h => zp_F0 hD hS hA q h) (zp_F0 hD hS hA) (fun r93 u t H locs ht hvm hw hB hz1 hk1 hS1 => zo0 hB ht hP hD hk1 (zp_F0 hD hS hA) hS1 (fun hP hK1 hD hS => ?_))
              exact W.lret (v := r93) hx hb hr (fun t ht hW => ⟨⟨r93, (), rfl, trivial, v1na0_0, v1na0_11, v38na0_30, v38na0_31, v38nfa0_29, bv38nfa0_29, by rw [ht]; exact hP, va_K.moved hW.alike hK, hD⟩, hS.F ht⟩) hS.2.2 dX8_odds_96
            · have gc56 := ai_nle c56
              have l56f_r38 : (3 : Int) ≤ r38.toInt := ai_ltlo gc56 zq12
              refine lv_lload hx hb dX8_odds_59 (lv_at hl 2 rfl) ?_
              refine lv_ldc2 (v := 100) hx hb hown (hts (.constantLong RX8 368 (100)) (zm_X8_odds_r1 (List.mem_of_getElem? (i := 0) rfl))) dX8_odds_61 ?_
              refine lv_lmul hx hb dX8_odds_64 ?_
              refine ax_tv (.long 1000000) (by decide +kernel) ?_
              refine lv_lstore (lv' := [(6, .long 1000000), (10, .int 2), (8, .long x76v2), (5, .int r38), (4, .int 0), (0, .ref a0), (1, .int a1), (2, .int a2), (3, .int a3)]) hx hb dX8_odds_65 hl (by decide) rfl (fun ls hl => ?_)
              refine lv_lload hx hb dX8_odds_67 (lv_at hl 2 rfl) ?_
              refine lv_aload_n hx hb dX8_odds_69 rfl (lv_at hl 5 rfl) ?_
              refine va_get (D := (dC, dI)) (ci := 8) (v := .ref a0_15) (C := RX8) (T := TX8) (N := 40) hx hb hts zi_X8_odds_8 hown hK hP 0 rfl rfl 15 (by decide) (hts (.fieldLink RX8 20 "WaxTurnsModel" "\x72" "[I") (zm_X8_odds_r1 (List.mem_of_getElem? (i := 1) rfl))) (fun _ h9 => h9) rfl dX8_odds_70 ?_
              refine lv_iconst (v := 3) hx hb dX8_odds_73 zk_iconst_3 ?_
              refine va_iald hx hb hK hP 1 0 rfl rfl (by unfold vp_in; decide +kernel) dX8_odds_74 ?_
              refine ax_ti x74 ex74.symm ?_
              obtain ⟨x75v3, ex75v3⟩ : ∃ y : Int64, y = (x74 : Int32).toInt64 := ⟨_, rfl⟩
              refine lv_i2l (v := x75v3) hx hb dX8_odds_75 ex75v3.symm ?_
              refine lv_lmul hx hb dX8_odds_76 ?_
              refine lv_topl (fun x76v3 ex76v3 => ?_)
              refine lv_lstore (lv' := [(8, .long x76v3), (6, .long 1000000), (10, .int 2), (5, .int r38), (4, .int 0), (0, .ref a0), (1, .int a1), (2, .int a2), (3, .int a3)]) hx hb dX8_odds_77 hl (by decide) rfl (fun ls hl => ?_)
              refine lv_iinc (v := 3) (lv' := [(10, .int 3), (8, .long x76v3), (6, .long 1000000), (5, .int r38), (4, .int 0), (0, .ref a0), (1, .int a1), (2, .int a2), (3, .int a3)]) hx hb dX8_odds_79 hl (k := 2) rfl (by decide +kernel) (by decide) rfl (fun ls hl => ?_)
              refine lv_goto (tgt := 52) hx hb dX8_odds_82 (by decide) ?_
              refine lv_iload hx hb dX8_odds_52 (lv_at hl 0 rfl) ?_
              refine lv_iload hx hb dX8_odds_54 (lv_at hl 3 rfl) ?_
              refine lv_icmp_ge (tgt := 85) hx hb dX8_odds_56 (by decide) (fun c56 => ?_) (fun c56 => ?_)
              · have gc56 := ai_le c56
                have u56t_r38 : r38.toInt ≤ (3 : Int) := Int.le_trans gc56 zq9
                refine lv_lload hx hb dX8_odds_85 (lv_at hl 2 rfl) ?_
                refine lv_lload hx hb dX8_odds_87 (lv_at hl 1 rfl) ?_
                refine lv_lsub hx hb dX8_odds_89 ?_
                refine lv_topl (fun x89 ex89 => ?_)
                refine lv_lload hx hb dX8_odds_90 (lv_at hl 2 rfl) ?_
                refine lv_iload_n hx hb dX8_odds_92 rfl (lv_at hl 8 rfl) ?_
                refine va_calll (va_runS (As := [.long x89, .long 1000000, .int a3]) (rest := []) ⟨hx, hb, hml, hown, hts⟩ (c_X8_lowest l dC dI H.size x89 1000000 a3 (by decide)) (va_cwS 3 hts gX8_odds_X8_lowest rfl rfl rfl zd_X8_lowest.2 ⟨Nat.le_of_ble_eq_true rfl, Nat.le_of_ble_eq_true rfl⟩) ⟨ax_blind (fun _ _ _ _ _ => trivial), ax_pre (zp_P0 hP) (zp_K hK) (zp_D0 hD) (fun _ _ => trivial)⟩ rfl rfl hl.1 rfl (lv_room (Nat.le_of_ble_eq_true rfl)) dX8_odds_93 ⟨Nat.le_of_ble_eq_true rfl, Nat.le_of_ble_eq_true rfl⟩) hS (fun q _ h => zp_F0 hD hS hA q h) (zp_F0 hD hS hA) (fun r93 u t H locs ht hvm hw hB hz1 hk1 hS1 => zo0 hB ht hP hD hk1 (zp_F0 hD hS hA) hS1 (fun hP hK1 hD hS => ?_))
                exact W.lret (v := r93) hx hb hr (fun t ht hW => ⟨⟨r93, (), rfl, trivial, v1na0_0, v1na0_11, v38na0_30, v38na0_31, v38nfa0_29, bv38nfa0_29, by rw [ht]; exact hP, va_K.moved hW.alike hK, hD⟩, hS.F ht⟩) hS.2.2 dX8_odds_96
              · have gc56 := ai_nle c56
                have l56f_r38 : (4 : Int) ≤ r38.toInt := ai_ltlo gc56 zq8
                refine lv_lload hx hb dX8_odds_59 (lv_at hl 2 rfl) ?_
                refine lv_ldc2 (v := 100) hx hb hown (hts (.constantLong RX8 368 (100)) (zm_X8_odds_r1 (List.mem_of_getElem? (i := 0) rfl))) dX8_odds_61 ?_
                refine lv_lmul hx hb dX8_odds_64 ?_
                refine ax_tv (.long 100000000) (by decide +kernel) ?_
                refine lv_lstore (lv' := [(6, .long 100000000), (10, .int 3), (8, .long x76v3), (5, .int r38), (4, .int 0), (0, .ref a0), (1, .int a1), (2, .int a2), (3, .int a3)]) hx hb dX8_odds_65 hl (by decide) rfl (fun ls hl => ?_)
                refine lv_lload hx hb dX8_odds_67 (lv_at hl 2 rfl) ?_
                refine lv_aload_n hx hb dX8_odds_69 rfl (lv_at hl 5 rfl) ?_
                refine va_get (D := (dC, dI)) (ci := 8) (v := .ref a0_15) (C := RX8) (T := TX8) (N := 40) hx hb hts zi_X8_odds_8 hown hK hP 0 rfl rfl 15 (by decide) (hts (.fieldLink RX8 20 "WaxTurnsModel" "\x72" "[I") (zm_X8_odds_r1 (List.mem_of_getElem? (i := 1) rfl))) (fun _ h9 => h9) rfl dX8_odds_70 ?_
                refine lv_iconst (v := 3) hx hb dX8_odds_73 zk_iconst_3 ?_
                refine va_iald hx hb hK hP 1 0 rfl rfl (by unfold vp_in; decide +kernel) dX8_odds_74 ?_
                refine ax_ti x74 ex74.symm ?_
                obtain ⟨x75v4, ex75v4⟩ : ∃ y : Int64, y = (x74 : Int32).toInt64 := ⟨_, rfl⟩
                refine lv_i2l (v := x75v4) hx hb dX8_odds_75 ex75v4.symm ?_
                refine lv_lmul hx hb dX8_odds_76 ?_
                refine lv_topl (fun x76v4 ex76v4 => ?_)
                refine lv_lstore (lv' := [(8, .long x76v4), (6, .long 100000000), (10, .int 3), (5, .int r38), (4, .int 0), (0, .ref a0), (1, .int a1), (2, .int a2), (3, .int a3)]) hx hb dX8_odds_77 hl (by decide) rfl (fun ls hl => ?_)
                refine lv_iinc (v := 4) (lv' := [(10, .int 4), (8, .long x76v4), (6, .long 100000000), (5, .int r38), (4, .int 0), (0, .ref a0), (1, .int a1), (2, .int a2), (3, .int a3)]) hx hb dX8_odds_79 hl (k := 2) rfl (by decide +kernel) (by decide) rfl (fun ls hl => ?_)
                refine lv_goto (tgt := 52) hx hb dX8_odds_82 (by decide) ?_
                refine lv_iload hx hb dX8_odds_52 (lv_at hl 0 rfl) ?_
                refine lv_iload hx hb dX8_odds_54 (lv_at hl 3 rfl) ?_
                refine lv_icmp_ge (tgt := 85) hx hb dX8_odds_56 (by decide) (fun c56 => ?_) (fun c56 => ?_)
                · have gc56 := ai_le c56
                  have u56t_r38 : r38.toInt ≤ (4 : Int) := Int.le_trans gc56 zq67
                  refine lv_lload hx hb dX8_odds_85 (lv_at hl 2 rfl) ?_
                  refine lv_lload hx hb dX8_odds_87 (lv_at hl 1 rfl) ?_
                  refine lv_lsub hx hb dX8_odds_89 ?_
                  refine lv_topl (fun x89 ex89 => ?_)
                  refine lv_lload hx hb dX8_odds_90 (lv_at hl 2 rfl) ?_
                  refine lv_iload_n hx hb dX8_odds_92 rfl (lv_at hl 8 rfl) ?_
                  refine va_calll (va_runS (As := [.long x89, .long 100000000, .int a3]) (rest := []) ⟨hx, hb, hml, hown, hts⟩ (c_X8_lowest l dC dI H.size x89 100000000 a3 (by decide)) (va_cwS 3 hts gX8_odds_X8_lowest rfl rfl rfl zd_X8_lowest.2 ⟨Nat.le_of_ble_eq_true rfl, Nat.le_of_ble_eq_true rfl⟩) ⟨ax_blind (fun _ _ _ _ _ => trivial), ax_pre (zp_P0 hP) (zp_K hK) (zp_D0 hD) (fun _ _ => trivial)⟩ rfl rfl hl.1 rfl (lv_room (Nat.le_of_ble_eq_true rfl)) dX8_odds_93 ⟨Nat.le_of_ble_eq_true rfl, Nat.le_of_ble_eq_true rfl⟩) hS (fun q _ h => zp_F0 hD hS hA q h) (zp_F0 hD hS hA) (fun r93 u t H locs ht hvm hw hB hz1 hk1 hS1 => zo0 hB ht hP hD hk1 (zp_F0 hD hS hA) hS1 (fun hP hK1 hD hS => ?_))
                  exact W.lret (v := r93) hx hb hr (fun t ht hW => ⟨⟨r93, (), rfl, trivial, v1na0_0, v1na0_11, v38na0_30, v38na0_31, v38nfa0_29, bv38nfa0_29, by rw [ht]; exact hP, va_K.moved hW.alike hK, hD⟩, hS.F ht⟩) hS.2.2 dX8_odds_96
                · have gc56 := ai_nle c56
                  have l56f_r38 : (5 : Int) ≤ r38.toInt := ai_ltlo gc56 zq68
                  refine lv_lload hx hb dX8_odds_59 (lv_at hl 2 rfl) ?_
                  refine lv_ldc2 (v := 100) hx hb hown (hts (.constantLong RX8 368 (100)) (zm_X8_odds_r1 (List.mem_of_getElem? (i := 0) rfl))) dX8_odds_61 ?_
                  refine lv_lmul hx hb dX8_odds_64 ?_
                  refine ax_tv (.long 10000000000) (by decide +kernel) ?_
                  refine lv_lstore (lv' := [(6, .long 10000000000), (10, .int 4), (8, .long x76v4), (5, .int r38), (4, .int 0), (0, .ref a0), (1, .int a1), (2, .int a2), (3, .int a3)]) hx hb dX8_odds_65 hl (by decide) rfl (fun ls hl => ?_)
                  refine lv_lload hx hb dX8_odds_67 (lv_at hl 2 rfl) ?_
                  refine lv_aload_n hx hb dX8_odds_69 rfl (lv_at hl 5 rfl) ?_
                  refine va_get (D := (dC, dI)) (ci := 8) (v := .ref a0_15) (C := RX8) (T := TX8) (N := 40) hx hb hts zi_X8_odds_8 hown hK hP 0 rfl rfl 15 (by decide) (hts (.fieldLink RX8 20 "WaxTurnsModel" "\x72" "[I") (zm_X8_odds_r1 (List.mem_of_getElem? (i := 1) rfl))) (fun _ h9 => h9) rfl dX8_odds_70 ?_
                  refine lv_iconst (v := 3) hx hb dX8_odds_73 zk_iconst_3 ?_
                  refine va_iald hx hb hK hP 1 0 rfl rfl (by unfold vp_in; decide +kernel) dX8_odds_74 ?_
                  refine ax_ti x74 ex74.symm ?_
                  obtain ⟨x75v5, ex75v5⟩ : ∃ y : Int64, y = (x74 : Int32).toInt64 := ⟨_, rfl⟩
                  refine lv_i2l (v := x75v5) hx hb dX8_odds_75 ex75v5.symm ?_
                  refine lv_lmul hx hb dX8_odds_76 ?_
                  refine lv_topl (fun x76v5 ex76v5 => ?_)
                  refine lv_lstore (lv' := [(8, .long x76v5), (6, .long 10000000000), (10, .int 4), (5, .int r38), (4, .int 0), (0, .ref a0), (1, .int a1), (2, .int a2), (3, .int a3)]) hx hb dX8_odds_77 hl (by decide) rfl (fun ls hl => ?_)
                  refine lv_iinc (v := 5) (lv' := [(10, .int 5), (8, .long x76v5), (6, .long 10000000000), (5, .int r38), (4, .int 0), (0, .ref a0), (1, .int a1), (2, .int a2), (3, .int a3)]) hx hb dX8_odds_79 hl (k := 2) rfl (by decide +kernel) (by decide) rfl (fun ls hl => ?_)
                  refine lv_goto (tgt := 52) hx hb dX8_odds_82 (by decide) ?_
                  refine lv_iload hx hb dX8_odds_52 (lv_at hl 0 rfl) ?_
                  refine lv_iload hx hb dX8_odds_54 (lv_at hl 3 rfl) ?_
                  refine lv_icmp_ge (tgt := 85) hx hb dX8_odds_56 (by decide) (fun c56 => ?_) (fun c56 => ?_)
                  · have gc56 := ai_le c56
                    have u56t_r38 : r38.toInt ≤ (5 : Int) := Int.le_trans gc56 zq113
                    refine lv_lload hx hb dX8_odds_85 (lv_at hl 2 rfl) ?_
                    refine lv_lload hx hb dX8_odds_87 (lv_at hl 1 rfl) ?_
                    refine lv_lsub hx hb dX8_odds_89 ?_
                    refine lv_topl (fun x89 ex89 => ?_)
                    refine lv_lload hx hb dX8_odds_90 (lv_at hl 2 rfl) ?_
                    refine lv_iload_n hx hb dX8_odds_92 rfl (lv_at hl 8 rfl) ?_
                    refine va_calll (va_runS (As := [.long x89, .long 10000000000, .int a3]) (rest := []) ⟨hx, hb, hml, hown, hts⟩ (c_X8_lowest l dC dI H.size x89 10000000000 a3 (by decide)) (va_cwS 3 hts gX8_odds_X8_lowest rfl rfl rfl zd_X8_lowest.2 ⟨Nat.le_of_ble_eq_true rfl, Nat.le_of_ble_eq_true rfl⟩) ⟨ax_blind (fun _ _ _ _ _ => trivial), ax_pre (zp_P0 hP) (zp_K hK) (zp_D0 hD) (fun _ _ => trivial)⟩ rfl rfl hl.1 rfl (lv_room (Nat.le_of_ble_eq_true rfl)) dX8_odds_93 ⟨Nat.le_of_ble_eq_true rfl, Nat.le_of_ble_eq_true rfl⟩) hS (fun q _ h => zp_F0 hD hS hA q h) (zp_F0 hD hS hA) (fun r93 u t H locs ht hvm hw hB hz1 hk1 hS1 => zo0 hB ht hP hD hk1 (zp_F0 hD hS hA) hS1 (fun hP hK1 hD hS => ?_))
                    exact W.lret (v := r93) hx hb hr (fun t ht hW => ⟨⟨r93, (), rfl, trivial, v1na0_0, v1na0_11, v38na0_30, v38na0_31, v38nfa0_29, bv38nfa0_29, by rw [ht]; exact hP, va_K.moved hW.alike hK, hD⟩, hS.F ht⟩) hS.2.2 dX8_odds_96
                  · have gc56 := ai_nle c56
                    have l56f_r38 : (6 : Int) ≤ r38.toInt := ai_ltlo gc56 zq112
                    refine lv_lload hx hb dX8_odds_59 (lv_at hl 2 rfl) ?_
                    refine lv_ldc2 (v := 100) hx hb hown (hts (.constantLong RX8 368 (100)) (zm_X8_odds_r1 (List.mem_of_getElem? (i := 0) rfl))) dX8_odds_61 ?_
                    refine lv_lmul hx hb dX8_odds_64 ?_
                    refine ax_tv (.long 1000000000000) (by decide +kernel) ?_
                    refine lv_lstore (lv' := [(6, .long 1000000000000), (10, .int 5), (8, .long x76v5), (5, .int r38), (4, .int 0), (0, .ref a0), (1, .int a1), (2, .int a2), (3, .int a3)]) hx hb dX8_odds_65 hl (by decide) rfl (fun ls hl => ?_)
                    refine lv_lload hx hb dX8_odds_67 (lv_at hl 2 rfl) ?_
                    refine lv_aload_n hx hb dX8_odds_69 rfl (lv_at hl 5 rfl) ?_
                    refine va_get (D := (dC, dI)) (ci := 8) (v := .ref a0_15) (C := RX8) (T := TX8) (N := 40) hx hb hts zi_X8_odds_8 hown hK hP 0 rfl rfl 15 (by decide) (hts (.fieldLink RX8 20 "WaxTurnsModel" "\x72" "[I") (zm_X8_odds_r1 (List.mem_of_getElem? (i := 1) rfl))) (fun _ h9 => h9) rfl dX8_odds_70 ?_
                    refine lv_iconst (v := 3) hx hb dX8_odds_73 zk_iconst_3 ?_
                    refine va_iald hx hb hK hP 1 0 rfl rfl (by unfold vp_in; decide +kernel) dX8_odds_74 ?_
                    refine ax_ti x74 ex74.symm ?_
                    obtain ⟨x75v6, ex75v6⟩ : ∃ y : Int64, y = (x74 : Int32).toInt64 := ⟨_, rfl⟩
                    refine lv_i2l (v := x75v6) hx hb dX8_odds_75 ex75v6.symm ?_
                    refine lv_lmul hx hb dX8_odds_76 ?_
                    refine lv_topl (fun x76v6 ex76v6 => ?_)
                    refine lv_lstore (lv' := [(8, .long x76v6), (6, .long 1000000000000), (10, .int 5), (5, .int r38), (4, .int 0), (0, .ref a0), (1, .int a1), (2, .int a2), (3, .int a3)]) hx hb dX8_odds_77 hl (by decide) rfl (fun ls hl => ?_)
                    refine lv_iinc (v := 6) (lv' := [(10, .int 6), (8, .long x76v6), (6, .long 1000000000000), (5, .int r38), (4, .int 0), (0, .ref a0), (1, .int a1), (2, .int a2), (3, .int a3)]) hx hb dX8_odds_79 hl (k := 2) rfl (by decide +kernel) (by decide) rfl (fun ls hl => ?_)
                    refine lv_goto (tgt := 52) hx hb dX8_odds_82 (by decide) ?_
                    refine lv_iload hx hb dX8_odds_52 (lv_at hl 0 rfl) ?_
                    refine lv_iload hx hb dX8_odds_54 (lv_at hl 3 rfl) ?_
                    refine lv_icmp_ge (tgt := 85) hx hb dX8_odds_56 (by decide) (fun c56 => ?_) (fun c56 => ?_)
                    · have gc56 := ai_le c56
                      have u56t_r38 : r38.toInt ≤ (6 : Int) := Int.le_trans gc56 zq16
                      refine lv_lload hx hb dX8_odds_85 (lv_at hl 2 rfl) ?_
                      refine lv_lload hx hb dX8_odds_87 (lv_at hl 1 rfl) ?_
                      refine lv_lsub hx hb dX8_odds_89 ?_
                      refine lv_topl (fun x89 ex89 => ?_)
                      refine lv_lload hx hb dX8_odds_90 (lv_at hl 2 rfl) ?_
                      refine lv_iload_n hx hb dX8_odds_92 rfl (lv_at hl 8 rfl) ?_
                      refine va_calll (va_runS (As := [.long x89, .long 1000000000000, .int a3]) (rest := []) ⟨hx, hb, hml, hown, hts⟩ (c_X8_lowest l dC dI H.size x89 1000000000000 a3 (by decide)) (va_cwS 3 hts gX8_odds_X8_lowest rfl rfl rfl zd_X8_lowest.2 ⟨Nat.le_of_ble_eq_true rfl, Nat.le_of_ble_eq_true rfl⟩) ⟨ax_blind (fun _ _ _ _ _ => trivial), ax_pre (zp_P0 hP) (zp_K hK) (zp_D0 hD) (fun _ _ => trivial)⟩ rfl rfl hl.1 rfl (lv_room (Nat.le_of_ble_eq_true rfl)) dX8_odds_93 ⟨Nat.le_of_ble_eq_true rfl, Nat.le_of_ble_eq_true rfl⟩) hS (fun q _ h => zp_F0 hD hS hA q h) (zp_F0 hD hS hA) (fun r93 u t H locs ht hvm hw hB hz1 hk1 hS1 => zo0 hB ht hP hD hk1 (zp_F0 hD hS hA) hS1 (fun hP hK1 hD hS => ?_))
                      exact W.lret (v := r93) hx hb hr (fun t ht hW => ⟨⟨r93, (), rfl, trivial, v1na0_0, v1na0_11, v38na0_30, v38na0_31, v38nfa0_29, bv38nfa0_29, by rw [ht]; exact hP, va_K.moved hW.alike hK, hD⟩, hS.F ht⟩) hS.2.2 dX8_odds_96
                    · have gc56 := ai_nle c56
                      have l56f_r38 : (7 : Int) ≤ r38.toInt := ai_ltlo gc56 zq15
                      refine lv_lload hx hb dX8_odds_59 (lv_at hl 2 rfl) ?_
                      refine lv_ldc2 (v := 100) hx hb hown (hts (.constantLong RX8 368 (100)) (zm_X8_odds_r1 (List.mem_of_getElem? (i := 0) rfl))) dX8_odds_61 ?_
                      refine lv_lmul hx hb dX8_odds_64 ?_
                      refine ax_tv (.long 100000000000000) (by decide +kernel) ?_
                      refine lv_lstore (lv' := [(6, .long 100000000000000), (10, .int 6), (8, .long x76v6), (5, .int r38), (4, .int 0), (0, .ref a0), (1, .int a1), (2, .int a2), (3, .int a3)]) hx hb dX8_odds_65 hl (by decide) rfl (fun ls hl => ?_)
                      refine lv_lload hx hb dX8_odds_67 (lv_at hl 2 rfl) ?_
                      refine lv_aload_n hx hb dX8_odds_69 rfl (lv_at hl 5 rfl) ?_
                      refine va_get (D := (dC, dI)) (ci := 8) (v := .ref a0_15) (C := RX8) (T := TX8) (N := 40) hx hb hts zi_X8_odds_8 hown hK hP 0 rfl rfl 15 (by decide) (hts (.fieldLink RX8 20 "WaxTurnsModel" "\x72" "[I") (zm_X8_odds_r1 (List.mem_of_getElem? (i := 1) rfl))) (fun _ h9 => h9) rfl dX8_odds_70 ?_
                      refine lv_iconst (v := 3) hx hb dX8_odds_73 zk_iconst_3 ?_
                      refine va_iald hx hb hK hP 1 0 rfl rfl (by unfold vp_in; decide +kernel) dX8_odds_74 ?_
                      refine ax_ti x74 ex74.symm ?_
                      obtain ⟨x75v7, ex75v7⟩ : ∃ y : Int64, y = (x74 : Int32).toInt64 := ⟨_, rfl⟩
                      refine lv_i2l (v := x75v7) hx hb dX8_odds_75 ex75v7.symm ?_
                      refine lv_lmul hx hb dX8_odds_76 ?_
                      refine lv_topl (fun x76v7 ex76v7 => ?_)
                      refine lv_lstore (lv' := [(8, .long x76v7), (6, .long 100000000000000), (10, .int 6), (5, .int r38), (4, .int 0), (0, .ref a0), (1, .int a1), (2, .int a2), (3, .int a3)]) hx hb dX8_odds_77 hl (by decide) rfl (fun ls hl => ?_)
                      refine lv_iinc (v := 7) (lv' := [(10, .int 7), (8, .long x76v7), (6, .long 100000000000000), (5, .int r38), (4, .int 0), (0, .ref a0), (1, .int a1), (2, .int a2), (3, .int a3)]) hx hb dX8_odds_79 hl (k := 2) rfl (by decide +kernel) (by decide) rfl (fun ls hl => ?_)
                      refine lv_goto (tgt := 52) hx hb dX8_odds_82 (by decide) ?_
                      refine lv_iload hx hb dX8_odds_52 (lv_at hl 0 rfl) ?_
                      refine lv_iload hx hb dX8_odds_54 (lv_at hl 3 rfl) ?_
                      refine lv_icmp_ge (tgt := 85) hx hb dX8_odds_56 (by decide) (fun c56 => ?_) (fun c56 => ?_)
                      · have gc56 := ai_le c56
                        have u56t_r38 : r38.toInt ≤ (7 : Int) := Int.le_trans gc56 zq115
                        refine lv_lload hx hb dX8_odds_85 (lv_at hl 2 rfl) ?_
                        refine lv_lload hx hb dX8_odds_87 (lv_at hl 1 rfl) ?_
                        refine lv_lsub hx hb dX8_odds_89 ?_
                        refine lv_topl (fun x89 ex89 => ?_)
                        refine lv_lload hx hb dX8_odds_90 (lv_at hl 2 rfl) ?_
                        refine lv_iload_n hx hb dX8_odds_92 rfl (lv_at hl 8 rfl) ?_
                        refine va_calll (va_runS (As := [.long x89, .long 100000000000000, .int a3]) (rest := []) ⟨hx, hb, hml, hown, hts⟩ (c_X8_lowest l dC dI H.size x89 100000000000000 a3 (by decide)) (va_cwS 3 hts gX8_odds_X8_lowest rfl rfl rfl zd_X8_lowest.2 ⟨Nat.le_of_ble_eq_true rfl, Nat.le_of_ble_eq_true rfl⟩) ⟨ax_blind (fun _ _ _ _ _ => trivial), ax_pre (zp_P0 hP) (zp_K hK) (zp_D0 hD) (fun _ _ => trivial)⟩ rfl rfl hl.1 rfl (lv_room (Nat.le_of_ble_eq_true rfl)) dX8_odds_93 ⟨Nat.le_of_ble_eq_true rfl, Nat.le_of_ble_eq_true rfl⟩) hS (fun q _ h => zp_F0 hD hS hA q h) (zp_F0 hD hS hA) (fun r93 u t H locs ht hvm hw hB hz1 hk1 hS1 => zo0 hB ht hP hD hk1 (zp_F0 hD hS hA) hS1 (fun hP hK1 hD hS => ?_))
                        exact W.lret (v := r93) hx hb hr (fun t ht hW => ⟨⟨r93, (), rfl, trivial, v1na0_0, v1na0_11, v38na0_30, v38na0_31, v38nfa0_29, bv38nfa0_29, by rw [ht]; exact hP, va_K.moved hW.alike hK, hD⟩, hS.F ht⟩) hS.2.2 dX8_odds_96
                      · have gc56 := ai_nle c56
                        have l56f_r38 : (8 : Int) ≤ r38.toInt := ai_ltlo gc56 zq114
                        refine lv_lload hx hb dX8_odds_59 (lv_at hl 2 rfl) ?_
                        refine lv_ldc2 (v := 100) hx hb hown (hts (.constantLong RX8 368 (100)) (zm_X8_odds_r1 (List.mem_of_getElem? (i := 0) rfl))) dX8_odds_61 ?_
                        refine lv_lmul hx hb dX8_odds_64 ?_
                        refine ax_tv (.long 10000000000000000) (by decide +kernel) ?_
                        refine lv_lstore (lv' := [(6, .long 10000000000000000), (10, .int 7), (8, .long x76v7), (5, .int r38), (4, .int 0), (0, .ref a0), (1, .int a1), (2, .int a2), (3, .int a3)]) hx hb dX8_odds_65 hl (by decide) rfl (fun ls hl => ?_)
                        refine lv_lload hx hb dX8_odds_67 (lv_at hl 2 rfl) ?_
                        refine lv_aload_n hx hb dX8_odds_69 rfl (lv_at hl 5 rfl) ?_
                        refine va_get (D := (dC, dI)) (ci := 8) (v := .ref a0_15) (C := RX8) (T := TX8) (N := 40) hx hb hts zi_X8_odds_8 hown hK hP 0 rfl rfl 15 (by decide) (hts (.fieldLink RX8 20 "WaxTurnsModel" "\x72" "[I") (zm_X8_odds_r1 (List.mem_of_getElem? (i := 1) rfl))) (fun _ h9 => h9) rfl dX8_odds_70 ?_
                        refine lv_iconst (v := 3) hx hb dX8_odds_73 zk_iconst_3 ?_
                        refine va_iald hx hb hK hP 1 0 rfl rfl (by unfold vp_in; decide +kernel) dX8_odds_74 ?_
                        refine ax_ti x74 ex74.symm ?_
                        obtain ⟨x75v8, ex75v8⟩ : ∃ y : Int64, y = (x74 : Int32).toInt64 := ⟨_, rfl⟩
                        refine lv_i2l (v := x75v8) hx hb dX8_odds_75 ex75v8.symm ?_
                        refine lv_lmul hx hb dX8_odds_76 ?_
                        refine lv_topl (fun x76v8 ex76v8 => ?_)
                        refine lv_lstore (lv' := [(8, .long x76v8), (6, .long 10000000000000000), (10, .int 7), (5, .int r38), (4, .int 0), (0, .ref a0), (1, .int a1), (2, .int a2), (3, .int a3)]) hx hb dX8_odds_77 hl (by decide) rfl (fun ls hl => ?_)
                        refine lv_iinc (v := 8) (lv' := [(10, .int 8), (8, .long x76v8), (6, .long 10000000000000000), (5, .int r38), (4, .int 0), (0, .ref a0), (1, .int a1), (2, .int a2), (3, .int a3)]) hx hb dX8_odds_79 hl (k := 2) rfl (by decide +kernel) (by decide) rfl (fun ls hl => ?_)
                        refine lv_goto (tgt := 52) hx hb dX8_odds_82 (by decide) ?_
                        refine lv_iload hx hb dX8_odds_52 (lv_at hl 0 rfl) ?_
                        refine lv_iload hx hb dX8_odds_54 (lv_at hl 3 rfl) ?_
                        refine lv_icmp_ge (tgt := 85) hx hb dX8_odds_56 (by decide) (fun c56 => ?_) (fun c56 => ?_)
                        · have gc56 := ai_le c56
                          have u56t_r38 : r38.toInt ≤ (8 : Int) := h38_1
                          refine lv_lload hx hb dX8_odds_85 (lv_at hl 2 rfl) ?_
                          refine lv_lload hx hb dX8_odds_87 (lv_at hl 1 rfl) ?_
                          refine lv_lsub hx hb dX8_odds_89 ?_
                          refine lv_topl (fun x89 ex89 => ?_)
                          refine lv_lload hx hb dX8_odds_90 (lv_at hl 2 rfl) ?_
                          refine lv_iload_n hx hb dX8_odds_92 rfl (lv_at hl 8 rfl) ?_
                          refine va_calll (va_runS (As := [.long x89, .long 10000000000000000, .int a3]) (rest := []) ⟨hx, hb, hml, hown, hts⟩ (c_X8_lowest l dC dI H.size x89 10000000000000000 a3 (by decide)) (va_cwS 3 hts gX8_odds_X8_lowest rfl rfl rfl zd_X8_lowest.2 ⟨Nat.le_of_ble_eq_true rfl, Nat.le_of_ble_eq_true rfl⟩) ⟨ax_blind (fun _ _ _ _ _ => trivial), ax_pre (zp_P0 hP) (zp_K hK) (zp_D0 hD) (fun _ _ => trivial)⟩ rfl rfl hl.1 rfl (lv_room (Nat.le_of_ble_eq_true rfl)) dX8_odds_93 ⟨Nat.le_of_ble_eq_true rfl, Nat.le_of_ble_eq_true rfl⟩) hS (fun q _ h => zp_F0 hD hS hA q h) (zp_F0 hD hS hA) (fun r93 u t H locs ht hvm hw hB hz1 hk1 hS1 => zo0 hB ht hP hD hk1 (zp_F0 hD hS hA) hS1 (fun hP hK1 hD hS => ?_))
                          exact W.lret (v := r93) hx hb hr (fun t ht hW => ⟨⟨r93, (), rfl, trivial, v1na0_0, v1na0_11, v38na0_30, v38na0_31, v38nfa0_29, bv38nfa0_29, by rw [ht]; exact hP, va_K.moved hW.alike hK, hD⟩, hS.F ht⟩) hS.2.2 dX8_odds_96
                        · have gc56 := ai_nle c56
                          have l56f_r38 : (9 : Int) ≤ r38.toInt := ai_ltlo gc56 zq116
                          exact absurd (Int.le_trans l56f_r38 h38_1) (by decide)
    · obtain ⟨hw, h14⟩ := hw
      subst hw
      refine va_calli (va_runV (As := [.int 1, .int 0]) (rest := []) ⟨hx, hb, hml, hown, hts⟩ (c_X8_whyB l dC dI H.size a0 1 0 (Value.int v1na0_0) a0g_1 a0g_2 a0g_3 a0g_4 a0g_5 a0g_6 a0g_7 a0g_8 a0g_9 a0g_10 (Value.int v1na0_11) a0g_12 a0g_13 (Value.int a0_14) (Value.ref a0_15) a0g_16 (Value.ref a0_17) a0g_18 a0g_19 a0g_20 a0g_21 a0g_22 a0g_23 a0g_24 a0g_25 a0g_26 a0g_27 a0g_28 (Value.ref a0_29) (Value.int a0_30) (Value.int a0_31) a0g_32 a0g_33 a0g_34 a0g_35 a0g_36 a0g_37 a0g_38 a0g_39 (Int.le_trans zq4 zq1) zq0 zq5 (Int.le_trans zq6 zq4)) (cwV 2 hts gX8_odds_X8_why rfl rfl rfl zd_X8_why ⟨Nat.le_of_ble_eq_true rfl, Nat.le_of_ble_eq_true rfl⟩) ⟨ax_blind (fun _ _ _ _ _ => trivial), zr_8 (zp_K hK) (zp_P1 hP) (q0 := 0) rfl, ax_pre (zp_P1 hP) (zp_K hK) (zp_D1 hD) (fun _ _ => trivial)⟩ rfl rfl hl.1 rfl (lv_room (Nat.le_of_ble_eq_true rfl)) dX8_odds_17 ⟨Nat.le_of_ble_eq_true rfl, Nat.le_of_ble_eq_true rfl⟩) hS (fun q _ h => zp_F1 hD hS hA q h) (zp_F1 hD hS hA) (fun r17 u t H locs ht hvm hw hB hz1 hk1 hS1 => zo1 hB ht hP hD hk1 (zp_F1 hD hS hA) hS1 (fun hP hK1 hD hS => ?_))
      rcases hw with hw | hw | hw
      · obtain ⟨hw, h17_0, h17_1, h17_2, h17_3⟩ := hw
        subst hw
        refine lv_istore (lv' := [(4, .int 2), (0, .ref a0), (1, .int a1), (2, .int a2), (3, .int a3)]) hx hb dX8_odds_20 hl (by decide) rfl (fun ls hl => ?_)
        refine lv_iload hx hb dX8_odds_22 (lv_at hl 0 rfl) ?_
        refine lv_if_eq (tgt := 35) hx hb dX8_odds_24 (by decide) (fun c24 => absurd c24 (by decide +kernel)) (fun _ => ?_)
        refine lv_aload_n hx hb dX8_odds_27 rfl (lv_at hl 1 rfl) ?_
        refine lv_iload hx hb dX8_odds_28 (lv_at hl 0 rfl) ?_
        refine va_calli (va_runV (As := [.int 2]) (rest := []) ⟨hx, hb, hml, hown, hts⟩ (c_X8_no l dC dI H.size a0 2 (Value.int v1na0_0) a0g_1 a0g_2 a0g_3 a0g_4 a0g_5 a0g_6 a0g_7 a0g_8 a0g_9 a0g_10 a0g_12 a0g_13 (Value.int a0_14) (Value.ref a0_15) a0g_16 (Value.ref a0_17) a0g_18 a0g_19 a0g_20 a0g_21 a0g_22 a0g_23 a0g_24 a0g_25 a0g_26 a0g_27 a0g_28 (Value.ref a0_29) (Value.int a0_30) (Value.int a0_31) a0g_32 a0g_33 a0g_34 a0g_35 a0g_36 a0g_37 a0g_38 a0g_39 v1na0_11 ) (cwV 1 hts gX8_odds_X8_no rfl rfl rfl zd_X8_no ⟨Nat.le_of_ble_eq_true rfl, Nat.le_of_ble_eq_true rfl⟩) ⟨ax_blind (fun _ _ _ _ _ => trivial), zr_8 (zp_K hK) (zp_P1 hP) (q0 := 0) rfl, ax_pre (zp_P1 hP) (zp_K hK) (zp_D1 hD) (fun _ _ => trivial)⟩ rfl rfl hl.1 rfl (lv_room (Nat.le_of_ble_eq_true rfl)) dX8_odds_30 ⟨Nat.le_of_ble_eq_true rfl, Nat.le_of_ble_eq_true rfl⟩) hS (fun q _ h => zp_F1 hD hS hA q h) (zp_F1 hD hS hA) (fun r30 u t H locs ht hvm hw => zx_1 (fun v30na0_11 hB hz1 hk1 hS1 => zo1 hB ht hP hD hk1 (zp_F1 hD hS hA) hS1 (fun hP hK1 hD hS => ?_)))
        have hw : r30 = (-1) := hw
        have hw := hw.symm
        subst hw
        obtain ⟨x33, ex33⟩ : ∃ y : Int64, y = ((-1) : Int32).toInt64 := ⟨_, rfl⟩
        refine lv_i2l (v := x33) hx hb dX8_odds_33 ex33.symm ?_
        exact W.lret (v := x33) hx hb hr (fun t ht hW => ⟨⟨x33, (), rfl, trivial, v1na0_0, v30na0_11, a0_30, a0_31, fa0_29, bfa0_29, by rw [ht]; exact hP, va_K.moved hW.alike hK, hD⟩, hS.F ht⟩) hS.2.2 dX8_odds_34
      · obtain ⟨hw, h17_0, h17_1⟩ := hw
        subst hw
        exact absurd h17_1 (by decide)
      · obtain ⟨hw, h17_0, h17_1, h17_2, h17_3⟩ := hw
        subst hw
        exact absurd h17_2 (by decide)
  · subst hw
    refine lv_iload_n hx hb dX8_odds_10 rfl (lv_at hl 2 rfl) ?_
    refine lv_iconst (v := 0) hx hb dX8_odds_11 zk_iconst_0 ?_
    refine lv_bipush (v := 8) hx hb dX8_odds_12 zk_bipush_8 ?_
    refine va_calli (va_runS (As := [.int a2, .int 0, .int 8]) (rest := [.int 0, .ref a0]) ⟨hx, hb, hml, hown, hts⟩ (c_X8_in l dC dI H.size a2 0 8 ) (va_cwS 3 hts gX8_odds_X8_in rfl rfl rfl zd_X8_in.2 ⟨Nat.le_of_ble_eq_true rfl, Nat.le_of_ble_eq_true rfl⟩) ⟨ax_blind (fun _ _ _ _ _ => trivial), ax_pre (zp_P0 hP) (zp_K hK) (zp_D0 hD) (fun _ _ => trivial)⟩ rfl rfl hl.1 rfl (lv_room (Nat.le_of_ble_eq_true rfl)) dX8_odds_14 ⟨Nat.le_of_ble_eq_true rfl, Nat.le_of_ble_eq_true rfl⟩) hS (fun q _ h => zp_F0 hD hS hA q h) (zp_F0 hD hS hA) (fun r14 u t H locs ht hvm hw hB hz1 hk1 hS1 => zo0 hB ht hP hD hk1 (zp_F0 hD hS hA) hS1 (fun hP hK1 hD hS => ?_))
    rcases hw with hw | hw
    · obtain ⟨hw, h14⟩ := hw
      subst hw
      have l14k0_a2 : (0 : Int) ≤ a2.toInt := Int.le_trans zq5 h14.1
      have u14k0_a2 : a2.toInt ≤ (8 : Int) := Int.le_trans h14.2 zq28
      refine va_calli (va_runV (As := [.int 0, .int 1]) (rest := []) ⟨hx, hb, hml, hown, hts⟩ (c_X8_whyB l dC dI H.size a0 0 1 (Value.int v1na0_0) a0g_1 a0g_2 a0g_3 a0g_4 a0g_5 a0g_6 a0g_7 a0g_8 a0g_9 a0g_10 (Value.int v1na0_11) a0g_12 a0g_13 (Value.int a0_14) (Value.ref a0_15) a0g_16 (Value.ref a0_17) a0g_18 a0g_19 a0g_20 a0g_21 a0g_22 a0g_23 a0g_24 a0g_25 a0g_26 a0g_27 a0g_28 (Value.ref a0_29) (Value.int a0_30) (Value.int a0_31) a0g_32 a0g_33 a0g_34 a0g_35 a0g_36 a0g_37 a0g_38 a0g_39 zq5 (Int.le_trans zq6 zq4) (Int.le_trans zq4 zq1) zq0) (cwV 2 hts gX8_odds_X8_why rfl rfl rfl zd_X8_why ⟨Nat.le_of_ble_eq_true rfl, Nat.le_of_ble_eq_true rfl⟩) ⟨ax_blind (fun _ _ _ _ _ => trivial), zr_8 (zp_K hK) (zp_P1 hP) (q0 := 0) rfl, ax_pre (zp_P1 hP) (zp_K hK) (zp_D1 hD) (fun _ _ => trivial)⟩ rfl rfl hl.1 rfl (lv_room (Nat.le_of_ble_eq_true rfl)) dX8_odds_17 ⟨Nat.le_of_ble_eq_true rfl, Nat.le_of_ble_eq_true rfl⟩) hS (fun q _ h => zp_F1 hD hS hA q h) (zp_F1 hD hS hA) (fun r17 u t H locs ht hvm hw hB hz1 hk1 hS1 => zo1 hB ht hP hD hk1 (zp_F1 hD hS hA) hS1 (fun hP hK1 hD hS => ?_))
      rcases hw with hw | hw | hw
      · obtain ⟨hw, h17_0, h17_1, h17_2, h17_3⟩ := hw
        subst hw
        exact absurd h17_0 (by decide)
      · obtain ⟨hw, h17_0, h17_1⟩ := hw
        subst hw
        refine lv_istore (lv' := [(4, .int 1), (0, .ref a0), (1, .int a1), (2, .int a2), (3, .int a3)]) hx hb dX8_odds_20 hl (by decide) rfl (fun ls hl => ?_)
        refine lv_iload hx hb dX8_odds_22 (lv_at hl 0 rfl) ?_
        refine lv_if_eq (tgt := 35) hx hb dX8_odds_24 (by decide) (fun c24 => absurd c24 (by decide +kernel)) (fun _ => ?_)
        refine lv_aload_n hx hb dX8_odds_27 rfl (lv_at hl 1 rfl) ?_
        refine lv_iload hx hb dX8_odds_28 (lv_at hl 0 rfl) ?_
        refine va_calli (va_runV (As := [.int 1]) (rest := []) ⟨hx, hb, hml, hown, hts⟩ (c_X8_no l dC dI H.size a0 1 (Value.int v1na0_0) a0g_1 a0g_2 a0g_3 a0g_4 a0g_5 a0g_6 a0g_7 a0g_8 a0g_9 a0g_10 a0g_12 a0g_13 (Value.int a0_14) (Value.ref a0_15) a0g_16 (Value.ref a0_17) a0g_18 a0g_19 a0g_20 a0g_21 a0g_22 a0g_23 a0g_24 a0g_25 a0g_26 a0g_27 a0g_28 (Value.ref a0_29) (Value.int a0_30) (Value.int a0_31) a0g_32 a0g_33 a0g_34 a0g_35 a0g_36 a0g_37 a0g_38 a0g_39 v1na0_11 ) (cwV 1 hts gX8_odds_X8_no rfl rfl rfl zd_X8_no ⟨Nat.le_of_ble_eq_true rfl, Nat.le_of_ble_eq_true rfl⟩) ⟨ax_blind (fun _ _ _ _ _ => trivial), zr_8 (zp_K hK) (zp_P1 hP) (q0 := 0) rfl, ax_pre (zp_P1 hP) (zp_K hK) (zp_D1 hD) (fun _ _ => trivial)⟩ rfl rfl hl.1 rfl (lv_room (Nat.le_of_ble_eq_true rfl)) dX8_odds_30 ⟨Nat.le_of_ble_eq_true rfl, Nat.le_of_ble_eq_true rfl⟩) hS (fun q _ h => zp_F1 hD hS hA q h) (zp_F1 hD hS hA) (fun r30 u t H locs ht hvm hw => zx_1 (fun v30na0_11 hB hz1 hk1 hS1 => zo1 hB ht hP hD hk1 (zp_F1 hD hS hA) hS1 (fun hP hK1 hD hS => ?_)))
        have hw : r30 = (-1) := hw
        have hw := hw.symm
        subst hw
        obtain ⟨x33, ex33⟩ : ∃ y : Int64, y = ((-1) : Int32).toInt64 := ⟨_, rfl⟩
        refine lv_i2l (v := x33) hx hb dX8_odds_33 ex33.symm ?_
        exact W.lret (v := x33) hx hb hr (fun t ht hW => ⟨⟨x33, (), rfl, trivial, v1na0_0, v30na0_11, a0_30, a0_31, fa0_29, bfa0_29, by rw [ht]; exact hP, va_K.moved hW.alike hK, hD⟩, hS.F ht⟩) hS.2.2 dX8_odds_34
      · obtain ⟨hw, h17_0, h17_1, h17_2, h17_3⟩ := hw
        subst hw
        exact absurd h17_0 (by decide)
    · obtain ⟨hw, h14⟩ := hw
      subst hw
      refine va_calli (va_runV (As := [.int 0, .int 0]) (rest := []) ⟨hx, hb, hml, hown, hts⟩ (c_X8_whyB l dC dI H.size a0 0 0 (Value.int v1na0_0) a0g_1 a0g_2 a0g_3 a0g_4 a0g_5 a0g_6 a0g_7 a0g_8 a0g_9 a0g_10 (Value.int v1na0_11) a0g_12 a0g_13 (Value.int a0_14) (Value.ref a0_15) a0g_16 (Value.ref a0_17) a0g_18 a0g_19 a0g_20 a0g_21 a0g_22 a0g_23 a0g_24 a0g_25 a0g_26 a0g_27 a0g_28 (Value.ref a0_29) (Value.int a0_30) (Value.int a0_31) a0g_32 a0g_33 a0g_34 a0g_35 a0g_36 a0g_37 a0g_38 a0g_39 zq5 (Int.le_trans zq6 zq4) zq5 (Int.le_trans zq6 zq4)) (cwV 2 hts gX8_odds_X8_why rfl rfl rfl zd_X8_why ⟨Nat.le_of_ble_eq_true rfl, Nat.le_of_ble_eq_true rfl⟩) ⟨ax_blind (fun _ _ _ _ _ => trivial), zr_8 (zp_K hK) (zp_P1 hP) (q0 := 0) rfl, ax_pre (zp_P1 hP) (zp_K hK) (zp_D1 hD) (fun _ _ => trivial)⟩ rfl rfl hl.1 rfl (lv_room (Nat.le_of_ble_eq_true rfl)) dX8_odds_17 ⟨Nat.le_of_ble_eq_true rfl, Nat.le_of_ble_eq_true rfl⟩) hS (fun q _ h => zp_F1 hD hS hA q h) (zp_F1 hD hS hA) (fun r17 u t H locs ht hvm hw hB hz1 hk1 hS1 => zo1 hB ht hP hD hk1 (zp_F1 hD hS hA) hS1 (fun hP hK1 hD hS => ?_))
      rcases hw with hw | hw | hw
      · obtain ⟨hw, h17_0, h17_1, h17_2, h17_3⟩ := hw
        subst hw
        exact absurd h17_0 (by decide)
      · obtain ⟨hw, h17_0, h17_1⟩ := hw
        subst hw
        refine lv_istore (lv' := [(4, .int 1), (0, .ref a0), (1, .int a1), (2, .int a2), (3, .int a3)]) hx hb dX8_odds_20 hl (by decide) rfl (fun ls hl => ?_)
        refine lv_iload hx hb dX8_odds_22 (lv_at hl 0 rfl) ?_
        refine lv_if_eq (tgt := 35) hx hb dX8_odds_24 (by decide) (fun c24 => absurd c24 (by decide +kernel)) (fun _ => ?_)
        refine lv_aload_n hx hb dX8_odds_27 rfl (lv_at hl 1 rfl) ?_
        refine lv_iload hx hb dX8_odds_28 (lv_at hl 0 rfl) ?_
        refine va_calli (va_runV (As := [.int 1]) (rest := []) ⟨hx, hb, hml, hown, hts⟩ (c_X8_no l dC dI H.size a0 1 (Value.int v1na0_0) a0g_1 a0g_2 a0g_3 a0g_4 a0g_5 a0g_6 a0g_7 a0g_8 a0g_9 a0g_10 a0g_12 a0g_13 (Value.int a0_14) (Value.ref a0_15) a0g_16 (Value.ref a0_17) a0g_18 a0g_19 a0g_20 a0g_21 a0g_22 a0g_23 a0g_24 a0g_25 a0g_26 a0g_27 a0g_28 (Value.ref a0_29) (Value.int a0_30) (Value.int a0_31) a0g_32 a0g_33 a0g_34 a0g_35 a0g_36 a0g_37 a0g_38 a0g_39 v1na0_11 ) (cwV 1 hts gX8_odds_X8_no rfl rfl rfl zd_X8_no ⟨Nat.le_of_ble_eq_true rfl, Nat.le_of_ble_eq_true rfl⟩) ⟨ax_blind (fun _ _ _ _ _ => trivial), zr_8 (zp_K hK) (zp_P1 hP) (q0 := 0) rfl, ax_pre (zp_P1 hP) (zp_K hK) (zp_D1 hD) (fun _ _ => trivial)⟩ rfl rfl hl.1 rfl (lv_room (Nat.le_of_ble_eq_true rfl)) dX8_odds_30 ⟨Nat.le_of_ble_eq_true rfl, Nat.le_of_ble_eq_true rfl⟩) hS (fun q _ h => zp_F1 hD hS hA q h) (zp_F1 hD hS hA) (fun r30 u t H locs ht hvm hw => zx_1 (fun v30na0_11 hB hz1 hk1 hS1 => zo1 hB ht hP hD hk1 (zp_F1 hD hS hA) hS1 (fun hP hK1 hD hS => ?_)))
        have hw : r30 = (-1) := hw
        have hw := hw.symm
        subst hw
        obtain ⟨x33, ex33⟩ : ∃ y : Int64, y = ((-1) : Int32).toInt64 := ⟨_, rfl⟩
        refine lv_i2l (v := x33) hx hb dX8_odds_33 ex33.symm ?_
        exact W.lret (v := x33) hx hb hr (fun t ht hW => ⟨⟨x33, (), rfl, trivial, v1na0_0, v30na0_11, a0_30, a0_31, fa0_29, bfa0_29, by rw [ht]; exact hP, va_K.moved hW.alike hK, hD⟩, hS.F ht⟩) hS.2.2 dX8_odds_34
      · obtain ⟨hw, h17_0, h17_1, h17_2, h17_3⟩ := hw
        subst hw
        exact absurd h17_0 (by decide)
end P260_03_safe
section P260_04_safe
set_option maxHeartbeats 4000000 in
set_option maxRecDepth 100000 in
theorem c_X8_mean (l : Launch) (dC : Nat → ClassId) (dI : Nat → Nat → Nat) (sz : Nat) (a0 : Nat) (a1 : Int32) (a2 : Int32) (a3 : Int32) (a0_0 : Int32) (a0g_1 a0g_2 a0g_3 a0g_4 a0g_5 a0g_6 a0g_7 a0g_8 a0g_9 a0g_10 a0g_12 a0g_13 a0g_16 a0g_18 a0g_19 a0g_20 a0g_21 a0g_22 a0g_23 a0g_24 a0g_25 a0g_26 a0g_27 a0g_28 a0g_32 a0g_33 a0g_34 a0g_35 a0g_36 a0g_37 a0g_38 a0g_39 : Value) (a0_11 : Int32) (a0_14 : Int32) (a0_15 : Nat) (a0_17 : Nat) (a0_29 : Nat) (a0_30 : Int32) (a0_31 : Int32) (ka0_15 : ClassId) (fa0_15 : Nat → Int32) (ka0_17 : ClassId) (fa0_17 : Nat → Int32) (ka0_29 : ClassId) (fa0_29 : Nat → Int32) (ba0_14_l : (1 : Int) ≤ a0_14.toInt) (ba0_14_u : a0_14.toInt ≤ (1 : Int)) (bfa0_15 : ((∀ k : Nat, 0 ≤ k → k ≤ 0 → (2 : Int) ≤ (fa0_15 k).toInt ∧ (fa0_15 k).toInt ≤ 9) ∧ (∀ k : Nat, 1 ≤ k → k ≤ 1 → (1 : Int) ≤ (fa0_15 k).toInt ∧ (fa0_15 k).toInt ≤ 20) ∧ (∀ k : Nat, 2 ≤ k → k ≤ 2 → (0 : Int) ≤ (fa0_15 k).toInt ∧ (fa0_15 k).toInt ≤ 8) ∧ (∀ k : Nat, 3 ≤ k → k ≤ 3 → (0 : Int) ≤ (fa0_15 k).toInt ∧ (fa0_15 k).toInt ≤ 100) ∧ (∀ k : Nat, 4 ≤ k → k ≤ 4 → (0 : Int) ≤ (fa0_15 k).toInt ∧ (fa0_15 k).toInt ≤ 9) ∧ (∀ k : Nat, 5 ≤ k → k ≤ 5 → (0 : Int) ≤ (fa0_15 k).toInt ∧ (fa0_15 k).toInt ≤ 3) ∧ (∀ k : Nat, 6 ≤ k → k ≤ 6 → (0 : Int) ≤ (fa0_15 k).toInt ∧ (fa0_15 k).toInt ≤ 6) ∧ (∀ k : Nat, 7 ≤ k → k ≤ 9 → (0 : Int) ≤ (fa0_15 k).toInt ∧ (fa0_15 k).toInt ≤ 8) ∧ (∀ k : Nat, 12 ≤ k → k ≤ 29 → (0 : Int) ≤ (fa0_15 k).toInt ∧ (fa0_15 k).toInt ≤ 20) ∧ (∀ k : Nat, 30 ≤ k → k ≤ 35 → (0 : Int) ≤ (fa0_15 k).toInt ∧ (fa0_15 k).toInt ≤ 8) ∧ (∀ k : Nat, 36 ≤ k → k ≤ 47 → (0 : Int) ≤ (fa0_15 k).toInt ∧ (fa0_15 k).toInt ≤ 999))) (bfa0_17 : ((∀ k : Nat, 0 ≤ k → k ≤ 8 → (0 : Int) ≤ (fa0_17 k).toInt ∧ (fa0_17 k).toInt ≤ 8) ∧ (∀ k : Nat, 19 ≤ k → k ≤ 19 → (0 : Int) ≤ (fa0_17 k).toInt ∧ (fa0_17 k).toInt ≤ 8) ∧ (∀ k : Nat, 20 ≤ k → k ≤ 20 → (0 : Int) ≤ (fa0_17 k).toInt ∧ (fa0_17 k).toInt ≤ 19))) (bfa0_29 : (∀ k, (0 : Int) ≤ (fa0_29 k).toInt ∧ (fa0_29 k).toInt ≤ 8)) : zm l yX8_mean wsX8_mean ({ frames := 3, cells := 0, slots := 0, locals := 68 }) [.ref a0, .int a1, .int a2, .int a3] dC dI sz [(a0, .inr (8, [Value.int a0_0, a0g_1, a0g_2, a0g_3, a0g_4, a0g_5, a0g_6, a0g_7, a0g_8, a0g_9, a0g_10, Value.int a0_11, a0g_12, a0g_13, Value.int a0_14, Value.ref a0_15, a0g_16, Value.ref a0_17, a0g_18, a0g_19, a0g_20, a0g_21, a0g_22, a0g_23, a0g_24, a0g_25, a0g_26, a0g_27, a0g_28, Value.ref a0_29, Value.int a0_30, Value.int a0_31, a0g_32, a0g_33, a0g_34, a0g_35, a0g_36, a0g_37, a0g_38, a0g_39])), (a0_15, .inl (ka0_15, 156, .inl (fa0_15))), (a0_17, .inl (ka0_17, 23, .inl (fa0_17))), (a0_29, .inl (ka0_29, 10, .inl (fa0_29)))] [(ka0_15, .int), (ka0_17, .int), (ka0_29, .int)] (fun A _ => True) (fun A => va_Ql (fun (r : Int64) (_ : Unit) => True) (fun (_ : Unit) (t : State) => ∃ na0_0 : Int32, ∃ na0_11 : Int32, ∃ na0_30 : Int32, ∃ na0_31 : Int32, ∃ nfa0_29 : Nat → Int32, (∀ k, (0 : Int) ≤ (nfa0_29 k).toInt ∧ (nfa0_29 k).toInt ≤ 8) ∧ ax_B dC dI A [(a0, .inr (8, [Value.int na0_0, a0g_1, a0g_2, a0g_3, a0g_4, a0g_5, a0g_6, a0g_7, a0g_8, a0g_9, a0g_10, Value.int na0_11, a0g_12, a0g_13, Value.int a0_14, Value.ref a0_15, a0g_16, Value.ref a0_17, a0g_18, a0g_19, a0g_20, a0g_21, a0g_22, a0g_23, a0g_24, a0g_25, a0g_26, a0g_27, a0g_28, Value.ref a0_29, Value.int na0_30, Value.int na0_31, a0g_32, a0g_33, a0g_34, a0g_35, a0g_36, a0g_37, a0g_38, a0g_39])), (a0_15, .inl (ka0_15, 156, .inl (fa0_15))), (a0_17, .inl (ka0_17, 23, .inl (fa0_17))), (a0_29, .inl (ka0_29, 10, .inl (nfa0_29)))] [(ka0_15, .int), (ka0_17, .int), (ka0_29, .int)] t) A) := by
  refine zh (cc := cX8_mean) (maxL := 5) (ret := (some .long)) zn_RX8 rfl (Nat.le_of_ble_eq_true rfl) (fun p e s m below meth c A ls hx hb hml hr hts (hown : s.vm.findClass RX8 = some m.cls) hlocks hA hS hP hK hD hE (hl : lv_has ls 5 [(0, .ref a0), (1, .int a1), (2, .int a2), (3, .int a3)]) => ?_)
  refine lv_aload_n hx hb dX8_mean_0 rfl (lv_at hl 0 rfl) ?_
  refine va_callv (va_runV (As := []) (rest := []) ⟨hx, hb, hml, hown, hts⟩ (c_X8_good l dC dI s.heap.size a0 a0_0 a0g_1 a0g_2 a0g_3 a0g_4 a0g_5 a0g_6 a0g_7 a0g_8 a0g_9 a0g_10 a0g_12 a0g_13 (Value.int a0_14) (Value.ref a0_15) a0g_16 (Value.ref a0_17) a0g_18 a0g_19 a0g_20 a0g_21 a0g_22 a0g_23 a0g_24 a0g_25 a0g_26 a0g_27 a0g_28 (Value.ref a0_29) (Value.int a0_30) (Value.int a0_31) a0g_32 a0g_33 a0g_34 a0g_35 a0g_36 a0g_37 a0g_38 a0g_39 a0_11 ) (cwV 0 hts gX8_mean_X8_good rfl rfl rfl zd_X8_good ⟨Nat.le_of_ble_eq_true rfl, Nat.le_of_ble_eq_true rfl⟩) ⟨ax_blind (fun _ _ _ _ _ => trivial), zr_8 (zp_K hK) (zp_P1 hP) (q0 := 0) rfl, ax_pre (zp_P1 hP) (zp_K hK) (zp_D1 hD) (fun _ _ => trivial)⟩ rfl rfl hl.1 rfl (lv_room (Nat.le_of_ble_eq_true rfl)) dX8_mean_1 ⟨Nat.le_of_ble_eq_true rfl, Nat.le_of_ble_eq_true rfl⟩) hS (fun q _ h => zp_F1 hD hS hA q h) (zp_F1 hD hS hA) (fun u t H locs ht hvm hw => zx_2 (fun v1na0_0 v1na0_11 hB hz1 hk1 hS1 => zo1 hB ht hP hD hk1 (zp_F1 hD hS hA) hS1 (fun hP hK1 hD hS => ?_)))
  refine lv_aload_n hx hb dX8_mean_4 rfl (lv_at hl 0 rfl) ?_
  refine lv_aload_n hx hb dX8_mean_5 rfl (lv_at hl 0 rfl) ?_
  refine lv_iload_n hx hb dX8_mean_6 rfl (lv_at hl 1 rfl) ?_
  have hKc := hK.sub (tys' := [(ka0_15, .int)]) [0] rfl
  refine va_calli (va_runV (As := [.int a1]) (rest := [.ref a0]) ⟨hx, hb, hml, hown, hts⟩ (c_X8_isFigure l dC dI H.size a0 a1 (Value.int v1na0_0) a0g_1 a0g_2 a0g_3 a0g_4 a0g_5 a0g_6 a0g_7 a0g_8 a0g_9 a0g_10 (Value.int v1na0_11) a0g_12 a0g_13 a0g_16 (Value.ref a0_17) a0g_18 a0g_19 a0g_20 a0g_21 a0g_22 a0g_23 a0g_24 a0g_25 a0g_26 a0g_27 a0g_28 (Value.ref a0_29) (Value.int a0_30) (Value.int a0_31) a0g_32 a0g_33 a0g_34 a0g_35 a0g_36 a0g_37 a0g_38 a0g_39 a0_14 a0_15 ka0_15 fa0_15 ba0_14_l ba0_14_u bfa0_15) (cwV 1 hts gX8_mean_X8_isFigure rfl rfl rfl zd_X8_isFigure ⟨Nat.le_of_ble_eq_true rfl, Nat.le_of_ble_eq_true rfl⟩) ⟨ax_blind (fun _ _ _ _ _ => trivial), zr_8 hKc (zp_P2 hP) (q0 := 0) rfl, ax_pre (zp_P2 hP) hKc (zp_D2 hD) (fun _ _ => trivial)⟩ rfl rfl hl.1 rfl (lv_room (Nat.le_of_ble_eq_true rfl)) dX8_mean_7 ⟨Nat.le_of_ble_eq_true rfl, Nat.le_of_ble_eq_true rfl⟩) hS (fun q _ h => zp_F2 hD hS hA q h) (zp_F2 hD hS hA) (fun r7 u t H locs ht hvm hw hB hz1 hk1 hS1 => zo2 hB ht hP hD hk1 (zp_F2 hD hS hA) hS1 (fun hP hK1 hD hS => ?_))
  rcases hw with hw | hw
  · obtain ⟨hw, h7_0, h7_1⟩ := hw
    subst hw
    have l7k0_a1 : (0 : Int) ≤ a1.toInt := h7_0
    have u7k0_a1 : a1.toInt ≤ (8 : Int) := h7_1
    refine lv_iload_n hx hb dX8_mean_10 rfl (lv_at hl 2 rfl) ?_
    refine lv_iconst (v := 0) hx hb dX8_mean_11 zk_iconst_0 ?_
    refine lv_bipush (v := 8) hx hb dX8_mean_12 zk_bipush_8 ?_
    refine va_calli (va_runS (As := [.int a2, .int 0, .int 8]) (rest := [.int 1, .ref a0]) ⟨hx, hb, hml, hown, hts⟩ (c_X8_in l dC dI H.size a2 0 8 ) (va_cwS 3 hts gX8_mean_X8_in rfl rfl rfl zd_X8_in.2 ⟨Nat.le_of_ble_eq_true rfl, Nat.le_of_ble_eq_true rfl⟩) ⟨ax_blind (fun _ _ _ _ _ => trivial), ax_pre (zp_P0 hP) (zp_K hK) (zp_D0 hD) (fun _ _ => trivial)⟩ rfl rfl hl.1 rfl (lv_room (Nat.le_of_ble_eq_true rfl)) dX8_mean_14 ⟨Nat.le_of_ble_eq_true rfl, Nat.le_of_ble_eq_true rfl⟩) hS (fun q _ h => zp_F0 hD hS hA q h) (zp_F0 hD hS hA) (fun r14 u t H locs ht hvm hw hB hz1 hk1 hS1 => zo0 hB ht hP hD hk1 (zp_F0 hD hS hA) hS1 (fun hP hK1 hD hS => ?_))
    rcases hw with hw | hw
    · obtain ⟨hw, h14⟩ := hw
      subst hw
      have l14k0_a2 : (0 : Int) ≤ a2.toInt := Int.le_trans zq5 h14.1
      have u14k0_a2 : a2.toInt ≤ (8 : Int) := Int.le_trans h14.2 zq28
      refine va_calli (va_runV (As := [.int 1, .int 1]) (rest := []) ⟨hx, hb, hml, hown, hts⟩ (c_X8_whyB l dC dI H.size a0 1 1 (Value.int v1na0_0) a0g_1 a0g_2 a0g_3 a0g_4 a0g_5 a0g_6 a0g_7 a0g_8 a0g_9 a0g_10 (Value.int v1na0_11) a0g_12 a0g_13 (Value.int a0_14) (Value.ref a0_15) a0g_16 (Value.ref a0_17) a0g_18 a0g_19 a0g_20 a0g_21 a0g_22 a0g_23 a0g_24 a0g_25 a0g_26 a0g_27 a0g_28 (Value.ref a0_29) (Value.int a0_30) (Value.int a0_31) a0g_32 a0g_33 a0g_34 a0g_35 a0g_36 a0g_37 a0g_38 a0g_39 (Int.le_trans zq4 zq1) zq0 (Int.le_trans zq4 zq1) zq0) (cwV 2 hts gX8_mean_X8_why rfl rfl rfl zd_X8_why ⟨Nat.le_of_ble_eq_true rfl, Nat.le_of_ble_eq_true rfl⟩) ⟨ax_blind (fun _ _ _ _ _ => trivial), zr_8 (zp_K hK) (zp_P1 hP) (q0 := 0) rfl, ax_pre (zp_P1 hP) (zp_K hK) (zp_D1 hD) (fun _ _ => trivial)⟩ rfl rfl hl.1 rfl (lv_room (Nat.le_of_ble_eq_true rfl)) dX8_mean_17 ⟨Nat.le_of_ble_eq_true rfl, Nat.le_of_ble_eq_true rfl⟩) hS (fun q _ h => zp_F1 hD hS hA q h) (zp_F1 hD hS hA) (fun r17 u t H locs ht hvm hw hB hz1 hk1 hS1 => zo1 hB ht hP hD hk1 (zp_F1 hD hS hA) hS1 (fun hP hK1 hD hS => ?_))
      rcases hw with hw | hw | hw
      · obtain ⟨hw, h17_0, h17_1, h17_2, h17_3⟩ := hw
        subst hw
        exact absurd h17_3 (by decide)
      · obtain ⟨hw, h17_0, h17_1⟩ := hw
        subst hw
        exact absurd h17_1 (by decide)
      · obtain ⟨hw, h17_0, h17_1, h17_2, h17_3⟩ := hw
        subst hw
        refine lv_istore (lv' := [(4, .int 0), (0, .ref a0), (1, .int a1), (2, .int a2), (3, .int a3)]) hx hb dX8_mean_20 hl (by decide) rfl (fun ls hl => ?_)
        refine lv_iload hx hb dX8_mean_22 (lv_at hl 0 rfl) ?_
        refine lv_if_eq (tgt := 35) hx hb dX8_mean_24 (by decide) (fun _ => ?_) (fun c24 => absurd (by decide +kernel) c24)
        refine lv_aload_n hx hb dX8_mean_35 rfl (lv_at hl 1 rfl) ?_
        refine lv_iload_n hx hb dX8_mean_36 rfl (lv_at hl 2 rfl) ?_
        refine lv_iload_n hx hb dX8_mean_37 rfl (lv_at hl 3 rfl) ?_
        refine zc_cutc (wc := [(a0, .inr (8, [Value.int v1na0_0, a0g_1, a0g_2, a0g_3, a0g_4, a0g_5, a0g_6, a0g_7, a0g_8, a0g_9, a0g_10, Value.int v1na0_11, a0g_12, a0g_13, Value.int a0_14, Value.ref a0_15, a0g_16, Value.ref a0_17, a0g_18, a0g_19, a0g_20, a0g_21, a0g_22, a0g_23, a0g_24, a0g_25, a0g_26, a0g_27, a0g_28, Value.ref a0_29, Value.int a0_30, Value.int a0_31, a0g_32, a0g_33, a0g_34, a0g_35, a0g_36, a0g_37, a0g_38, a0g_39])), (a0_17, .inl (ka0_17, 23, .inl (fa0_17))), (a0_29, .inl (ka0_29, 10, .inl (fa0_29))), (a0_15, .inl (ka0_15, 156, .inl (fa0_15)))]) hP hD hS hA [0, 2, 3, 1] (by decide +kernel) rfl (fun hPc hDc hFc hCc => ?_)
        have hKc := hK.sub (tys' := [(ka0_17, .int), (ka0_29, .int), (ka0_15, .int)]) [1, 2, 0] rfl
        refine va_calli (va_runV (As := [.int a1, .int a2]) (rest := []) ⟨hx, hb, hml, hown, hts⟩ (c_X8_turnsOf l dC dI H.size a0 a1 a2 (Value.int v1na0_0) a0g_1 a0g_2 a0g_3 a0g_4 a0g_5 a0g_6 a0g_7 a0g_8 a0g_9 a0g_10 (Value.int v1na0_11) a0g_12 a0g_13 (Value.int a0_14) a0g_16 a0g_18 a0g_19 a0g_20 a0g_21 a0g_22 a0g_23 a0g_24 a0g_25 a0g_26 a0g_27 a0g_28 a0g_32 a0g_33 a0g_34 a0g_35 a0g_36 a0g_37 a0g_38 a0g_39 a0_15 a0_17 a0_29 a0_30 a0_31 ka0_17 fa0_17 ka0_29 fa0_29 ka0_15 fa0_15 l14k0_a2 u14k0_a2 bfa0_17 bfa0_29 bfa0_15) (cwV 2 hts gX8_mean_X8_turnsOf rfl rfl rfl zd_X8_turnsOf ⟨Nat.le_of_ble_eq_true rfl, Nat.le_of_ble_eq_true rfl⟩) ⟨ax_blind (fun _ _ _ _ _ => trivial), zr_8 hKc hPc (q0 := 0) rfl, ax_pre hPc hKc hDc (fun _ _ => trivial)⟩ rfl rfl hl.1 rfl (lv_room (Nat.le_of_ble_eq_true rfl)) dX8_mean_38 ⟨Nat.le_of_ble_eq_true rfl, Nat.le_of_ble_eq_true rfl⟩) hS (fun q _ h => hFc q h) hFc (fun r38 u t H locs ht hvm hw => zx_3 (fun v38na0_30 v38na0_31 v38nfa0_29 => zy_1 (fun bv38nfa0_29 hB hz1 hk1 hS1 => zo hB ht hS1 (fun hP1 hK1 hD1 hS => ?_))))
        refine zc_backc (w := [(a0, .inr (8, [Value.int v1na0_0, a0g_1, a0g_2, a0g_3, a0g_4, a0g_5, a0g_6, a0g_7, a0g_8, a0g_9, a0g_10, Value.int v1na0_11, a0g_12, a0g_13, Value.int a0_14, Value.ref a0_15, a0g_16, Value.ref a0_17, a0g_18, a0g_19, a0g_20, a0g_21, a0g_22, a0g_23, a0g_24, a0g_25, a0g_26, a0g_27, a0g_28, Value.ref a0_29, Value.int v38na0_30, Value.int v38na0_31, a0g_32, a0g_33, a0g_34, a0g_35, a0g_36, a0g_37, a0g_38, a0g_39])), (a0_15, .inl (ka0_15, 156, .inl (fa0_15))), (a0_17, .inl (ka0_17, 23, .inl (fa0_17))), (a0_29, .inl (ka0_29, 10, .inl (v38nfa0_29)))]) hP hD hCc hk1 hFc hP1 hD1 [.inr 0, .inr 3, .inr 1, .inr 2] (by decide +kernel) rfl (fun hP hD => ?_)
        have hw : (0 : Int) ≤ r38.toInt ∧ r38.toInt ≤ (8 : Int) := hw
        obtain ⟨h38_0, h38_1⟩ := hw
        obtain ⟨x41, ex41⟩ : ∃ y : Int64, y = (r38 : Int32).toInt64 := ⟨_, rfl⟩
        refine lv_i2l (v := x41) hx hb dX8_mean_41 ex41.symm ?_
        refine lv_bipush (v := 100) hx hb dX8_mean_42 zk_bipush_100 ?_
        refine lv_aload_n hx hb dX8_mean_44 rfl (lv_at hl 1 rfl) ?_
        refine va_get (D := (dC, dI)) (ci := 8) (v := .ref a0_15) (C := RX8) (T := TX8) (N := 40) hx hb hts zi_X8_mean_8 hown hK hP 0 rfl rfl 15 (by decide) (hts (.fieldLink RX8 20 "WaxTurnsModel" "\x72" "[I") (zm_X8_mean_r1 (List.mem_of_getElem? (i := 0) rfl))) (fun _ h9 => h9) rfl dX8_mean_45 ?_
        refine lv_iconst (v := 3) hx hb dX8_mean_48 zk_iconst_3 ?_
        refine va_iald hx hb hK hP 1 0 rfl rfl (by unfold vp_in; decide +kernel) dX8_mean_49 ?_
        refine lv_topi (fun x49 ex49 => ?_)
        have bx49 : (0 : Int) ≤ x49.toInt ∧ x49.toInt ≤ 100 := by rw [ex49]; exact ai_rd bfa0_15.2.2.2.1 zq8 zq9 (by decide) (by decide) (by decide)
        refine lv_isub hx hb dX8_mean_50 ?_
        refine lv_topi (fun x50 ex50 => ?_)
        have qx50 : x50.toInt = (100 : Int32).toInt - x49.toInt := ai_sub ex50 ⟨zq24, zq32⟩ ⟨bx49.1, bx49.2⟩ (by decide) (by decide)
        have bx50 : (0 : Int) ≤ x50.toInt ∧ x50.toInt ≤ 100 := ⟨by rw [qx50]; exact Int.sub_le_sub zq24 bx49.2, by rw [qx50]; exact Int.sub_le_sub zq32 bx49.1⟩
        obtain ⟨x51, ex51⟩ : ∃ y : Int64, y = (x50 : Int32).toInt64 := ⟨_, rfl⟩
        refine lv_i2l (v := x51) hx hb dX8_mean_51 ex51.symm ?_
        refine lv_lmul hx hb dX8_mean_52 ?_
        refine lv_topl (fun x52 ex52 => ?_)
        refine lv_ldc2 (v := 100) hx hb hown (hts (.constantLong RX8 368 (100)) (zm_X8_mean_r1 (List.mem_of_getElem? (i := 1) rfl))) dX8_mean_53 ?_
        refine lv_iload_n hx hb dX8_mean_56 rfl (lv_at hl 4 rfl) ?_
        refine va_calll (va_runS (As := [.long x52, .long 100, .int a3]) (rest := []) ⟨hx, hb, hml, hown, hts⟩ (c_X8_lowest l dC dI H.size x52 100 a3 (by decide)) (va_cwS 3 hts gX8_mean_X8_lowest rfl rfl rfl zd_X8_lowest.2 ⟨Nat.le_of_ble_eq_true rfl, Nat.le_of_ble_eq_true rfl⟩) ⟨ax_blind (fun _ _ _ _ _ => trivial), ax_pre (zp_P0 hP) (zp_K hK) (zp_D0 hD) (fun _ _ => trivial)⟩ rfl rfl hl.1 rfl (lv_room (Nat.le_of_ble_eq_true rfl)) dX8_mean_57 ⟨Nat.le_of_ble_eq_true rfl, Nat.le_of_ble_eq_true rfl⟩) hS (fun q _ h => zp_F0 hD hS hA q h) (zp_F0 hD hS hA) (fun r57 u t H locs ht hvm hw hB hz1 hk1 hS1 => zo0 hB ht hP hD hk1 (zp_F0 hD hS hA) hS1 (fun hP hK1 hD hS => ?_))
        exact W.lret (v := r57) hx hb hr (fun t ht hW => ⟨⟨r57, (), rfl, trivial, v1na0_0, v1na0_11, v38na0_30, v38na0_31, v38nfa0_29, bv38nfa0_29, by rw [ht]; exact hP, va_K.moved hW.alike hK, hD⟩, hS.F ht⟩) hS.2.2 dX8_mean_60
    · obtain ⟨hw, h14⟩ := hw
      subst hw
      refine va_calli (va_runV (As := [.int 1, .int 0]) (rest := []) ⟨hx, hb, hml, hown, hts⟩ (c_X8_whyB l dC dI H.size a0 1 0 (Value.int v1na0_0) a0g_1 a0g_2 a0g_3 a0g_4 a0g_5 a0g_6 a0g_7 a0g_8 a0g_9 a0g_10 (Value.int v1na0_11) a0g_12 a0g_13 (Value.int a0_14) (Value.ref a0_15) a0g_16 (Value.ref a0_17) a0g_18 a0g_19 a0g_20 a0g_21 a0g_22 a0g_23 a0g_24 a0g_25 a0g_26 a0g_27 a0g_28 (Value.ref a0_29) (Value.int a0_30) (Value.int a0_31) a0g_32 a0g_33 a0g_34 a0g_35 a0g_36 a0g_37 a0g_38 a0g_39 (Int.le_trans zq4 zq1) zq0 zq5 (Int.le_trans zq6 zq4)) (cwV 2 hts gX8_mean_X8_why rfl rfl rfl zd_X8_why ⟨Nat.le_of_ble_eq_true rfl, Nat.le_of_ble_eq_true rfl⟩) ⟨ax_blind (fun _ _ _ _ _ => trivial), zr_8 (zp_K hK) (zp_P1 hP) (q0 := 0) rfl, ax_pre (zp_P1 hP) (zp_K hK) (zp_D1 hD) (fun _ _ => trivial)⟩ rfl rfl hl.1 rfl (lv_room (Nat.le_of_ble_eq_true rfl)) dX8_mean_17 ⟨Nat.le_of_ble_eq_true rfl, Nat.le_of_ble_eq_true rfl⟩) hS (fun q _ h => zp_F1 hD hS hA q h) (zp_F1 hD hS hA) (fun r17 u t H locs ht hvm hw hB hz1 hk1 hS1 => zo1 hB ht hP hD hk1 (zp_F1 hD hS hA) hS1 (fun hP hK1 hD hS => ?_))
      rcases hw with hw | hw | hw
      · obtain ⟨hw, h17_0, h17_1, h17_2, h17_3⟩ := hw
        subst hw
        refine lv_istore (lv' := [(4, .int 2), (0, .ref a0), (1, .int a1), (2, .int a2), (3, .int a3)]) hx hb dX8_mean_20 hl (by decide) rfl (fun ls hl => ?_)
        refine lv_iload hx hb dX8_mean_22 (lv_at hl 0 rfl) ?_
        refine lv_if_eq (tgt := 35) hx hb dX8_mean_24 (by decide) (fun c24 => absurd c24 (by decide +kernel)) (fun _ => ?_)
        refine lv_aload_n hx hb dX8_mean_27 rfl (lv_at hl 1 rfl) ?_
        refine lv_iload hx hb dX8_mean_28 (lv_at hl 0 rfl) ?_
        refine va_calli (va_runV (As := [.int 2]) (rest := []) ⟨hx, hb, hml, hown, hts⟩ (c_X8_no l dC dI H.size a0 2 (Value.int v1na0_0) a0g_1 a0g_2 a0g_3 a0g_4 a0g_5 a0g_6 a0g_7 a0g_8 a0g_9 a0g_10 a0g_12 a0g_13 (Value.int a0_14) (Value.ref a0_15) a0g_16 (Value.ref a0_17) a0g_18 a0g_19 a0g_20 a0g_21 a0g_22 a0g_23 a0g_24 a0g_25 a0g_26 a0g_27 a0g_28 (Value.ref a0_29) (Value.int a0_30) (Value.int a0_31) a0g_32 a0g_33 a0g_34 a0g_35 a0g_36 a0g_37 a0g_38 a0g_39 v1na0_11 ) (cwV 1 hts gX8_mean_X8_no rfl rfl rfl zd_X8_no ⟨Nat.le_of_ble_eq_true rfl, Nat.le_of_ble_eq_true rfl⟩) ⟨ax_blind (fun _ _ _ _ _ => trivial), zr_8 (zp_K hK) (zp_P1 hP) (q0 := 0) rfl, ax_pre (zp_P1 hP) (zp_K hK) (zp_D1 hD) (fun _ _ => trivial)⟩ rfl rfl hl.1 rfl (lv_room (Nat.le_of_ble_eq_true rfl)) dX8_mean_30 ⟨Nat.le_of_ble_eq_true rfl, Nat.le_of_ble_eq_true rfl⟩) hS (fun q _ h => zp_F1 hD hS hA q h) (zp_F1 hD hS hA) (fun r30 u t H locs ht hvm hw => zx_1 (fun v30na0_11 hB hz1 hk1 hS1 => zo1 hB ht hP hD hk1 (zp_F1 hD hS hA) hS1 (fun hP hK1 hD hS => ?_)))
        have hw : r30 = (-1) := hw
        have hw := hw.symm
        subst hw
        obtain ⟨x33, ex33⟩ : ∃ y : Int64, y = ((-1) : Int32).toInt64 := ⟨_, rfl⟩
        refine lv_i2l (v := x33) hx hb dX8_mean_33 ex33.symm ?_
        exact W.lret (v := x33) hx hb hr (fun t ht hW => ⟨⟨x33, (), rfl, trivial, v1na0_0, v30na0_11, a0_30, a0_31, fa0_29, bfa0_29, by rw [ht]; exact hP, va_K.moved hW.alike hK, hD⟩, hS.F ht⟩) hS.2.2 dX8_mean_34
      · obtain ⟨hw, h17_0, h17_1⟩ := hw
        subst hw
        exact absurd h17_1 (by decide)
      · obtain ⟨hw, h17_0, h17_1, h17_2, h17_3⟩ := hw
        subst hw
        exact absurd h17_2 (by decide)
  · subst hw
    refine lv_iload_n hx hb dX8_mean_10 rfl (lv_at hl 2 rfl) ?_
    refine lv_iconst (v := 0) hx hb dX8_mean_11 zk_iconst_0 ?_
    refine lv_bipush (v := 8) hx hb dX8_mean_12 zk_bipush_8 ?_
    refine va_calli (va_runS (As := [.int a2, .int 0, .int 8]) (rest := [.int 0, .ref a0]) ⟨hx, hb, hml, hown, hts⟩ (c_X8_in l dC dI H.size a2 0 8 ) (va_cwS 3 hts gX8_mean_X8_in rfl rfl rfl zd_X8_in.2 ⟨Nat.le_of_ble_eq_true rfl, Nat.le_of_ble_eq_true rfl⟩) ⟨ax_blind (fun _ _ _ _ _ => trivial), ax_pre (zp_P0 hP) (zp_K hK) (zp_D0 hD) (fun _ _ => trivial)⟩ rfl rfl hl.1 rfl (lv_room (Nat.le_of_ble_eq_true rfl)) dX8_mean_14 ⟨Nat.le_of_ble_eq_true rfl, Nat.le_of_ble_eq_true rfl⟩) hS (fun q _ h => zp_F0 hD hS hA q h) (zp_F0 hD hS hA) (fun r14 u t H locs ht hvm hw hB hz1 hk1 hS1 => zo0 hB ht hP hD hk1 (zp_F0 hD hS hA) hS1 (fun hP hK1 hD hS => ?_))
    rcases hw with hw | hw
    · obtain ⟨hw, h14⟩ := hw
      subst hw
      have l14k0_a2 : (0 : Int) ≤ a2.toInt := Int.le_trans zq5 h14.1
      have u14k0_a2 : a2.toInt ≤ (8 : Int) := Int.le_trans h14.2 zq28
      refine va_calli (va_runV (As := [.int 0, .int 1]) (rest := []) ⟨hx, hb, hml, hown, hts⟩ (c_X8_whyB l dC dI H.size a0 0 1 (Value.int v1na0_0) a0g_1 a0g_2 a0g_3 a0g_4 a0g_5 a0g_6 a0g_7 a0g_8 a0g_9 a0g_10 (Value.int v1na0_11) a0g_12 a0g_13 (Value.int a0_14) (Value.ref a0_15) a0g_16 (Value.ref a0_17) a0g_18 a0g_19 a0g_20 a0g_21 a0g_22 a0g_23 a0g_24 a0g_25 a0g_26 a0g_27 a0g_28 (Value.ref a0_29) (Value.int a0_30) (Value.int a0_31) a0g_32 a0g_33 a0g_34 a0g_35 a0g_36 a0g_37 a0g_38 a0g_39 zq5 (Int.le_trans zq6 zq4) (Int.le_trans zq4 zq1) zq0) (cwV 2 hts gX8_mean_X8_why rfl rfl rfl zd_X8_why ⟨Nat.le_of_ble_eq_true rfl, Nat.le_of_ble_eq_true rfl⟩) ⟨ax_blind (fun _ _ _ _ _ => trivial), zr_8 (zp_K hK) (zp_P1 hP) (q0 := 0) rfl, ax_pre (zp_P1 hP) (zp_K hK) (zp_D1 hD) (fun _ _ => trivial)⟩ rfl rfl hl.1 rfl (lv_room (Nat.le_of_ble_eq_true rfl)) dX8_mean_17 ⟨Nat.le_of_ble_eq_true rfl, Nat.le_of_ble_eq_true rfl⟩) hS (fun q _ h => zp_F1 hD hS hA q h) (zp_F1 hD hS hA) (fun r17 u t H locs ht hvm hw hB hz1 hk1 hS1 => zo1 hB ht hP hD hk1 (zp_F1 hD hS hA) hS1 (fun hP hK1 hD hS => ?_))
      rcases hw with hw | hw | hw
      · obtain ⟨hw, h17_0, h17_1, h17_2, h17_3⟩ := hw
        subst hw
        exact absurd h17_0 (by decide)
      · obtain ⟨hw, h17_0, h17_1⟩ := hw
        subst hw
        refine lv_istore (lv' := [(4, .int 1), (0, .ref a0), (1, .int a1), (2, .int a2), (3, .int a3)]) hx hb dX8_mean_20 hl (by decide) rfl (fun ls hl => ?_)
        refine lv_iload hx hb dX8_mean_22 (lv_at hl 0 rfl) ?_
        refine lv_if_eq (tgt := 35) hx hb dX8_mean_24 (by decide) (fun c24 => absurd c24 (by decide +kernel)) (fun _ => ?_)
        refine lv_aload_n hx hb dX8_mean_27 rfl (lv_at hl 1 rfl) ?_
        refine lv_iload hx hb dX8_mean_28 (lv_at hl 0 rfl) ?_
        refine va_calli (va_runV (As := [.int 1]) (rest := []) ⟨hx, hb, hml, hown, hts⟩ (c_X8_no l dC dI H.size a0 1 (Value.int v1na0_0) a0g_1 a0g_2 a0g_3 a0g_4 a0g_5 a0g_6 a0g_7 a0g_8 a0g_9 a0g_10 a0g_12 a0g_13 (Value.int a0_14) (Value.ref a0_15) a0g_16 (Value.ref a0_17) a0g_18 a0g_19 a0g_20 a0g_21 a0g_22 a0g_23 a0g_24 a0g_25 a0g_26 a0g_27 a0g_28 (Value.ref a0_29) (Value.int a0_30) (Value.int a0_31) a0g_32 a0g_33 a0g_34 a0g_35 a0g_36 a0g_37 a0g_38 a0g_39 v1na0_11 ) (cwV 1 hts gX8_mean_X8_no rfl rfl rfl zd_X8_no ⟨Nat.le_of_ble_eq_true rfl, Nat.le_of_ble_eq_true rfl⟩) ⟨ax_blind (fun _ _ _ _ _ => trivial), zr_8 (zp_K hK) (zp_P1 hP) (q0 := 0) rfl, ax_pre (zp_P1 hP) (zp_K hK) (zp_D1 hD) (fun _ _ => trivial)⟩ rfl rfl hl.1 rfl (lv_room (Nat.le_of_ble_eq_true rfl)) dX8_mean_30 ⟨Nat.le_of_ble_eq_true rfl, Nat.le_of_ble_eq_true rfl⟩) hS (fun q _ h => zp_F1 hD hS hA q h) (zp_F1 hD hS hA) (fun r30 u t H locs ht hvm hw => zx_1 (fun v30na0_11 hB hz1 hk1 hS1 => zo1 hB ht hP hD hk1 (zp_F1 hD hS hA) hS1 (fun hP hK1 hD hS => ?_)))
        have hw : r30 = (-1) := hw
        have hw := hw.symm
        subst hw
        obtain ⟨x33, ex33⟩ : ∃ y : Int64, y = ((-1) : Int32).toInt64 := ⟨_, rfl⟩
        refine lv_i2l (v := x33) hx hb dX8_mean_33 ex33.symm ?_
        exact W.lret (v := x33) hx hb hr (fun t ht hW => ⟨⟨x33, (), rfl, trivial, v1na0_0, v30na0_11, a0_30, a0_31, fa0_29, bfa0_29, by rw [ht]; exact hP, va_K.moved hW.alike hK, hD⟩, hS.F ht⟩) hS.2.2 dX8_mean_34
      · obtain ⟨hw, h17_0, h17_1, h17_2, h17_3⟩ := hw
        subst hw
        exact absurd h17_0 (by decide)
    · obtain ⟨hw, h14⟩ := hw
      subst hw
      refine va_calli (va_runV (As := [.int 0, .int 0]) (rest := []) ⟨hx, hb, hml, hown, hts⟩ (c_X8_whyB l dC dI H.size a0 0 0 (Value.int v1na0_0) a0g_1 a0g_2 a0g_3 a0g_4 a0g_5 a0g_6 a0g_7 a0g_8 a0g_9 a0g_10 (Value.int v1na0_11) a0g_12 a0g_13 (Value.int a0_14) (Value.ref a0_15) a0g_16 (Value.ref a0_17) a0g_18 a0g_19 a0g_20 a0g_21 a0g_22 a0g_23 a0g_24 a0g_25 a0g_26 a0g_27 a0g_28 (Value.ref a0_29) (Value.int a0_30) (Value.int a0_31) a0g_32 a0g_33 a0g_34 a0g_35 a0g_36 a0g_37 a0g_38 a0g_39 zq5 (Int.le_trans zq6 zq4) zq5 (Int.le_trans zq6 zq4)) (cwV 2 hts gX8_mean_X8_why rfl rfl rfl zd_X8_why ⟨Nat.le_of_ble_eq_true rfl, Nat.le_of_ble_eq_true rfl⟩) ⟨ax_blind (fun _ _ _ _ _ => trivial), zr_8 (zp_K hK) (zp_P1 hP) (q0 := 0) rfl, ax_pre (zp_P1 hP) (zp_K hK) (zp_D1 hD) (fun _ _ => trivial)⟩ rfl rfl hl.1 rfl (lv_room (Nat.le_of_ble_eq_true rfl)) dX8_mean_17 ⟨Nat.le_of_ble_eq_true rfl, Nat.le_of_ble_eq_true rfl⟩) hS (fun q _ h => zp_F1 hD hS hA q h) (zp_F1 hD hS hA) (fun r17 u t H locs ht hvm hw hB hz1 hk1 hS1 => zo1 hB ht hP hD hk1 (zp_F1 hD hS hA) hS1 (fun hP hK1 hD hS => ?_))
      rcases hw with hw | hw | hw
      · obtain ⟨hw, h17_0, h17_1, h17_2, h17_3⟩ := hw
        subst hw
        exact absurd h17_0 (by decide)
      · obtain ⟨hw, h17_0, h17_1⟩ := hw
        subst hw
        refine lv_istore (lv' := [(4, .int 1), (0, .ref a0), (1, .int a1), (2, .int a2), (3, .int a3)]) hx hb dX8_mean_20 hl (by decide) rfl (fun ls hl => ?_)
        refine lv_iload hx hb dX8_mean_22 (lv_at hl 0 rfl) ?_
        refine lv_if_eq (tgt := 35) hx hb dX8_mean_24 (by decide) (fun c24 => absurd c24 (by decide +kernel)) (fun _ => ?_)
        refine lv_aload_n hx hb dX8_mean_27 rfl (lv_at hl 1 rfl) ?_
        refine lv_iload hx hb dX8_mean_28 (lv_at hl 0 rfl) ?_
        refine va_calli (va_runV (As := [.int 1]) (rest := []) ⟨hx, hb, hml, hown, hts⟩ (c_X8_no l dC dI H.size a0 1 (Value.int v1na0_0) a0g_1 a0g_2 a0g_3 a0g_4 a0g_5 a0g_6 a0g_7 a0g_8 a0g_9 a0g_10 a0g_12 a0g_13 (Value.int a0_14) (Value.ref a0_15) a0g_16 (Value.ref a0_17) a0g_18 a0g_19 a0g_20 a0g_21 a0g_22 a0g_23 a0g_24 a0g_25 a0g_26 a0g_27 a0g_28 (Value.ref a0_29) (Value.int a0_30) (Value.int a0_31) a0g_32 a0g_33 a0g_34 a0g_35 a0g_36 a0g_37 a0g_38 a0g_39 v1na0_11 ) (cwV 1 hts gX8_mean_X8_no rfl rfl rfl zd_X8_no ⟨Nat.le_of_ble_eq_true rfl, Nat.le_of_ble_eq_true rfl⟩) ⟨ax_blind (fun _ _ _ _ _ => trivial), zr_8 (zp_K hK) (zp_P1 hP) (q0 := 0) rfl, ax_pre (zp_P1 hP) (zp_K hK) (zp_D1 hD) (fun _ _ => trivial)⟩ rfl rfl hl.1 rfl (lv_room (Nat.le_of_ble_eq_true rfl)) dX8_mean_30 ⟨Nat.le_of_ble_eq_true rfl, Nat.le_of_ble_eq_true rfl⟩) hS (fun q _ h => zp_F1 hD hS hA q h) (zp_F1 hD hS hA) (fun r30 u t H locs ht hvm hw => zx_1 (fun v30na0_11 hB hz1 hk1 hS1 => zo1 hB ht hP hD hk1 (zp_F1 hD hS hA) hS1 (fun hP hK1 hD hS => ?_)))
        have hw : r30 = (-1) := hw
        have hw := hw.symm
        subst hw
        obtain ⟨x33, ex33⟩ : ∃ y : Int64, y = ((-1) : Int32).toInt64 := ⟨_, rfl⟩
        refine lv_i2l (v := x33) hx hb dX8_mean_33 ex33.symm ?_
        exact W.lret (v := x33) hx hb hr (fun t ht hW => ⟨⟨x33, (), rfl, trivial, v1na0_0, v30na0_11, a0_30, a0_31, fa0_29, bfa0_29, by rw [ht]; exact hP, va_K.moved hW.alike hK, hD⟩, hS.F ht⟩) hS.2.2 dX8_mean_34
      · obtain ⟨hw, h17_0, h17_1, h17_2, h17_3⟩ := hw
        subst hw
        exact absurd h17_0 (by decide)

set_option maxHeartbeats 4000000 in
set_option maxRecDepth 100000 in
theorem c_X8_drawWhy (l : Launch) (dC : Nat → ClassId) (dI : Nat → Nat → Nat) (sz : Nat) (a0 : Nat) (a1 : Int32) (a2 : Int32) (a3 : Int32) (a4 : Int32) (a0g_0 a0g_1 a0g_2 a0g_3 a0g_4 a0g_5 a0g_6 a0g_7 a0g_8 a0g_9 a0g_10 a0g_11 a0g_12 a0g_13 a0g_14 a0g_16 a0g_18 a0g_19 a0g_20 a0g_21 a0g_22 a0g_23 a0g_24 a0g_25 a0g_26 a0g_27 a0g_28 a0g_32 a0g_33 a0g_34 a0g_35 a0g_36 a0g_37 : Value) (a0_15 : Nat) (a0_17 : Nat) (a0_29 : Nat) (a0_30 : Int32) (a0_31 : Int32) (a0_38 : Int32) (a0_39 : Int32) (ka0_17 : ClassId) (fa0_17 : Nat → Int32) (ka0_29 : ClassId) (fa0_29 : Nat → Int32) (ka0_15 : ClassId) (fa0_15 : Nat → Int32) (ba1_l : (0 : Int) ≤ a1.toInt) (ba1_u : a1.toInt ≤ (1 : Int)) (bfa0_17 : ((∀ k : Nat, 0 ≤ k → k ≤ 8 → (0 : Int) ≤ (fa0_17 k).toInt ∧ (fa0_17 k).toInt ≤ 8) ∧ (∀ k : Nat, 19 ≤ k → k ≤ 19 → (0 : Int) ≤ (fa0_17 k).toInt ∧ (fa0_17 k).toInt ≤ 8) ∧ (∀ k : Nat, 20 ≤ k → k ≤ 20 → (0 : Int) ≤ (fa0_17 k).toInt ∧ (fa0_17 k).toInt ≤ 19))) (bfa0_29 : (∀ k, (0 : Int) ≤ (fa0_29 k).toInt ∧ (fa0_29 k).toInt ≤ 8)) (bfa0_15 : ((∀ k : Nat, 0 ≤ k → k ≤ 0 → (2 : Int) ≤ (fa0_15 k).toInt ∧ (fa0_15 k).toInt ≤ 9) ∧ (∀ k : Nat, 1 ≤ k → k ≤ 1 → (1 : Int) ≤ (fa0_15 k).toInt ∧ (fa0_15 k).toInt ≤ 20) ∧ (∀ k : Nat, 2 ≤ k → k ≤ 2 → (0 : Int) ≤ (fa0_15 k).toInt ∧ (fa0_15 k).toInt ≤ 8) ∧ (∀ k : Nat, 3 ≤ k → k ≤ 3 → (0 : Int) ≤ (fa0_15 k).toInt ∧ (fa0_15 k).toInt ≤ 100) ∧ (∀ k : Nat, 4 ≤ k → k ≤ 4 → (0 : Int) ≤ (fa0_15 k).toInt ∧ (fa0_15 k).toInt ≤ 9) ∧ (∀ k : Nat, 5 ≤ k → k ≤ 5 → (0 : Int) ≤ (fa0_15 k).toInt ∧ (fa0_15 k).toInt ≤ 3) ∧ (∀ k : Nat, 6 ≤ k → k ≤ 6 → (0 : Int) ≤ (fa0_15 k).toInt ∧ (fa0_15 k).toInt ≤ 6) ∧ (∀ k : Nat, 7 ≤ k → k ≤ 9 → (0 : Int) ≤ (fa0_15 k).toInt ∧ (fa0_15 k).toInt ≤ 8) ∧ (∀ k : Nat, 12 ≤ k → k ≤ 29 → (0 : Int) ≤ (fa0_15 k).toInt ∧ (fa0_15 k).toInt ≤ 20) ∧ (∀ k : Nat, 30 ≤ k → k ≤ 35 → (0 : Int) ≤ (fa0_15 k).toInt ∧ (fa0_15 k).toInt ≤ 8) ∧ (∀ k : Nat, 36 ≤ k → k ≤ 47 → (0 : Int) ≤ (fa0_15 k).toInt ∧ (fa0_15 k).toInt ≤ 999))) : zm l yX8_drawWhy wsX8_drawWhy ({ frames := 2, cells := 0, slots := 0, locals := 44 }) [.ref a0, .int a1, .int a2, .int a3, .int a4] dC dI sz [(a0, .inr (8, [a0g_0, a0g_1, a0g_2, a0g_3, a0g_4, a0g_5, a0g_6, a0g_7, a0g_8, a0g_9, a0g_10, a0g_11, a0g_12, a0g_13, a0g_14, Value.ref a0_15, a0g_16, Value.ref a0_17, a0g_18, a0g_19, a0g_20, a0g_21, a0g_22, a0g_23, a0g_24, a0g_25, a0g_26, a0g_27, a0g_28, Value.ref a0_29, Value.int a0_30, Value.int a0_31, a0g_32, a0g_33, a0g_34, a0g_35, a0g_36, a0g_37, Value.int a0_38, Value.int a0_39])), (a0_17, .inl (ka0_17, 23, .inl (fa0_17))), (a0_29, .inl (ka0_29, 10, .inl (fa0_29))), (a0_15, .inl (ka0_15, 156, .inl (fa0_15)))] [(ka0_17, .int), (ka0_29, .int), (ka0_15, .int)] (fun A _ => True) (fun A => va_Qi (fun (r : Int32) (_ : Unit) => (r = 2 ∧ (1 : Int) ≤ a1.toInt ∧ a1.toInt ≤ (1 : Int)) ∨ (r = 1 ∧ (0 : Int) ≤ a1.toInt ∧ a1.toInt ≤ (0 : Int)) ∨ (r = 0 ∧ (1 : Int) ≤ a1.toInt ∧ a1.toInt ≤ (1 : Int) ∧ (0 : Int) ≤ a3.toInt ∧ a3.toInt ≤ (65536 : Int) ∧ (0 : Int) ≤ a4.toInt ∧ a4.toInt ≤ (200 : Int))) (fun (_ : Unit) (t : State) => ∃ na0_30 : Int32, ∃ na0_31 : Int32, ∃ na0_38 : Int32, ∃ na0_39 : Int32, ∃ nfa0_29 : Nat → Int32, (∀ k, (0 : Int) ≤ (nfa0_29 k).toInt ∧ (nfa0_29 k).toInt ≤ 8) ∧ ax_B dC dI A [(a0, .inr (8, [a0g_0, a0g_1, a0g_2, a0g_3, a0g_4, a0g_5, a0g_6, a0g_7, a0g_8, a0g_9, a0g_10, a0g_11, a0g_12, a0g_13, a0g_14, Value.ref a0_15, a0g_16, Value.ref a0_17, a0g_18, a0g_19, a0g_20, a0g_21, a0g_22, a0g_23, a0g_24, a0g_25, a0g_26, a0g_27, a0g_28, Value.ref a0_29, Value.int na0_30, Value.int na0_31, a0g_32, a0g_33, a0g_34, a0g_35, a0g_36, a0g_37, Value.int na0_38, Value.int na0_39])), (a0_17, .inl (ka0_17, 23, .inl (fa0_17))), (a0_29, .inl (ka0_29, 10, .inl (nfa0_29))), (a0_15, .inl (ka0_15, 156, .inl (fa0_15)))] [(ka0_17, .int), (ka0_29, .int), (ka0_15, .int)] t) A) := by
  refine zh (cc := cX8_drawWhy) (maxL := 9) (ret := (some .int)) zn_RX8 rfl (Nat.le_of_ble_eq_true rfl) (fun p e s m below meth c A ls hx hb hml hr hts (hown : s.vm.findClass RX8 = some m.cls) hlocks hA hS hP hK hD hE (hl : lv_has ls 9 [(0, .ref a0), (1, .int a1), (2, .int a2), (3, .int a3), (4, .int a4)]) => ?_)
  refine ai_open (fun K hK0 => ?_)
  refine (hK0 _ _ _).mpr ?_
  refine lv_aload_n hx hb dX8_drawWhy_0 rfl (lv_at hl 0 rfl) ?_
  refine lv_iload_n hx hb dX8_drawWhy_1 rfl (lv_at hl 1 rfl) ?_
  refine lv_iload_n hx hb dX8_drawWhy_2 rfl (lv_at hl 3 rfl) ?_
  refine lv_iconst (v := 0) hx hb dX8_drawWhy_3 zk_iconst_0 ?_
  refine lv_ldcw (v := 65536) hx hb hown (hts (.constant RX8 374 (65536)) (zm_X8_drawWhy_r1 (List.mem_of_getElem? (i := 0) rfl))) dX8_drawWhy_4 ?_
  refine va_calli (va_runS (As := [.int a3, .int 0, .int 65536]) (rest := [.int a1, .ref a0]) ⟨hx, hb, hml, hown, hts⟩ (c_X8_in l dC dI s.heap.size a3 0 65536 ) (va_cwS 3 hts gX8_drawWhy_X8_in rfl rfl rfl zd_X8_in.2 ⟨Nat.le_of_ble_eq_true rfl, Nat.le_of_ble_eq_true rfl⟩) ⟨ax_blind (fun _ _ _ _ _ => trivial), ax_pre (zp_P0 hP) (zp_K hK) (zp_D0 hD) (fun _ _ => trivial)⟩ rfl rfl hl.1 rfl (lv_room (Nat.le_of_ble_eq_true rfl)) dX8_drawWhy_7 ⟨Nat.le_of_ble_eq_true rfl, Nat.le_of_ble_eq_true rfl⟩) hS (fun q _ h => zp_F0 hD hS hA q h) (zp_F0 hD hS hA) (fun r7 u t H locs ht hvm hw hB hz1 hk1 hS1 => zo0 hB ht hP hD hk1 (zp_F0 hD hS hA) hS1 (fun hP hK1 hD hS => ?_))
  rcases hw with hw | hw
  · obtain ⟨hw, h7⟩ := hw
    subst hw
    have l7k0_a3 : (0 : Int) ≤ a3.toInt := Int.le_trans zq5 h7.1
    have u7k0_a3 : a3.toInt ≤ (65536 : Int) := Int.le_trans h7.2 zq105
    refine lv_if_eq (tgt := 29) hx hb dX8_drawWhy_10 (by decide) (fun c10 => absurd c10 (by decide +kernel)) (fun _ => ?_)
    refine lv_iload hx hb dX8_drawWhy_13 (lv_at hl 4 rfl) ?_
    refine lv_iconst (v := 0) hx hb dX8_drawWhy_15 zk_iconst_0 ?_
    refine lv_sipush (v := 200) hx hb dX8_drawWhy_16 zk_sipush_200 ?_
    refine va_calli (va_runS (As := [.int a4, .int 0, .int 200]) (rest := [.int a1, .ref a0]) ⟨hx, hb, hml, hown, hts⟩ (c_X8_in l dC dI H.size a4 0 200 ) (va_cwS 3 hts gX8_drawWhy_X8_in rfl rfl rfl zd_X8_in.2 ⟨Nat.le_of_ble_eq_true rfl, Nat.le_of_ble_eq_true rfl⟩) ⟨ax_blind (fun _ _ _ _ _ => trivial), ax_pre (zp_P0 hP) (zp_K hK) (zp_D0 hD) (fun _ _ => trivial)⟩ rfl rfl hl.1 rfl (lv_room (Nat.le_of_ble_eq_true rfl)) dX8_drawWhy_19 ⟨Nat.le_of_ble_eq_true rfl, Nat.le_of_ble_eq_true rfl⟩) hS (fun q _ h => zp_F0 hD hS hA q h) (zp_F0 hD hS hA) (fun r19 u t H locs ht hvm hw hB hz1 hk1 hS1 => zo0 hB ht hP hD hk1 (zp_F0 hD hS hA) hS1 (fun hP hK1 hD hS => ?_))
    rcases hw with hw | hw
    · obtain ⟨hw, h19⟩ := hw
      subst hw
      have l19k0_a4 : (0 : Int) ≤ a4.toInt := Int.le_trans zq5 h19.1
      have u19k0_a4 : a4.toInt ≤ (200 : Int) := Int.le_trans h19.2 zq65
      refine lv_if_eq (tgt := 29) hx hb dX8_drawWhy_22 (by decide) (fun c22 => absurd c22 (by decide +kernel)) (fun _ => ?_)
      refine lv_iconst (v := 1) hx hb dX8_drawWhy_25 zk_iconst_1 ?_
      refine lv_goto (tgt := 30) hx hb dX8_drawWhy_26 (by decide) ?_
      refine va_calli (va_runV (As := [.int a1, .int 1]) (rest := []) ⟨hx, hb, hml, hown, hts⟩ (c_X8_whyB l dC dI H.size a0 a1 1 a0g_0 a0g_1 a0g_2 a0g_3 a0g_4 a0g_5 a0g_6 a0g_7 a0g_8 a0g_9 a0g_10 a0g_11 a0g_12 a0g_13 a0g_14 (Value.ref a0_15) a0g_16 (Value.ref a0_17) a0g_18 a0g_19 a0g_20 a0g_21 a0g_22 a0g_23 a0g_24 a0g_25 a0g_26 a0g_27 a0g_28 (Value.ref a0_29) (Value.int a0_30) (Value.int a0_31) a0g_32 a0g_33 a0g_34 a0g_35 a0g_36 a0g_37 (Value.int a0_38) (Value.int a0_39) ba1_l ba1_u (Int.le_trans zq4 zq1) zq0) (cwV 2 hts gX8_drawWhy_X8_why rfl rfl rfl zd_X8_why ⟨Nat.le_of_ble_eq_true rfl, Nat.le_of_ble_eq_true rfl⟩) ⟨ax_blind (fun _ _ _ _ _ => trivial), zr_8 (zp_K hK) (zp_P1 hP) (q0 := 0) rfl, ax_pre (zp_P1 hP) (zp_K hK) (zp_D1 hD) (fun _ _ => trivial)⟩ rfl rfl hl.1 rfl (lv_room (Nat.le_of_ble_eq_true rfl)) dX8_drawWhy_30 ⟨Nat.le_of_ble_eq_true rfl, Nat.le_of_ble_eq_true rfl⟩) hS (fun q _ h => zp_F1 hD hS hA q h) (zp_F1 hD hS hA) (fun r30 u t H locs ht hvm hw hB hz1 hk1 hS1 => zo1 hB ht hP hD hk1 (zp_F1 hD hS hA) hS1 (fun hP hK1 hD hS => ?_))
      rcases hw with hw | hw | hw
      · obtain ⟨hw, h30_0, h30_1, h30_2, h30_3⟩ := hw
        subst hw
        have l30k0_a1 : (1 : Int) ≤ a1.toInt := h30_0
        have u30k0_a1 : a1.toInt ≤ (1 : Int) := ba1_u
        exact absurd h30_3 (by decide)
      · obtain ⟨hw, h30_0, h30_1⟩ := hw
        subst hw
        have l30k1_a1 : (0 : Int) ≤ a1.toInt := ba1_l
        have u30k1_a1 : a1.toInt ≤ (0 : Int) := h30_1
        refine lv_istore (lv' := [(5, .int 1), (0, .ref a0), (1, .int a1), (2, .int a2), (3, .int a3), (4, .int a4)]) hx hb dX8_drawWhy_33 hl (by decide) rfl (fun ls hl => ?_)
        refine lv_iload hx hb dX8_drawWhy_35 (lv_at hl 0 rfl) ?_
        refine lv_if_eq (tgt := 43) hx hb dX8_drawWhy_37 (by decide) (fun c37 => absurd c37 (by decide +kernel)) (fun _ => ?_)
        refine lv_iload hx hb dX8_drawWhy_40 (lv_at hl 0 rfl) ?_
        exact W.iret (v := 1) hx hb hr (fun t ht hW => ⟨⟨1, (), rfl, (Or.inr (Or.inl ⟨rfl, l30k1_a1, u30k1_a1⟩)), a0_30, a0_31, a0_38, a0_39, fa0_29, bfa0_29, by rw [ht]; exact hP, va_K.moved hW.alike hK, hD⟩, hS.F ht⟩) hS.2.2 dX8_drawWhy_42
      · obtain ⟨hw, h30_0, h30_1, h30_2, h30_3⟩ := hw
        subst hw
        have l30k2_a1 : (1 : Int) ≤ a1.toInt := h30_0
        have u30k2_a1 : a1.toInt ≤ (1 : Int) := ba1_u
        refine lv_istore (lv' := [(5, .int 0), (0, .ref a0), (1, .int a1), (2, .int a2), (3, .int a3), (4, .int a4)]) hx hb dX8_drawWhy_33 hl (by decide) rfl (fun ls hl => ?_)
        refine lv_iload hx hb dX8_drawWhy_35 (lv_at hl 0 rfl) ?_
        refine lv_if_eq (tgt := 43) hx hb dX8_drawWhy_37 (by decide) (fun _ => ?_) (fun c37 => absurd (by decide +kernel) c37)
        refine lv_iload_n hx hb dX8_drawWhy_43 rfl (lv_at hl 4 rfl) ?_
        refine lv_istore (lv' := [(6, .int a3), (5, .int 0), (0, .ref a0), (1, .int a1), (2, .int a2), (3, .int a3), (4, .int a4)]) hx hb dX8_drawWhy_44 hl (by decide) rfl (fun ls hl => ?_)
        refine lv_aload_n hx hb dX8_drawWhy_46 rfl (lv_at hl 2 rfl) ?_
        refine lv_bipush (v := (-2)) hx hb dX8_drawWhy_47 zk_bipush_n2 ?_
        refine va_put (D := (dC, dI)) (ci := 8) (v := .int (-2)) (ty := .int) (C := RX8) (T := TX8) (N := 40) hx hb hts zi_X8_drawWhy_8 tyX8 tyX8_ok nmX8 hown hK hP hD hS 0 rfl rfl 38 (by decide) (hts (.fieldLink RX8 375 "WaxTurnsModel" "shutFirst" "I") (zm_X8_drawWhy_r1 (List.mem_of_getElem? (i := 1) rfl))) (fun _ h9 => h9) rfl (tyX8_ok 38 (by decide)) rfl rfl (Nat.le_of_ble_eq_true rfl) dX8_drawWhy_49 (fun H locs hP hD hS => ?_)
        refine zs_0 (y := (a0, .inr (8, [a0g_0, a0g_1, a0g_2, a0g_3, a0g_4, a0g_5, a0g_6, a0g_7, a0g_8, a0g_9, a0g_10, a0g_11, a0g_12, a0g_13, a0g_14, Value.ref a0_15, a0g_16, Value.ref a0_17, a0g_18, a0g_19, a0g_20, a0g_21, a0g_22, a0g_23, a0g_24, a0g_25, a0g_26, a0g_27, a0g_28, Value.ref a0_29, Value.int a0_30, Value.int a0_31, a0g_32, a0g_33, a0g_34, a0g_35, a0g_36, a0g_37, Value.int (-2), Value.int a0_39]))) hP hD rfl (fun hP hD => ?_)
        refine lv_aload_n hx hb dX8_drawWhy_52 rfl (lv_at hl 2 rfl) ?_
        refine lv_iconst (v := 0) hx hb dX8_drawWhy_53 zk_iconst_0 ?_
        refine va_put (D := (dC, dI)) (ci := 8) (v := .int 0) (ty := .int) (C := RX8) (T := TX8) (N := 40) hx hb hts zi_X8_drawWhy_8 tyX8 tyX8_ok nmX8 hown hK hP hD hS 0 rfl rfl 39 (by decide) (hts (.fieldLink RX8 378 "WaxTurnsModel" "aliveOften" "I") (zm_X8_drawWhy_r1 (List.mem_of_getElem? (i := 2) rfl))) (fun _ h9 => h9) rfl (tyX8_ok 39 (by decide)) rfl rfl (Nat.le_of_ble_eq_true rfl) dX8_drawWhy_54 (fun H locs hP hD hS => ?_)
        refine zs_0 (y := (a0, .inr (8, [a0g_0, a0g_1, a0g_2, a0g_3, a0g_4, a0g_5, a0g_6, a0g_7, a0g_8, a0g_9, a0g_10, a0g_11, a0g_12, a0g_13, a0g_14, Value.ref a0_15, a0g_16, Value.ref a0_17, a0g_18, a0g_19, a0g_20, a0g_21, a0g_22, a0g_23, a0g_24, a0g_25, a0g_26, a0g_27, a0g_28, Value.ref a0_29, Value.int a0_30, Value.int a0_31, a0g_32, a0g_33, a0g_34, a0g_35, a0g_36, a0g_37, Value.int (-2), Value.int 0]))) hP hD rfl (fun hP hD => ?_)
        refine lv_aload_n hx hb dX8_drawWhy_57 rfl (lv_at hl 2 rfl) ?_
        have hKc := hK.sub (tys' := [(ka0_17, .int), (ka0_29, .int), (ka0_15, .int)]) [0, 1, 2] rfl
        refine va_callv (va_runV (As := []) (rest := []) ⟨hx, hb, hml, hown, hts⟩ (c_X8_goRound l dC dI H.size a0 a0g_0 a0g_1 a0g_2 a0g_3 a0g_4 a0g_5 a0g_6 a0g_7 a0g_8 a0g_9 a0g_10 a0g_11 a0g_12 a0g_13 a0g_14 a0g_16 a0g_18 a0g_19 a0g_20 a0g_21 a0g_22 a0g_23 a0g_24 a0g_25 a0g_26 a0g_27 a0g_28 a0g_32 a0g_33 a0g_34 a0g_35 a0g_36 a0g_37 (Value.int (-2)) (Value.int 0) a0_15 a0_17 a0_29 a0_30 a0_31 ka0_17 fa0_17 ka0_29 fa0_29 ka0_15 fa0_15 bfa0_17 bfa0_29 bfa0_15) (cwV 0 hts gX8_drawWhy_X8_goRound rfl rfl rfl zd_X8_goRound ⟨Nat.le_of_ble_eq_true rfl, Nat.le_of_ble_eq_true rfl⟩) ⟨ax_blind (fun _ _ _ _ _ => trivial), zr_8 hKc (zp_P4 hP) (q0 := 0) rfl, ax_pre (zp_P4 hP) hKc (zp_D4 hD) (fun _ _ => trivial)⟩ rfl rfl hl.1 rfl (lv_room (Nat.le_of_ble_eq_true rfl)) dX8_drawWhy_58 ⟨Nat.le_of_ble_eq_true rfl, Nat.le_of_ble_eq_true rfl⟩) hS (fun q _ h => zp_F4 hD hS hA q h) (zp_F4 hD hS hA) (fun u t H locs ht hvm hw => zx_3 (fun v58na0_30 v58na0_31 v58nfa0_29 => zy_2 (fun bv58nfa0_29 hraw58_0 hB hz1 hk1 hS1 => zo4 hB ht hP hD hk1 (zp_F4 hD hS hA) hS1 (fun hP hK1 hD hS => ?_))))
        refine lv_iconst (v := 1) hx hb dX8_drawWhy_61 zk_iconst_1 ?_
        refine lv_istore (lv' := [(7, .int 1), (6, .int a3), (5, .int 0), (0, .ref a0), (1, .int a1), (2, .int a2), (3, .int a3), (4, .int a4)]) hx hb dX8_drawWhy_62 hl (by decide) rfl (fun ls hl => ?_)
        have J64 : ∀ (n : Nat) (j64l7 : Int32) (j64l6 : Int32) (j64a0_38 : Int32) (j64a0_39 : Int32) (H : Heap) (locs : List Loc) (ls : Array Slot), (202 : Int) - j64l7.toInt ≤ (n : Int) → (1 : Int) ≤ j64l7.toInt → j64l7.toInt ≤ (201 : Int) → (0 : Int) ≤ j64l6.toInt → j64l6.toInt ≤ (65536 : Int) → va_P (dC, dI) vwCl [(a0, .inr (8, [a0g_0, a0g_1, a0g_2, a0g_3, a0g_4, a0g_5, a0g_6, a0g_7, a0g_8, a0g_9, a0g_10, a0g_11, a0g_12, a0g_13, a0g_14, Value.ref a0_15, a0g_16, Value.ref a0_17, a0g_18, a0g_19, a0g_20, a0g_21, a0g_22, a0g_23, a0g_24, a0g_25, a0g_26, a0g_27, a0g_28, Value.ref a0_29, Value.int v58na0_30, Value.int v58na0_31, a0g_32, a0g_33, a0g_34, a0g_35, a0g_36, a0g_37, Value.int j64a0_38, Value.int j64a0_39])), (a0_17, .inl (ka0_17, 23, .inl (fa0_17))), (a0_29, .inl (ka0_29, 10, .inl (v58nfa0_29))), (a0_15, .inl (ka0_15, 156, .inl (fa0_15)))] H → va_D A [(a0, .inr (8, [a0g_0, a0g_1, a0g_2, a0g_3, a0g_4, a0g_5, a0g_6, a0g_7, a0g_8, a0g_9, a0g_10, a0g_11, a0g_12, a0g_13, a0g_14, Value.ref a0_15, a0g_16, Value.ref a0_17, a0g_18, a0g_19, a0g_20, a0g_21, a0g_22, a0g_23, a0g_24, a0g_25, a0g_26, a0g_27, a0g_28, Value.ref a0_29, Value.int v58na0_30, Value.int v58na0_31, a0g_32, a0g_33, a0g_34, a0g_35, a0g_36, a0g_37, Value.int j64a0_38, Value.int j64a0_39])), (a0_17, .inl (ka0_17, 23, .inl (fa0_17))), (a0_29, .inl (ka0_29, 10, .inl (v58nfa0_29))), (a0_15, .inl (ka0_15, 156, .inl (fa0_15)))] → va_S A s.heap H locs → lv_has ls 9 [(0, .ref a0), (2, .int a2), (4, .int a4), (6, .int j64l6), (7, .int j64l7)] → K H locs (F0 m 64 ls []) := by
          intro n
          induction n with
          | zero =>
            intro j64l7 j64l6 j64a0_38 j64a0_39 H locs ls hm bj64l7_l bj64l7_u bj64l6_l bj64l6_u hP hD hS hl
            first | exact zg_0 hm bj64l7_u (by decide) | (have h8 := ai_min j64l7; have h9 := ai_max j64l7; exact absurd hm (by omega))
          | succ n ih64 =>
            intro j64l7 j64l6 j64a0_38 j64a0_39 H locs ls hm bj64l7_l bj64l7_u bj64l6_l bj64l6_u hP hD hS hl
            refine (hK0 _ _ _).mpr ?_
            have hm64 := hm
            refine lv_iload hx hb dX8_drawWhy_64 (lv_at hl 4 rfl) ?_
            refine lv_iload hx hb dX8_drawWhy_66 (lv_at hl 2 rfl) ?_
            refine lv_icmp_gt (tgt := 159) hx hb dX8_drawWhy_68 (by decide) (fun c68 => ?_) (fun c68 => ?_)
            · have gc68 := ai_lt c68
              have u68t_a4 : a4.toInt ≤ (200 : Int) := u19k0_a4
              have l68t_j64l7 : (1 : Int) ≤ j64l7.toInt := bj64l7_l
              refine lv_iconst (v := 0) hx hb dX8_drawWhy_159 zk_iconst_0 ?_
              exact W.iret (v := 0) hx hb hr (fun t ht hW => ⟨⟨0, (), rfl, (Or.inr (Or.inr (⟨rfl, l30k2_a1, u30k2_a1, l7k0_a3, u7k0_a3, l19k0_a4, u68t_a4⟩))), v58na0_30, v58na0_31, j64a0_38, j64a0_39, v58nfa0_29, bv58nfa0_29, by rw [ht]; exact hP, va_K.moved hW.alike hK, hD⟩, hS.F ht⟩) hS.2.2 dX8_drawWhy_160
            · have gc68 := ai_nlt c68
              have u68f_j64l7 : j64l7.toInt ≤ (200 : Int) := Int.le_trans gc68 u19k0_a4
              have l68f_a4 : (1 : Int) ≤ a4.toInt := Int.le_trans bj64l7_l gc68
              refine lv_bipush (v := 75) hx hb dX8_drawWhy_71 zk_bipush_75 ?_
              refine lv_iload hx hb dX8_drawWhy_73 (lv_at hl 3 rfl) ?_
              refine lv_imul hx hb dX8_drawWhy_75 ?_
              refine lv_topi (fun x75 ex75 => ?_)
              have qx75 : x75.toInt = (75 : Int32).toInt * j64l6.toInt ∧ (0 : Int) ≤ x75.toInt ∧ x75.toInt ≤ 4915200 := ai_mul ex75 ⟨zq202, zq203⟩ ⟨bj64l6_l, bj64l6_u⟩ (by decide) (by decide) zq204
              have wx75 : x75.toInt = 75 * j64l6.toInt := qx75.1
              refine lv_bipush (v := 74) hx hb dX8_drawWhy_76 zk_bipush_74 ?_
              refine lv_iadd hx hb dX8_drawWhy_78 ?_
              refine lv_topi (fun x78 ex78 => ?_)
              have qx78 : x78.toInt = x75.toInt + (74 : Int32).toInt := ai_add ex78 ⟨qx75.2.1, qx75.2.2⟩ ⟨zq205, zq206⟩ (by decide) (by decide)
              have bx78 : (74 : Int) ≤ x78.toInt ∧ x78.toInt ≤ 4915274 := ⟨by rw [qx78]; exact Int.add_le_add qx75.2.1 zq205, by rw [qx78]; exact Int.add_le_add qx75.2.2 zq206⟩
              have wx78 : x78.toInt = x75.toInt + 74 := qx78
              refine lv_ldcw (v := 65537) hx hb hown (hts (.constant RX8 381 (65537)) (zm_X8_drawWhy_r1 (List.mem_of_getElem? (i := 3) rfl))) dX8_drawWhy_79 ?_
              refine lv_irem hx hb dX8_drawWhy_82 (by decide +kernel) ?_
              refine lv_topi (fun x82 ex82 => ?_)
              have qx82 := ai_rem2 ex82 (Int.le_trans zq207 bx78.1) (Int.lt_of_lt_of_le zq208 zq209) zq210
              have wx82 : x82.toInt = x78.toInt % 65537 := qx82.1
              refine lv_istore (lv' := [(6, .int x82), (0, .ref a0), (2, .int a2), (4, .int a4), (7, .int j64l7)]) hx hb dX8_drawWhy_83 hl (by decide) rfl (fun ls hl => ?_)
              refine lv_iload hx hb dX8_drawWhy_85 (lv_at hl 0 rfl) ?_
              refine lv_bipush (v := 100) hx hb dX8_drawWhy_87 zk_bipush_100 ?_
              refine lv_irem hx hb dX8_drawWhy_89 (by decide +kernel) ?_
              refine lv_topi (fun x89 ex89 => ?_)
              have qx89 := ai_rem2 ex89 qx82.2.1 (Int.lt_of_lt_of_le zq23 zq24) zq32
              have wx89 : x89.toInt = x82.toInt % 100 := qx89.1
              refine lv_aload_n hx hb dX8_drawWhy_90 rfl (lv_at hl 1 rfl) ?_
              refine va_get (D := (dC, dI)) (ci := 8) (v := .ref a0_15) (C := RX8) (T := TX8) (N := 40) hx hb hts zi_X8_drawWhy_8 hown hK hP 0 rfl rfl 15 (by decide) (hts (.fieldLink RX8 20 "WaxTurnsModel" "\x72" "[I") (zm_X8_drawWhy_r1 (List.mem_of_getElem? (i := 4) rfl))) (fun _ h9 => h9) rfl dX8_drawWhy_91 ?_
              refine lv_iconst (v := 3) hx hb dX8_drawWhy_94 zk_iconst_3 ?_
              refine va_iald hx hb hK hP 3 2 rfl rfl (by unfold vp_in; decide +kernel) dX8_drawWhy_95 ?_
              refine lv_topi (fun x95 ex95 => ?_)
              have bx95 : (0 : Int) ≤ x95.toInt ∧ x95.toInt ≤ 100 := by rw [ex95]; exact ai_rd bfa0_15.2.2.2.1 zq8 zq9 (by decide) (by decide) (by decide)
              have J104 : ∀ (j104s0 : Int32) (H : Heap) (locs : List Loc) (ls : Array Slot), (0 : Int) ≤ j104s0.toInt → j104s0.toInt ≤ (1 : Int) → va_P (dC, dI) vwCl [(a0, .inr (8, [a0g_0, a0g_1, a0g_2, a0g_3, a0g_4, a0g_5, a0g_6, a0g_7, a0g_8, a0g_9, a0g_10, a0g_11, a0g_12, a0g_13, a0g_14, Value.ref a0_15, a0g_16, Value.ref a0_17, a0g_18, a0g_19, a0g_20, a0g_21, a0g_22, a0g_23, a0g_24, a0g_25, a0g_26, a0g_27, a0g_28, Value.ref a0_29, Value.int v58na0_30, Value.int v58na0_31, a0g_32, a0g_33, a0g_34, a0g_35, a0g_36, a0g_37, Value.int j64a0_38, Value.int j64a0_39])), (a0_17, .inl (ka0_17, 23, .inl (fa0_17))), (a0_29, .inl (ka0_29, 10, .inl (v58nfa0_29))), (a0_15, .inl (ka0_15, 156, .inl (fa0_15)))] H → va_D A [(a0, .inr (8, [a0g_0, a0g_1, a0g_2, a0g_3, a0g_4, a0g_5, a0g_6, a0g_7, a0g_8, a0g_9, a0g_10, a0g_11, a0g_12, a0g_13, a0g_14, Value.ref a0_15, a0g_16, Value.ref a0_17, a0g_18, a0g_19, a0g_20, a0g_21, a0g_22, a0g_23, a0g_24, a0g_25, a0g_26, a0g_27, a0g_28, Value.ref a0_29, Value.int v58na0_30, Value.int v58na0_31, a0g_32, a0g_33, a0g_34, a0g_35, a0g_36, a0g_37, Value.int j64a0_38, Value.int j64a0_39])), (a0_17, .inl (ka0_17, 23, .inl (fa0_17))), (a0_29, .inl (ka0_29, 10, .inl (v58nfa0_29))), (a0_15, .inl (ka0_15, 156, .inl (fa0_15)))] → va_S A s.heap H locs → lv_has ls 9 [(0, .ref a0), (2, .int a2), (4, .int a4), (6, .int x82), (7, .int j64l7)] → K H locs (F0 m 104 ls [.int j104s0]) := by
                intro j104s0 H locs ls  bj104s0_l bj104s0_u hP hD hS hl
                refine (hK0 _ _ _).mpr ?_
                refine lv_istore (lv' := [(8, .int j104s0), (0, .ref a0), (2, .int a2), (4, .int a4), (6, .int x82), (7, .int j64l7)]) hx hb dX8_drawWhy_104 hl (by decide) rfl (fun ls hl => ?_)
                refine lv_iload hx hb dX8_drawWhy_106 (lv_at hl 0 rfl) ?_
                have J124 : ∀ (j124a0_38 : Int32) (H : Heap) (locs : List Loc) (ls : Array Slot), va_P (dC, dI) vwCl [(a0, .inr (8, [a0g_0, a0g_1, a0g_2, a0g_3, a0g_4, a0g_5, a0g_6, a0g_7, a0g_8, a0g_9, a0g_10, a0g_11, a0g_12, a0g_13, a0g_14, Value.ref a0_15, a0g_16, Value.ref a0_17, a0g_18, a0g_19, a0g_20, a0g_21, a0g_22, a0g_23, a0g_24, a0g_25, a0g_26, a0g_27, a0g_28, Value.ref a0_29, Value.int v58na0_30, Value.int v58na0_31, a0g_32, a0g_33, a0g_34, a0g_35, a0g_36, a0g_37, Value.int j124a0_38, Value.int j64a0_39])), (a0_17, .inl (ka0_17, 23, .inl (fa0_17))), (a0_29, .inl (ka0_29, 10, .inl (v58nfa0_29))), (a0_15, .inl (ka0_15, 156, .inl (fa0_15)))] H → va_D A [(a0, .inr (8, [a0g_0, a0g_1, a0g_2, a0g_3, a0g_4, a0g_5, a0g_6, a0g_7, a0g_8, a0g_9, a0g_10, a0g_11, a0g_12, a0g_13, a0g_14, Value.ref a0_15, a0g_16, Value.ref a0_17, a0g_18, a0g_19, a0g_20, a0g_21, a0g_22, a0g_23, a0g_24, a0g_25, a0g_26, a0g_27, a0g_28, Value.ref a0_29, Value.int v58na0_30, Value.int v58na0_31, a0g_32, a0g_33, a0g_34, a0g_35, a0g_36, a0g_37, Value.int j124a0_38, Value.int j64a0_39])), (a0_17, .inl (ka0_17, 23, .inl (fa0_17))), (a0_29, .inl (ka0_29, 10, .inl (v58nfa0_29))), (a0_15, .inl (ka0_15, 156, .inl (fa0_15)))] → va_S A s.heap H locs → lv_has ls 9 [(0, .ref a0), (2, .int a2), (4, .int a4), (6, .int x82), (7, .int j64l7), (8, .int j104s0)] → K H locs (F0 m 124 ls []) := by
                  intro j124a0_38 H locs ls   hP hD hS hl
                  refine (hK0 _ _ _).mpr ?_
                  refine lv_aload_n hx hb dX8_drawWhy_124 rfl (lv_at hl 0 rfl) ?_
                  refine lv_dup hx hb dX8_drawWhy_125 rfl ?_
                  refine va_get (D := (dC, dI)) (ci := 8) (v := .int j64a0_39) (C := RX8) (T := TX8) (N := 40) hx hb hts zi_X8_drawWhy_8 hown hK hP 0 rfl rfl 39 (by decide) (hts (.fieldLink RX8 378 "WaxTurnsModel" "aliveOften" "I") (zm_X8_drawWhy_r1 (List.mem_of_getElem? (i := 2) rfl))) (fun _ h9 => h9) rfl dX8_drawWhy_126 ?_
                  refine lv_iload hx hb dX8_drawWhy_129 (lv_at hl 5 rfl) ?_
                  have J149 : ∀ (j149s0 : Int32) (H : Heap) (locs : List Loc) (ls : Array Slot), (0 : Int) ≤ j149s0.toInt → j149s0.toInt ≤ (1 : Int) → va_P (dC, dI) vwCl [(a0, .inr (8, [a0g_0, a0g_1, a0g_2, a0g_3, a0g_4, a0g_5, a0g_6, a0g_7, a0g_8, a0g_9, a0g_10, a0g_11, a0g_12, a0g_13, a0g_14, Value.ref a0_15, a0g_16, Value.ref a0_17, a0g_18, a0g_19, a0g_20, a0g_21, a0g_22, a0g_23, a0g_24, a0g_25, a0g_26, a0g_27, a0g_28, Value.ref a0_29, Value.int v58na0_30, Value.int v58na0_31, a0g_32, a0g_33, a0g_34, a0g_35, a0g_36, a0g_37, Value.int j124a0_38, Value.int j64a0_39])), (a0_17, .inl (ka0_17, 23, .inl (fa0_17))), (a0_29, .inl (ka0_29, 10, .inl (v58nfa0_29))), (a0_15, .inl (ka0_15, 156, .inl (fa0_15)))] H → va_D A [(a0, .inr (8, [a0g_0, a0g_1, a0g_2, a0g_3, a0g_4, a0g_5, a0g_6, a0g_7, a0g_8, a0g_9, a0g_10, a0g_11, a0g_12, a0g_13, a0g_14, Value.ref a0_15, a0g_16, Value.ref a0_17, a0g_18, a0g_19, a0g_20, a0g_21, a0g_22, a0g_23, a0g_24, a0g_25, a0g_26, a0g_27, a0g_28, Value.ref a0_29, Value.int v58na0_30, Value.int v58na0_31, a0g_32, a0g_33, a0g_34, a0g_35, a0g_36, a0g_37, Value.int j124a0_38, Value.int j64a0_39])), (a0_17, .inl (ka0_17, 23, .inl (fa0_17))), (a0_29, .inl (ka0_29, 10, .inl (v58nfa0_29))), (a0_15, .inl (ka0_15, 156, .inl (fa0_15)))] → va_S A s.heap H locs → lv_has ls 9 [(0, .ref a0), (2, .int a2), (4, .int a4), (6, .int x82), (7, .int j64l7)] → K H locs (F0 m 149 ls [.int j149s0, .int j64a0_39, .ref a0]) := by
                    intro j149s0 H locs ls  bj149s0_l bj149s0_u hP hD hS hl
                    refine (hK0 _ _ _).mpr ?_
                    refine lv_iadd hx hb dX8_drawWhy_149 ?_
                    refine lv_topi (fun x149 ex149 => ?_)
                    refine va_put (D := (dC, dI)) (ci := 8) (v := .int x149) (ty := .int) (C := RX8) (T := TX8) (N := 40) hx hb hts zi_X8_drawWhy_8 tyX8 tyX8_ok nmX8 hown hK hP hD hS 0 rfl rfl 39 (by decide) (hts (.fieldLink RX8 378 "WaxTurnsModel" "aliveOften" "I") (zm_X8_drawWhy_r1 (List.mem_of_getElem? (i := 2) rfl))) (fun _ h9 => h9) rfl (tyX8_ok 39 (by decide)) rfl rfl (Nat.le_of_ble_eq_true rfl) dX8_drawWhy_150 (fun H locs hP hD hS => ?_)
                    refine zs_0 (y := (a0, .inr (8, [a0g_0, a0g_1, a0g_2, a0g_3, a0g_4, a0g_5, a0g_6, a0g_7, a0g_8, a0g_9, a0g_10, a0g_11, a0g_12, a0g_13, a0g_14, Value.ref a0_15, a0g_16, Value.ref a0_17, a0g_18, a0g_19, a0g_20, a0g_21, a0g_22, a0g_23, a0g_24, a0g_25, a0g_26, a0g_27, a0g_28, Value.ref a0_29, Value.int v58na0_30, Value.int v58na0_31, a0g_32, a0g_33, a0g_34, a0g_35, a0g_36, a0g_37, Value.int j124a0_38, Value.int x149]))) hP hD rfl (fun hP hD => ?_)
                    obtain ⟨x153, ex153⟩ : ∃ y : Int32, y = j64l7 + Int32.ofInt 1 := ⟨_, rfl⟩
                    have qx153 : x153.toInt = j64l7.toInt + 1 := ai_inc ex153 (by decide) (by decide) u68f_j64l7 (by decide)
                    have bx153 : (2 : Int) ≤ x153.toInt ∧ x153.toInt ≤ 201 := ⟨by rw [qx153]; exact Int.add_le_add bj64l7_l (Int.le_refl _), by rw [qx153]; exact Int.add_le_add u68f_j64l7 (Int.le_refl _)⟩
                    refine lv_iinc (v := x153) (lv' := [(7, .int x153), (0, .ref a0), (2, .int a2), (4, .int a4), (6, .int x82)]) hx hb dX8_drawWhy_153 hl (k := 4) rfl ex153.symm (by decide) rfl (fun ls hl => ?_)
                    refine lv_goto (tgt := 64) hx hb dX8_drawWhy_156 (by decide) ?_
                    exact (hK0 _ _ _).mp (ih64 x153 x82 j124a0_38 x149 _ _ _ (by first | exact zg_s hm64 qx153 | (have h0 := qx153; omega)) (Int.le_trans zq54 bx153.1) bx153.2 qx82.2.1 qx82.2.2 hP hD hS (lv_sub hl [1, 2, 3, 4, 0] rfl))
                  have J148 : ∀ (H : Heap) (locs : List Loc) (ls : Array Slot), va_P (dC, dI) vwCl [(a0, .inr (8, [a0g_0, a0g_1, a0g_2, a0g_3, a0g_4, a0g_5, a0g_6, a0g_7, a0g_8, a0g_9, a0g_10, a0g_11, a0g_12, a0g_13, a0g_14, Value.ref a0_15, a0g_16, Value.ref a0_17, a0g_18, a0g_19, a0g_20, a0g_21, a0g_22, a0g_23, a0g_24, a0g_25, a0g_26, a0g_27, a0g_28, Value.ref a0_29, Value.int v58na0_30, Value.int v58na0_31, a0g_32, a0g_33, a0g_34, a0g_35, a0g_36, a0g_37, Value.int j124a0_38, Value.int j64a0_39])), (a0_17, .inl (ka0_17, 23, .inl (fa0_17))), (a0_29, .inl (ka0_29, 10, .inl (v58nfa0_29))), (a0_15, .inl (ka0_15, 156, .inl (fa0_15)))] H → va_D A [(a0, .inr (8, [a0g_0, a0g_1, a0g_2, a0g_3, a0g_4, a0g_5, a0g_6, a0g_7, a0g_8, a0g_9, a0g_10, a0g_11, a0g_12, a0g_13, a0g_14, Value.ref a0_15, a0g_16, Value.ref a0_17, a0g_18, a0g_19, a0g_20, a0g_21, a0g_22, a0g_23, a0g_24, a0g_25, a0g_26, a0g_27, a0g_28, Value.ref a0_29, Value.int v58na0_30, Value.int v58na0_31, a0g_32, a0g_33, a0g_34, a0g_35, a0g_36, a0g_37, Value.int j124a0_38, Value.int j64a0_39])), (a0_17, .inl (ka0_17, 23, .inl (fa0_17))), (a0_29, .inl (ka0_29, 10, .inl (v58nfa0_29))), (a0_15, .inl (ka0_15, 156, .inl (fa0_15)))] → va_S A s.heap H locs → lv_has ls 9 [(0, .ref a0), (2, .int a2), (4, .int a4), (6, .int x82), (7, .int j64l7)] → K H locs (F0 m 148 ls [.int j64a0_39, .ref a0]) := by
                    intro  H locs ls   hP hD hS hl
                    refine (hK0 _ _ _).mpr ?_
                    refine lv_iconst (v := 0) hx hb dX8_drawWhy_148 zk_iconst_0 ?_
                    exact (hK0 _ _ _).mp (J149 0 _ _ _  zq5 (Int.le_trans zq6 zq4) hP hD hS (lv_sub hl [0, 1, 2, 3, 4] rfl))
                  refine lv_if_ne (tgt := 148) hx hb dX8_drawWhy_131 (by decide) (fun c131 => ?_) (fun c131 => ?_)
                  · have gc131 := ai_ne c131
                    have l131t_j104s0 : (1 : Int) ≤ j104s0.toInt := (by first | exact zg_l bj104s0_l gc131 (by decide) (by decide) | (have h1 := bj104s0_l; have h2 : (0 : Int32).toInt = 0 := (by decide); rw [h2] at gc131; omega))
                    exact (hK0 _ _ _).mp (J148  _ _ _   hP hD hS (lv_sub hl [0, 1, 2, 3, 4] rfl))
                  · have gc131 := ai_eq c131
                    have u131f_j104s0 : j104s0.toInt ≤ (0 : Int) := Int.le_trans (Int.le_of_eq gc131) zq6
                    have l131f_j104s0 : (0 : Int) ≤ j104s0.toInt := bj104s0_l
                    refine lv_aload_n hx hb dX8_drawWhy_134 rfl (lv_at hl 0 rfl) ?_
                    refine lv_iload hx hb dX8_drawWhy_135 (lv_at hl 4 rfl) ?_
                    refine zc_cutc (wc := [(a0, .inr (8, [a0g_0, a0g_1, a0g_2, a0g_3, a0g_4, a0g_5, a0g_6, a0g_7, a0g_8, a0g_9, a0g_10, a0g_11, a0g_12, a0g_13, a0g_14, Value.ref a0_15, a0g_16, Value.ref a0_17, a0g_18, a0g_19, a0g_20, a0g_21, a0g_22, a0g_23, a0g_24, a0g_25, a0g_26, a0g_27, a0g_28, Value.ref a0_29, Value.int v58na0_30, Value.int v58na0_31, a0g_32, a0g_33, a0g_34, a0g_35, a0g_36, a0g_37, Value.int j124a0_38, Value.int j64a0_39])), (a0_29, .inl (ka0_29, 10, .inl (v58nfa0_29)))]) hP hD hS hA [0, 2] (by decide +kernel) rfl (fun hPc hDc hFc hCc => ?_)
                    have hKc := hK.sub (tys' := [(ka0_29, .int)]) [1] rfl
                    refine va_calli (va_runV (As := [.int j64l7]) (rest := [.int j64a0_39, .ref a0]) ⟨hx, hb, hml, hown, hts⟩ (c_X8_turnAt l dC dI H.size a0 j64l7 a0g_0 a0g_1 a0g_2 a0g_3 a0g_4 a0g_5 a0g_6 a0g_7 a0g_8 a0g_9 a0g_10 a0g_11 a0g_12 a0g_13 a0g_14 (Value.ref a0_15) a0g_16 (Value.ref a0_17) a0g_18 a0g_19 a0g_20 a0g_21 a0g_22 a0g_23 a0g_24 a0g_25 a0g_26 a0g_27 a0g_28 a0g_32 a0g_33 a0g_34 a0g_35 a0g_36 a0g_37 (Value.int j124a0_38) (Value.int j64a0_39) a0_29 v58na0_30 v58na0_31 ka0_29 v58nfa0_29 (Int.le_trans zq4 bj64l7_l) (by omega : (0 : Int) ≤ v58na0_30.toInt) (by omega : v58na0_30.toInt ≤ (8 : Int)) (by omega : (1 : Int) ≤ v58na0_31.toInt) (by omega : v58na0_31.toInt ≤ (9 : Int)) bv58nfa0_29 (by omega)) (cwV 1 hts gX8_drawWhy_X8_turnAt rfl rfl rfl zd_X8_turnAt ⟨Nat.le_of_ble_eq_true rfl, Nat.le_of_ble_eq_true rfl⟩) ⟨ax_blind (fun _ _ _ _ _ => trivial), zr_8 hKc hPc (q0 := 0) rfl, ax_pre hPc hKc hDc (fun _ _ => trivial)⟩ rfl rfl hl.1 rfl (lv_room (Nat.le_of_ble_eq_true rfl)) dX8_drawWhy_137 ⟨Nat.le_of_ble_eq_true rfl, Nat.le_of_ble_eq_true rfl⟩) hS (fun q _ h => hFc q h) hFc (fun r137 u t H locs ht hvm hw hB hz1 hk1 hS1 => zo hB ht hS1 (fun hP1 hK1 hD1 hS => ?_))
                    refine zc_backc (w := [(a0, .inr (8, [a0g_0, a0g_1, a0g_2, a0g_3, a0g_4, a0g_5, a0g_6, a0g_7, a0g_8, a0g_9, a0g_10, a0g_11, a0g_12, a0g_13, a0g_14, Value.ref a0_15, a0g_16, Value.ref a0_17, a0g_18, a0g_19, a0g_20, a0g_21, a0g_22, a0g_23, a0g_24, a0g_25, a0g_26, a0g_27, a0g_28, Value.ref a0_29, Value.int v58na0_30, Value.int v58na0_31, a0g_32, a0g_33, a0g_34, a0g_35, a0g_36, a0g_37, Value.int j124a0_38, Value.int j64a0_39])), (a0_17, .inl (ka0_17, 23, .inl (fa0_17))), (a0_29, .inl (ka0_29, 10, .inl (v58nfa0_29))), (a0_15, .inl (ka0_15, 156, .inl (fa0_15)))]) hP hD hCc hk1 hFc hP1 hD1 [.inr 0, .inl 1, .inr 1, .inl 3] (by decide +kernel) rfl (fun hP hD => ?_)
                    have hw : (0 : Int) ≤ r137.toInt ∧ r137.toInt ≤ (8 : Int) := hw
                    obtain ⟨h137_0, h137_1⟩ := hw
                    refine lv_iload_n hx hb dX8_drawWhy_140 rfl (lv_at hl 1 rfl) ?_
                    refine lv_icmp_ne (tgt := 148) hx hb dX8_drawWhy_141 (by decide) (fun c141 => ?_) (fun c141 => ?_)
                    · have gc141 := ai_ne c141
                      exact (hK0 _ _ _).mp (J148  _ _ _   hP hD hS (lv_sub hl [0, 1, 2, 3, 4] rfl))
                    · have gc141 := ai_eq c141
                      have u141f_a2 : a2.toInt ≤ (8 : Int) := Int.le_trans (Int.le_of_eq gc141.symm) h137_1
                      have l141f_a2 : (0 : Int) ≤ a2.toInt := Int.le_trans h137_0 (Int.le_of_eq gc141)
                      refine lv_iconst (v := 1) hx hb dX8_drawWhy_144 zk_iconst_1 ?_
                      refine lv_goto (tgt := 149) hx hb dX8_drawWhy_145 (by decide) ?_
                      exact (hK0 _ _ _).mp (J149 1 _ _ _  (Int.le_trans zq4 zq1) zq0 hP hD hS (lv_sub hl [0, 1, 2, 3, 4] rfl))
                refine lv_if_eq (tgt := 124) hx hb dX8_drawWhy_108 (by decide) (fun c108 => ?_) (fun c108 => ?_)
                · have gc108 := ai_eq c108
                  have u108t_j104s0 : j104s0.toInt ≤ (0 : Int) := Int.le_trans (Int.le_of_eq gc108) zq6
                  have l108t_j104s0 : (0 : Int) ≤ j104s0.toInt := bj104s0_l
                  exact (hK0 _ _ _).mp (J124 j64a0_38 _ _ _   hP hD hS (lv_sub hl [1, 2, 3, 4, 5, 0] rfl))
                · have gc108 := ai_ne c108
                  have l108f_j104s0 : (1 : Int) ≤ j104s0.toInt := (by first | exact zg_l bj104s0_l gc108 (by decide) (by decide) | (have h1 := bj104s0_l; have h2 : (0 : Int32).toInt = 0 := (by decide); rw [h2] at gc108; omega))
                  refine lv_aload_n hx hb dX8_drawWhy_111 rfl (lv_at hl 1 rfl) ?_
                  refine va_get (D := (dC, dI)) (ci := 8) (v := .int j64a0_38) (C := RX8) (T := TX8) (N := 40) hx hb hts zi_X8_drawWhy_8 hown hK hP 0 rfl rfl 38 (by decide) (hts (.fieldLink RX8 375 "WaxTurnsModel" "shutFirst" "I") (zm_X8_drawWhy_r1 (List.mem_of_getElem? (i := 1) rfl))) (fun _ h9 => h9) rfl dX8_drawWhy_112 ?_
                  refine lv_if_ge (tgt := 124) hx hb dX8_drawWhy_115 (by decide) (fun c115 => ?_) (fun c115 => ?_)
                  · have gc115 := ai_le c115
                    have l115t_j64a0_38 : (0 : Int) ≤ j64a0_38.toInt := Int.le_trans zq5 gc115
                    exact (hK0 _ _ _).mp (J124 j64a0_38 _ _ _   hP hD hS (lv_sub hl [1, 2, 3, 4, 5, 0] rfl))
                  · have gc115 := ai_nle c115
                    have u115f_j64a0_38 : j64a0_38.toInt ≤ (-1 : Int) := ai_lthi gc115 zq6
                    refine lv_aload_n hx hb dX8_drawWhy_118 rfl (lv_at hl 1 rfl) ?_
                    refine lv_iload hx hb dX8_drawWhy_119 (lv_at hl 5 rfl) ?_
                    refine va_put (D := (dC, dI)) (ci := 8) (v := .int j64l7) (ty := .int) (C := RX8) (T := TX8) (N := 40) hx hb hts zi_X8_drawWhy_8 tyX8 tyX8_ok nmX8 hown hK hP hD hS 0 rfl rfl 38 (by decide) (hts (.fieldLink RX8 375 "WaxTurnsModel" "shutFirst" "I") (zm_X8_drawWhy_r1 (List.mem_of_getElem? (i := 1) rfl))) (fun _ h9 => h9) rfl (tyX8_ok 38 (by decide)) rfl rfl (Nat.le_of_ble_eq_true rfl) dX8_drawWhy_121 (fun H locs hP hD hS => ?_)
                    refine zs_0 (y := (a0, .inr (8, [a0g_0, a0g_1, a0g_2, a0g_3, a0g_4, a0g_5, a0g_6, a0g_7, a0g_8, a0g_9, a0g_10, a0g_11, a0g_12, a0g_13, a0g_14, Value.ref a0_15, a0g_16, Value.ref a0_17, a0g_18, a0g_19, a0g_20, a0g_21, a0g_22, a0g_23, a0g_24, a0g_25, a0g_26, a0g_27, a0g_28, Value.ref a0_29, Value.int v58na0_30, Value.int v58na0_31, a0g_32, a0g_33, a0g_34, a0g_35, a0g_36, a0g_37, Value.int j64l7, Value.int j64a0_39]))) hP hD rfl (fun hP hD => ?_)
                    exact (hK0 _ _ _).mp (J124 j64l7 _ _ _   hP hD hS (lv_sub hl [1, 2, 3, 4, 5, 0] rfl))
              refine lv_icmp_ge (tgt := 103) hx hb dX8_drawWhy_96 (by decide) (fun c96 => ?_) (fun c96 => ?_)
              · have gc96 := ai_le c96
                have u96t_x95 : x95.toInt ≤ (99 : Int) := Int.le_trans gc96 qx89.2.2
                have l96t_x89 : (0 : Int) ≤ x89.toInt := qx89.2.1
                refine lv_iconst (v := 0) hx hb dX8_drawWhy_103 zk_iconst_0 ?_
                exact (hK0 _ _ _).mp (J104 0 _ _ _  zq5 (Int.le_trans zq6 zq4) hP hD hS (lv_sub hl [1, 2, 3, 0, 4] rfl))
              · have gc96 := ai_nle c96
                have u96f_x89 : x89.toInt ≤ (99 : Int) := qx89.2.2
                have l96f_x95 : (1 : Int) ≤ x95.toInt := ai_ltlo gc96 qx89.2.1
                refine lv_iconst (v := 1) hx hb dX8_drawWhy_99 zk_iconst_1 ?_
                refine lv_goto (tgt := 104) hx hb dX8_drawWhy_100 (by decide) ?_
                exact (hK0 _ _ _).mp (J104 1 _ _ _  (Int.le_trans zq4 zq1) zq0 hP hD hS (lv_sub hl [1, 2, 3, 0, 4] rfl))
        exact (hK0 _ _ _).mp (J64 201 1 a3 (-2) 0 _ _ _ (by first | decide +kernel | (have h1 : (1 : Int) ≤ (1 : Int32).toInt := zq1; have h2 : (1 : Int32).toInt ≤ (1 : Int) := zq0; omega)) zq1 (Int.le_trans zq0 zq106) l7k0_a3 u7k0_a3 hP hD hS (lv_sub hl [3, 5, 7, 1, 0] rfl))
    · obtain ⟨hw, h19⟩ := hw
      subst hw
      refine lv_if_eq (tgt := 29) hx hb dX8_drawWhy_22 (by decide) (fun _ => ?_) (fun c22 => absurd (by decide +kernel) c22)
      refine lv_iconst (v := 0) hx hb dX8_drawWhy_29 zk_iconst_0 ?_
      refine va_calli (va_runV (As := [.int a1, .int 0]) (rest := []) ⟨hx, hb, hml, hown, hts⟩ (c_X8_whyB l dC dI H.size a0 a1 0 a0g_0 a0g_1 a0g_2 a0g_3 a0g_4 a0g_5 a0g_6 a0g_7 a0g_8 a0g_9 a0g_10 a0g_11 a0g_12 a0g_13 a0g_14 (Value.ref a0_15) a0g_16 (Value.ref a0_17) a0g_18 a0g_19 a0g_20 a0g_21 a0g_22 a0g_23 a0g_24 a0g_25 a0g_26 a0g_27 a0g_28 (Value.ref a0_29) (Value.int a0_30) (Value.int a0_31) a0g_32 a0g_33 a0g_34 a0g_35 a0g_36 a0g_37 (Value.int a0_38) (Value.int a0_39) ba1_l ba1_u zq5 (Int.le_trans zq6 zq4)) (cwV 2 hts gX8_drawWhy_X8_why rfl rfl rfl zd_X8_why ⟨Nat.le_of_ble_eq_true rfl, Nat.le_of_ble_eq_true rfl⟩) ⟨ax_blind (fun _ _ _ _ _ => trivial), zr_8 (zp_K hK) (zp_P1 hP) (q0 := 0) rfl, ax_pre (zp_P1 hP) (zp_K hK) (zp_D1 hD) (fun _ _ => trivial)⟩ rfl rfl hl.1 rfl (lv_room (Nat.le_of_ble_eq_true rfl)) dX8_drawWhy_30 ⟨Nat.le_of_ble_eq_true rfl, Nat.le_of_ble_eq_true rfl⟩) hS (fun q _ h => zp_F1 hD hS hA q h) (zp_F1 hD hS hA) (fun r30 u t H locs ht hvm hw hB hz1 hk1 hS1 => zo1 hB ht hP hD hk1 (zp_F1 hD hS hA) hS1 (fun hP hK1 hD hS => ?_))
      rcases hw with hw | hw | hw
      · obtain ⟨hw, h30_0, h30_1, h30_2, h30_3⟩ := hw
        subst hw
        have l30k0_a1 : (1 : Int) ≤ a1.toInt := h30_0
        have u30k0_a1 : a1.toInt ≤ (1 : Int) := ba1_u
        refine lv_istore (lv' := [(5, .int 2), (0, .ref a0), (1, .int a1), (2, .int a2), (3, .int a3), (4, .int a4)]) hx hb dX8_drawWhy_33 hl (by decide) rfl (fun ls hl => ?_)
        refine lv_iload hx hb dX8_drawWhy_35 (lv_at hl 0 rfl) ?_
        refine lv_if_eq (tgt := 43) hx hb dX8_drawWhy_37 (by decide) (fun c37 => absurd c37 (by decide +kernel)) (fun _ => ?_)
        refine lv_iload hx hb dX8_drawWhy_40 (lv_at hl 0 rfl) ?_
        exact W.iret (v := 2) hx hb hr (fun t ht hW => ⟨⟨2, (), rfl, (Or.inl ⟨rfl, l30k0_a1, u30k0_a1⟩), a0_30, a0_31, a0_38, a0_39, fa0_29, bfa0_29, by rw [ht]; exact hP, va_K.moved hW.alike hK, hD⟩, hS.F ht⟩) hS.2.2 dX8_drawWhy_42
      · obtain ⟨hw, h30_0, h30_1⟩ := hw
        subst hw
        have l30k1_a1 : (0 : Int) ≤ a1.toInt := ba1_l
        have u30k1_a1 : a1.toInt ≤ (0 : Int) := h30_1
        refine lv_istore (lv' := [(5, .int 1), (0, .ref a0), (1, .int a1), (2, .int a2), (3, .int a3), (4, .int a4)]) hx hb dX8_drawWhy_33 hl (by decide) rfl (fun ls hl => ?_)
        refine lv_iload hx hb dX8_drawWhy_35 (lv_at hl 0 rfl) ?_
        refine lv_if_eq (tgt := 43) hx hb dX8_drawWhy_37 (by decide) (fun c37 => absurd c37 (by decide +kernel)) (fun _ => ?_)
        refine lv_iload hx hb dX8_drawWhy_40 (lv_at hl 0 rfl) ?_
        exact W.iret (v := 1) hx hb hr (fun t ht hW => ⟨⟨1, (), rfl, (Or.inr (Or.inl ⟨rfl, l30k1_a1, u30k1_a1⟩)), a0_30, a0_31, a0_38, a0_39, fa0_29, bfa0_29, by rw [ht]; exact hP, va_K.moved hW.alike hK, hD⟩, hS.F ht⟩) hS.2.2 dX8_drawWhy_42
      · obtain ⟨hw, h30_0, h30_1, h30_2, h30_3⟩ := hw
        subst hw
        have l30k2_a1 : (1 : Int) ≤ a1.toInt := h30_0
        have u30k2_a1 : a1.toInt ≤ (1 : Int) := ba1_u
        exact absurd h30_2 (by decide)
  · obtain ⟨hw, h7⟩ := hw
    subst hw
    refine lv_if_eq (tgt := 29) hx hb dX8_drawWhy_10 (by decide) (fun _ => ?_) (fun c10 => absurd (by decide +kernel) c10)
    refine lv_iconst (v := 0) hx hb dX8_drawWhy_29 zk_iconst_0 ?_
    refine va_calli (va_runV (As := [.int a1, .int 0]) (rest := []) ⟨hx, hb, hml, hown, hts⟩ (c_X8_whyB l dC dI H.size a0 a1 0 a0g_0 a0g_1 a0g_2 a0g_3 a0g_4 a0g_5 a0g_6 a0g_7 a0g_8 a0g_9 a0g_10 a0g_11 a0g_12 a0g_13 a0g_14 (Value.ref a0_15) a0g_16 (Value.ref a0_17) a0g_18 a0g_19 a0g_20 a0g_21 a0g_22 a0g_23 a0g_24 a0g_25 a0g_26 a0g_27 a0g_28 (Value.ref a0_29) (Value.int a0_30) (Value.int a0_31) a0g_32 a0g_33 a0g_34 a0g_35 a0g_36 a0g_37 (Value.int a0_38) (Value.int a0_39) ba1_l ba1_u zq5 (Int.le_trans zq6 zq4)) (cwV 2 hts gX8_drawWhy_X8_why rfl rfl rfl zd_X8_why ⟨Nat.le_of_ble_eq_true rfl, Nat.le_of_ble_eq_true rfl⟩) ⟨ax_blind (fun _ _ _ _ _ => trivial), zr_8 (zp_K hK) (zp_P1 hP) (q0 := 0) rfl, ax_pre (zp_P1 hP) (zp_K hK) (zp_D1 hD) (fun _ _ => trivial)⟩ rfl rfl hl.1 rfl (lv_room (Nat.le_of_ble_eq_true rfl)) dX8_drawWhy_30 ⟨Nat.le_of_ble_eq_true rfl, Nat.le_of_ble_eq_true rfl⟩) hS (fun q _ h => zp_F1 hD hS hA q h) (zp_F1 hD hS hA) (fun r30 u t H locs ht hvm hw hB hz1 hk1 hS1 => zo1 hB ht hP hD hk1 (zp_F1 hD hS hA) hS1 (fun hP hK1 hD hS => ?_))
    rcases hw with hw | hw | hw
    · obtain ⟨hw, h30_0, h30_1, h30_2, h30_3⟩ := hw
      subst hw
      have l30k0_a1 : (1 : Int) ≤ a1.toInt := h30_0
      have u30k0_a1 : a1.toInt ≤ (1 : Int) := ba1_u
      refine lv_istore (lv' := [(5, .int 2), (0, .ref a0), (1, .int a1), (2, .int a2), (3, .int a3), (4, .int a4)]) hx hb dX8_drawWhy_33 hl (by decide) rfl (fun ls hl => ?_)
      refine lv_iload hx hb dX8_drawWhy_35 (lv_at hl 0 rfl) ?_
      refine lv_if_eq (tgt := 43) hx hb dX8_drawWhy_37 (by decide) (fun c37 => absurd c37 (by decide +kernel)) (fun _ => ?_)
      refine lv_iload hx hb dX8_drawWhy_40 (lv_at hl 0 rfl) ?_
      exact W.iret (v := 2) hx hb hr (fun t ht hW => ⟨⟨2, (), rfl, (Or.inl ⟨rfl, l30k0_a1, u30k0_a1⟩), a0_30, a0_31, a0_38, a0_39, fa0_29, bfa0_29, by rw [ht]; exact hP, va_K.moved hW.alike hK, hD⟩, hS.F ht⟩) hS.2.2 dX8_drawWhy_42
    · obtain ⟨hw, h30_0, h30_1⟩ := hw
      subst hw
      have l30k1_a1 : (0 : Int) ≤ a1.toInt := ba1_l
      have u30k1_a1 : a1.toInt ≤ (0 : Int) := h30_1
      refine lv_istore (lv' := [(5, .int 1), (0, .ref a0), (1, .int a1), (2, .int a2), (3, .int a3), (4, .int a4)]) hx hb dX8_drawWhy_33 hl (by decide) rfl (fun ls hl => ?_)
      refine lv_iload hx hb dX8_drawWhy_35 (lv_at hl 0 rfl) ?_
      refine lv_if_eq (tgt := 43) hx hb dX8_drawWhy_37 (by decide) (fun c37 => absurd c37 (by decide +kernel)) (fun _ => ?_)
      refine lv_iload hx hb dX8_drawWhy_40 (lv_at hl 0 rfl) ?_
      exact W.iret (v := 1) hx hb hr (fun t ht hW => ⟨⟨1, (), rfl, (Or.inr (Or.inl ⟨rfl, l30k1_a1, u30k1_a1⟩)), a0_30, a0_31, a0_38, a0_39, fa0_29, bfa0_29, by rw [ht]; exact hP, va_K.moved hW.alike hK, hD⟩, hS.F ht⟩) hS.2.2 dX8_drawWhy_42
    · obtain ⟨hw, h30_0, h30_1, h30_2, h30_3⟩ := hw
      subst hw
      have l30k2_a1 : (1 : Int) ≤ a1.toInt := h30_0
      have u30k2_a1 : a1.toInt ≤ (1 : Int) := ba1_u
      exact absurd h30_2 (by decide)
end P260_04_safe
section P260_05_safe
set_option maxHeartbeats 4000000 in
set_option maxRecDepth 100000 in
theorem c_X8_drawn (l : Launch) (dC : Nat → ClassId) (dI : Nat → Nat → Nat) (sz : Nat) (a0 : Nat) (a1 : Int32) (a2 : Int32) (a3 : Int32) (a0_0 : Int32) (a0g_1 a0g_2 a0g_3 a0g_4 a0g_5 a0g_6 a0g_7 a0g_8 a0g_9 a0g_10 a0g_12 a0g_13 a0g_16 a0g_18 a0g_19 a0g_20 a0g_21 a0g_22 a0g_23 a0g_24 a0g_25 a0g_26 a0g_27 a0g_28 a0g_32 a0g_33 a0g_34 a0g_35 a0g_36 a0g_37 : Value) (a0_11 : Int32) (a0_14 : Int32) (a0_15 : Nat) (a0_17 : Nat) (a0_29 : Nat) (a0_30 : Int32) (a0_31 : Int32) (a0_38 : Int32) (a0_39 : Int32) (ka0_15 : ClassId) (fa0_15 : Nat → Int32) (ka0_17 : ClassId) (fa0_17 : Nat → Int32) (ka0_29 : ClassId) (fa0_29 : Nat → Int32) (ba0_14_l : (1 : Int) ≤ a0_14.toInt) (ba0_14_u : a0_14.toInt ≤ (1 : Int)) (bfa0_15 : ((∀ k : Nat, 0 ≤ k → k ≤ 0 → (2 : Int) ≤ (fa0_15 k).toInt ∧ (fa0_15 k).toInt ≤ 9) ∧ (∀ k : Nat, 1 ≤ k → k ≤ 1 → (1 : Int) ≤ (fa0_15 k).toInt ∧ (fa0_15 k).toInt ≤ 20) ∧ (∀ k : Nat, 2 ≤ k → k ≤ 2 → (0 : Int) ≤ (fa0_15 k).toInt ∧ (fa0_15 k).toInt ≤ 8) ∧ (∀ k : Nat, 3 ≤ k → k ≤ 3 → (0 : Int) ≤ (fa0_15 k).toInt ∧ (fa0_15 k).toInt ≤ 100) ∧ (∀ k : Nat, 4 ≤ k → k ≤ 4 → (0 : Int) ≤ (fa0_15 k).toInt ∧ (fa0_15 k).toInt ≤ 9) ∧ (∀ k : Nat, 5 ≤ k → k ≤ 5 → (0 : Int) ≤ (fa0_15 k).toInt ∧ (fa0_15 k).toInt ≤ 3) ∧ (∀ k : Nat, 6 ≤ k → k ≤ 6 → (0 : Int) ≤ (fa0_15 k).toInt ∧ (fa0_15 k).toInt ≤ 6) ∧ (∀ k : Nat, 7 ≤ k → k ≤ 9 → (0 : Int) ≤ (fa0_15 k).toInt ∧ (fa0_15 k).toInt ≤ 8) ∧ (∀ k : Nat, 12 ≤ k → k ≤ 29 → (0 : Int) ≤ (fa0_15 k).toInt ∧ (fa0_15 k).toInt ≤ 20) ∧ (∀ k : Nat, 30 ≤ k → k ≤ 35 → (0 : Int) ≤ (fa0_15 k).toInt ∧ (fa0_15 k).toInt ≤ 8) ∧ (∀ k : Nat, 36 ≤ k → k ≤ 47 → (0 : Int) ≤ (fa0_15 k).toInt ∧ (fa0_15 k).toInt ≤ 999))) (bfa0_17 : ((∀ k : Nat, 0 ≤ k → k ≤ 8 → (0 : Int) ≤ (fa0_17 k).toInt ∧ (fa0_17 k).toInt ≤ 8) ∧ (∀ k : Nat, 19 ≤ k → k ≤ 19 → (0 : Int) ≤ (fa0_17 k).toInt ∧ (fa0_17 k).toInt ≤ 8) ∧ (∀ k : Nat, 20 ≤ k → k ≤ 20 → (0 : Int) ≤ (fa0_17 k).toInt ∧ (fa0_17 k).toInt ≤ 19))) (bfa0_29 : (∀ k, (0 : Int) ≤ (fa0_29 k).toInt ∧ (fa0_29 k).toInt ≤ 8)) : zm l yX8_drawn wsX8_drawn ({ frames := 3, cells := 0, slots := 0, locals := 72 }) [.ref a0, .int a1, .int a2, .int a3] dC dI sz [(a0, .inr (8, [Value.int a0_0, a0g_1, a0g_2, a0g_3, a0g_4, a0g_5, a0g_6, a0g_7, a0g_8, a0g_9, a0g_10, Value.int a0_11, a0g_12, a0g_13, Value.int a0_14, Value.ref a0_15, a0g_16, Value.ref a0_17, a0g_18, a0g_19, a0g_20, a0g_21, a0g_22, a0g_23, a0g_24, a0g_25, a0g_26, a0g_27, a0g_28, Value.ref a0_29, Value.int a0_30, Value.int a0_31, a0g_32, a0g_33, a0g_34, a0g_35, a0g_36, a0g_37, Value.int a0_38, Value.int a0_39])), (a0_15, .inl (ka0_15, 156, .inl (fa0_15))), (a0_17, .inl (ka0_17, 23, .inl (fa0_17))), (a0_29, .inl (ka0_29, 10, .inl (fa0_29)))] [(ka0_15, .int), (ka0_17, .int), (ka0_29, .int)] (fun A _ => True) (fun A => va_Qi (fun (r : Int32) (_ : Unit) => True) (fun (_ : Unit) (t : State) => ∃ na0_0 : Int32, ∃ na0_11 : Int32, ∃ na0_30 : Int32, ∃ na0_31 : Int32, ∃ na0_38 : Int32, ∃ na0_39 : Int32, ∃ nfa0_29 : Nat → Int32, (∀ k, (0 : Int) ≤ (nfa0_29 k).toInt ∧ (nfa0_29 k).toInt ≤ 8) ∧ ax_B dC dI A [(a0, .inr (8, [Value.int na0_0, a0g_1, a0g_2, a0g_3, a0g_4, a0g_5, a0g_6, a0g_7, a0g_8, a0g_9, a0g_10, Value.int na0_11, a0g_12, a0g_13, Value.int a0_14, Value.ref a0_15, a0g_16, Value.ref a0_17, a0g_18, a0g_19, a0g_20, a0g_21, a0g_22, a0g_23, a0g_24, a0g_25, a0g_26, a0g_27, a0g_28, Value.ref a0_29, Value.int na0_30, Value.int na0_31, a0g_32, a0g_33, a0g_34, a0g_35, a0g_36, a0g_37, Value.int na0_38, Value.int na0_39])), (a0_15, .inl (ka0_15, 156, .inl (fa0_15))), (a0_17, .inl (ka0_17, 23, .inl (fa0_17))), (a0_29, .inl (ka0_29, 10, .inl (nfa0_29)))] [(ka0_15, .int), (ka0_17, .int), (ka0_29, .int)] t) A) := by
  refine zh (cc := cX8_drawn) (maxL := 5) (ret := (some .int)) zn_RX8 rfl (Nat.le_of_ble_eq_true rfl) (fun p e s m below meth c A ls hx hb hml hr hts (hown : s.vm.findClass RX8 = some m.cls) hlocks hA hS hP hK hD hE (hl : lv_has ls 5 [(0, .ref a0), (1, .int a1), (2, .int a2), (3, .int a3)]) => ?_)
  refine lv_aload_n hx hb dX8_drawn_0 rfl (lv_at hl 0 rfl) ?_
  refine va_callv (va_runV (As := []) (rest := []) ⟨hx, hb, hml, hown, hts⟩ (c_X8_good l dC dI s.heap.size a0 a0_0 a0g_1 a0g_2 a0g_3 a0g_4 a0g_5 a0g_6 a0g_7 a0g_8 a0g_9 a0g_10 a0g_12 a0g_13 (Value.int a0_14) (Value.ref a0_15) a0g_16 (Value.ref a0_17) a0g_18 a0g_19 a0g_20 a0g_21 a0g_22 a0g_23 a0g_24 a0g_25 a0g_26 a0g_27 a0g_28 (Value.ref a0_29) (Value.int a0_30) (Value.int a0_31) a0g_32 a0g_33 a0g_34 a0g_35 a0g_36 a0g_37 (Value.int a0_38) (Value.int a0_39) a0_11 ) (cwV 0 hts gX8_drawn_X8_good rfl rfl rfl zd_X8_good ⟨Nat.le_of_ble_eq_true rfl, Nat.le_of_ble_eq_true rfl⟩) ⟨ax_blind (fun _ _ _ _ _ => trivial), zr_8 (zp_K hK) (zp_P1 hP) (q0 := 0) rfl, ax_pre (zp_P1 hP) (zp_K hK) (zp_D1 hD) (fun _ _ => trivial)⟩ rfl rfl hl.1 rfl (lv_room (Nat.le_of_ble_eq_true rfl)) dX8_drawn_1 ⟨Nat.le_of_ble_eq_true rfl, Nat.le_of_ble_eq_true rfl⟩) hS (fun q _ h => zp_F1 hD hS hA q h) (zp_F1 hD hS hA) (fun u t H locs ht hvm hw => zx_2 (fun v1na0_0 v1na0_11 hB hz1 hk1 hS1 => zo1 hB ht hP hD hk1 (zp_F1 hD hS hA) hS1 (fun hP hK1 hD hS => ?_)))
  refine lv_aload_n hx hb dX8_drawn_4 rfl (lv_at hl 0 rfl) ?_
  refine lv_aload_n hx hb dX8_drawn_5 rfl (lv_at hl 0 rfl) ?_
  refine lv_iload_n hx hb dX8_drawn_6 rfl (lv_at hl 1 rfl) ?_
  have hKc := hK.sub (tys' := [(ka0_15, .int)]) [0] rfl
  refine va_calli (va_runV (As := [.int a1]) (rest := [.ref a0]) ⟨hx, hb, hml, hown, hts⟩ (c_X8_isFigure l dC dI H.size a0 a1 (Value.int v1na0_0) a0g_1 a0g_2 a0g_3 a0g_4 a0g_5 a0g_6 a0g_7 a0g_8 a0g_9 a0g_10 (Value.int v1na0_11) a0g_12 a0g_13 a0g_16 (Value.ref a0_17) a0g_18 a0g_19 a0g_20 a0g_21 a0g_22 a0g_23 a0g_24 a0g_25 a0g_26 a0g_27 a0g_28 (Value.ref a0_29) (Value.int a0_30) (Value.int a0_31) a0g_32 a0g_33 a0g_34 a0g_35 a0g_36 a0g_37 (Value.int a0_38) (Value.int a0_39) a0_14 a0_15 ka0_15 fa0_15 ba0_14_l ba0_14_u bfa0_15) (cwV 1 hts gX8_drawn_X8_isFigure rfl rfl rfl zd_X8_isFigure ⟨Nat.le_of_ble_eq_true rfl, Nat.le_of_ble_eq_true rfl⟩) ⟨ax_blind (fun _ _ _ _ _ => trivial), zr_8 hKc (zp_P2 hP) (q0 := 0) rfl, ax_pre (zp_P2 hP) hKc (zp_D2 hD) (fun _ _ => trivial)⟩ rfl rfl hl.1 rfl (lv_room (Nat.le_of_ble_eq_true rfl)) dX8_drawn_7 ⟨Nat.le_of_ble_eq_true rfl, Nat.le_of_ble_eq_true rfl⟩) hS (fun q _ h => zp_F2 hD hS hA q h) (zp_F2 hD hS hA) (fun r7 u t H locs ht hvm hw hB hz1 hk1 hS1 => zo2 hB ht hP hD hk1 (zp_F2 hD hS hA) hS1 (fun hP hK1 hD hS => ?_))
  rcases hw with hw | hw
  · obtain ⟨hw, h7_0, h7_1⟩ := hw
    subst hw
    have l7k0_a1 : (0 : Int) ≤ a1.toInt := h7_0
    have u7k0_a1 : a1.toInt ≤ (8 : Int) := h7_1
    refine lv_iload_n hx hb dX8_drawn_10 rfl (lv_at hl 1 rfl) ?_
    refine lv_iload_n hx hb dX8_drawn_11 rfl (lv_at hl 2 rfl) ?_
    refine lv_iload_n hx hb dX8_drawn_12 rfl (lv_at hl 3 rfl) ?_
    refine zc_cutc (wc := [(a0, .inr (8, [Value.int v1na0_0, a0g_1, a0g_2, a0g_3, a0g_4, a0g_5, a0g_6, a0g_7, a0g_8, a0g_9, a0g_10, Value.int v1na0_11, a0g_12, a0g_13, Value.int a0_14, Value.ref a0_15, a0g_16, Value.ref a0_17, a0g_18, a0g_19, a0g_20, a0g_21, a0g_22, a0g_23, a0g_24, a0g_25, a0g_26, a0g_27, a0g_28, Value.ref a0_29, Value.int a0_30, Value.int a0_31, a0g_32, a0g_33, a0g_34, a0g_35, a0g_36, a0g_37, Value.int a0_38, Value.int a0_39])), (a0_17, .inl (ka0_17, 23, .inl (fa0_17))), (a0_29, .inl (ka0_29, 10, .inl (fa0_29))), (a0_15, .inl (ka0_15, 156, .inl (fa0_15)))]) hP hD hS hA [0, 2, 3, 1] (by decide +kernel) rfl (fun hPc hDc hFc hCc => ?_)
    have hKc := hK.sub (tys' := [(ka0_17, .int), (ka0_29, .int), (ka0_15, .int)]) [1, 2, 0] rfl
    refine va_calli (va_runV (As := [.int 1, .int a1, .int a2, .int a3]) (rest := []) ⟨hx, hb, hml, hown, hts⟩ (c_X8_drawWhy l dC dI H.size a0 1 a1 a2 a3 (Value.int v1na0_0) a0g_1 a0g_2 a0g_3 a0g_4 a0g_5 a0g_6 a0g_7 a0g_8 a0g_9 a0g_10 (Value.int v1na0_11) a0g_12 a0g_13 (Value.int a0_14) a0g_16 a0g_18 a0g_19 a0g_20 a0g_21 a0g_22 a0g_23 a0g_24 a0g_25 a0g_26 a0g_27 a0g_28 a0g_32 a0g_33 a0g_34 a0g_35 a0g_36 a0g_37 a0_15 a0_17 a0_29 a0_30 a0_31 a0_38 a0_39 ka0_17 fa0_17 ka0_29 fa0_29 ka0_15 fa0_15 (Int.le_trans zq4 zq1) zq0 bfa0_17 bfa0_29 bfa0_15) (cwV 4 hts gX8_drawn_X8_drawWhy rfl rfl rfl zd_X8_drawWhy ⟨Nat.le_of_ble_eq_true rfl, Nat.le_of_ble_eq_true rfl⟩) ⟨ax_blind (fun _ _ _ _ _ => trivial), zr_8 hKc hPc (q0 := 0) rfl, ax_pre hPc hKc hDc (fun _ _ => trivial)⟩ rfl rfl hl.1 rfl (lv_room (Nat.le_of_ble_eq_true rfl)) dX8_drawn_13 ⟨Nat.le_of_ble_eq_true rfl, Nat.le_of_ble_eq_true rfl⟩) hS (fun q _ h => hFc q h) hFc (fun r13 u t H locs ht hvm hw => zx_5 (fun v13na0_30 v13na0_31 v13na0_38 v13na0_39 v13nfa0_29 => zy_1 (fun bv13nfa0_29 hB hz1 hk1 hS1 => zo hB ht hS1 (fun hP1 hK1 hD1 hS => ?_))))
    refine zc_backc (w := [(a0, .inr (8, [Value.int v1na0_0, a0g_1, a0g_2, a0g_3, a0g_4, a0g_5, a0g_6, a0g_7, a0g_8, a0g_9, a0g_10, Value.int v1na0_11, a0g_12, a0g_13, Value.int a0_14, Value.ref a0_15, a0g_16, Value.ref a0_17, a0g_18, a0g_19, a0g_20, a0g_21, a0g_22, a0g_23, a0g_24, a0g_25, a0g_26, a0g_27, a0g_28, Value.ref a0_29, Value.int v13na0_30, Value.int v13na0_31, a0g_32, a0g_33, a0g_34, a0g_35, a0g_36, a0g_37, Value.int v13na0_38, Value.int v13na0_39])), (a0_15, .inl (ka0_15, 156, .inl (fa0_15))), (a0_17, .inl (ka0_17, 23, .inl (fa0_17))), (a0_29, .inl (ka0_29, 10, .inl (v13nfa0_29)))]) hP hD hCc hk1 hFc hP1 hD1 [.inr 0, .inr 3, .inr 1, .inr 2] (by decide +kernel) rfl (fun hP hD => ?_)
    rcases hw with hw | hw | hw
    · obtain ⟨hw, h13_0, h13_1⟩ := hw
      subst hw
      refine lv_istore (lv' := [(4, .int 2), (0, .ref a0), (1, .int a1), (2, .int a2), (3, .int a3)]) hx hb dX8_drawn_16 hl (by decide) rfl (fun ls hl => ?_)
      refine lv_iload hx hb dX8_drawn_18 (lv_at hl 0 rfl) ?_
      refine lv_if_eq (tgt := 32) hx hb dX8_drawn_20 (by decide) (fun c20 => absurd c20 (by decide +kernel)) (fun _ => ?_)
      refine lv_aload_n hx hb dX8_drawn_23 rfl (lv_at hl 1 rfl) ?_
      refine lv_iload hx hb dX8_drawn_24 (lv_at hl 0 rfl) ?_
      refine va_calli (va_runV (As := [.int 2]) (rest := []) ⟨hx, hb, hml, hown, hts⟩ (c_X8_no l dC dI H.size a0 2 (Value.int v1na0_0) a0g_1 a0g_2 a0g_3 a0g_4 a0g_5 a0g_6 a0g_7 a0g_8 a0g_9 a0g_10 a0g_12 a0g_13 (Value.int a0_14) (Value.ref a0_15) a0g_16 (Value.ref a0_17) a0g_18 a0g_19 a0g_20 a0g_21 a0g_22 a0g_23 a0g_24 a0g_25 a0g_26 a0g_27 a0g_28 (Value.ref a0_29) (Value.int v13na0_30) (Value.int v13na0_31) a0g_32 a0g_33 a0g_34 a0g_35 a0g_36 a0g_37 (Value.int v13na0_38) (Value.int v13na0_39) v1na0_11 ) (cwV 1 hts gX8_drawn_X8_no rfl rfl rfl zd_X8_no ⟨Nat.le_of_ble_eq_true rfl, Nat.le_of_ble_eq_true rfl⟩) ⟨ax_blind (fun _ _ _ _ _ => trivial), zr_8 (zp_K hK) (zp_P1 hP) (q0 := 0) rfl, ax_pre (zp_P1 hP) (zp_K hK) (zp_D1 hD) (fun _ _ => trivial)⟩ rfl rfl hl.1 rfl (lv_room (Nat.le_of_ble_eq_true rfl)) dX8_drawn_26 ⟨Nat.le_of_ble_eq_true rfl, Nat.le_of_ble_eq_true rfl⟩) hS (fun q _ h => zp_F1 hD hS hA q h) (zp_F1 hD hS hA) (fun r26 u t H locs ht hvm hw => zx_1 (fun v26na0_11 hB hz1 hk1 hS1 => zo1 hB ht hP hD hk1 (zp_F1 hD hS hA) hS1 (fun hP hK1 hD hS => ?_)))
      have hw : r26 = (-1) := hw
      have hw := hw.symm
      subst hw
      refine lv_goto (tgt := 36) hx hb dX8_drawn_29 (by decide) ?_
      exact W.iret (v := (-1)) hx hb hr (fun t ht hW => ⟨⟨(-1), (), rfl, trivial, v1na0_0, v26na0_11, v13na0_30, v13na0_31, v13na0_38, v13na0_39, v13nfa0_29, bv13nfa0_29, by rw [ht]; exact hP, va_K.moved hW.alike hK, hD⟩, hS.F ht⟩) hS.2.2 dX8_drawn_36
    · obtain ⟨hw, h13_0, h13_1⟩ := hw
      subst hw
      exact absurd h13_1 (by decide)
    · obtain ⟨hw, h13_0, h13_1, h13_2, h13_3, h13_4, h13_5⟩ := hw
      subst hw
      have l13k2_a2 : (0 : Int) ≤ a2.toInt := h13_2
      have u13k2_a2 : a2.toInt ≤ (65536 : Int) := h13_3
      have l13k2_a3 : (0 : Int) ≤ a3.toInt := h13_4
      have u13k2_a3 : a3.toInt ≤ (200 : Int) := h13_5
      refine lv_istore (lv' := [(4, .int 0), (0, .ref a0), (1, .int a1), (2, .int a2), (3, .int a3)]) hx hb dX8_drawn_16 hl (by decide) rfl (fun ls hl => ?_)
      refine lv_iload hx hb dX8_drawn_18 (lv_at hl 0 rfl) ?_
      refine lv_if_eq (tgt := 32) hx hb dX8_drawn_20 (by decide) (fun _ => ?_) (fun c20 => absurd (by decide +kernel) c20)
      refine lv_aload_n hx hb dX8_drawn_32 rfl (lv_at hl 1 rfl) ?_
      refine va_get (D := (dC, dI)) (ci := 8) (v := .int v13na0_39) (C := RX8) (T := TX8) (N := 40) hx hb hts zi_X8_drawn_8 hown hK hP 0 rfl rfl 39 (by decide) (hts (.fieldLink RX8 378 "WaxTurnsModel" "aliveOften" "I") (zm_X8_drawn_r1 (List.mem_of_getElem? (i := 0) rfl))) (fun _ h9 => h9) rfl dX8_drawn_33 ?_
      exact W.iret (v := v13na0_39) hx hb hr (fun t ht hW => ⟨⟨v13na0_39, (), rfl, trivial, v1na0_0, v1na0_11, v13na0_30, v13na0_31, v13na0_38, v13na0_39, v13nfa0_29, bv13nfa0_29, by rw [ht]; exact hP, va_K.moved hW.alike hK, hD⟩, hS.F ht⟩) hS.2.2 dX8_drawn_36
  · subst hw
    refine lv_iload_n hx hb dX8_drawn_10 rfl (lv_at hl 1 rfl) ?_
    refine lv_iload_n hx hb dX8_drawn_11 rfl (lv_at hl 2 rfl) ?_
    refine lv_iload_n hx hb dX8_drawn_12 rfl (lv_at hl 3 rfl) ?_
    refine zc_cutc (wc := [(a0, .inr (8, [Value.int v1na0_0, a0g_1, a0g_2, a0g_3, a0g_4, a0g_5, a0g_6, a0g_7, a0g_8, a0g_9, a0g_10, Value.int v1na0_11, a0g_12, a0g_13, Value.int a0_14, Value.ref a0_15, a0g_16, Value.ref a0_17, a0g_18, a0g_19, a0g_20, a0g_21, a0g_22, a0g_23, a0g_24, a0g_25, a0g_26, a0g_27, a0g_28, Value.ref a0_29, Value.int a0_30, Value.int a0_31, a0g_32, a0g_33, a0g_34, a0g_35, a0g_36, a0g_37, Value.int a0_38, Value.int a0_39])), (a0_17, .inl (ka0_17, 23, .inl (fa0_17))), (a0_29, .inl (ka0_29, 10, .inl (fa0_29))), (a0_15, .inl (ka0_15, 156, .inl (fa0_15)))]) hP hD hS hA [0, 2, 3, 1] (by decide +kernel) rfl (fun hPc hDc hFc hCc => ?_)
    have hKc := hK.sub (tys' := [(ka0_17, .int), (ka0_29, .int), (ka0_15, .int)]) [1, 2, 0] rfl
    refine va_calli (va_runV (As := [.int 0, .int a1, .int a2, .int a3]) (rest := []) ⟨hx, hb, hml, hown, hts⟩ (c_X8_drawWhy l dC dI H.size a0 0 a1 a2 a3 (Value.int v1na0_0) a0g_1 a0g_2 a0g_3 a0g_4 a0g_5 a0g_6 a0g_7 a0g_8 a0g_9 a0g_10 (Value.int v1na0_11) a0g_12 a0g_13 (Value.int a0_14) a0g_16 a0g_18 a0g_19 a0g_20 a0g_21 a0g_22 a0g_23 a0g_24 a0g_25 a0g_26 a0g_27 a0g_28 a0g_32 a0g_33 a0g_34 a0g_35 a0g_36 a0g_37 a0_15 a0_17 a0_29 a0_30 a0_31 a0_38 a0_39 ka0_17 fa0_17 ka0_29 fa0_29 ka0_15 fa0_15 zq5 (Int.le_trans zq6 zq4) bfa0_17 bfa0_29 bfa0_15) (cwV 4 hts gX8_drawn_X8_drawWhy rfl rfl rfl zd_X8_drawWhy ⟨Nat.le_of_ble_eq_true rfl, Nat.le_of_ble_eq_true rfl⟩) ⟨ax_blind (fun _ _ _ _ _ => trivial), zr_8 hKc hPc (q0 := 0) rfl, ax_pre hPc hKc hDc (fun _ _ => trivial)⟩ rfl rfl hl.1 rfl (lv_room (Nat.le_of_ble_eq_true rfl)) dX8_drawn_13 ⟨Nat.le_of_ble_eq_true rfl, Nat.le_of_ble_eq_true rfl⟩) hS (fun q _ h => hFc q h) hFc (fun r13 u t H locs ht hvm hw => zx_5 (fun v13na0_30 v13na0_31 v13na0_38 v13na0_39 v13nfa0_29 => zy_1 (fun bv13nfa0_29 hB hz1 hk1 hS1 => zo hB ht hS1 (fun hP1 hK1 hD1 hS => ?_))))
    refine zc_backc (w := [(a0, .inr (8, [Value.int v1na0_0, a0g_1, a0g_2, a0g_3, a0g_4, a0g_5, a0g_6, a0g_7, a0g_8, a0g_9, a0g_10, Value.int v1na0_11, a0g_12, a0g_13, Value.int a0_14, Value.ref a0_15, a0g_16, Value.ref a0_17, a0g_18, a0g_19, a0g_20, a0g_21, a0g_22, a0g_23, a0g_24, a0g_25, a0g_26, a0g_27, a0g_28, Value.ref a0_29, Value.int v13na0_30, Value.int v13na0_31, a0g_32, a0g_33, a0g_34, a0g_35, a0g_36, a0g_37, Value.int v13na0_38, Value.int v13na0_39])), (a0_15, .inl (ka0_15, 156, .inl (fa0_15))), (a0_17, .inl (ka0_17, 23, .inl (fa0_17))), (a0_29, .inl (ka0_29, 10, .inl (v13nfa0_29)))]) hP hD hCc hk1 hFc hP1 hD1 [.inr 0, .inr 3, .inr 1, .inr 2] (by decide +kernel) rfl (fun hP hD => ?_)
    rcases hw with hw | hw | hw
    · obtain ⟨hw, h13_0, h13_1⟩ := hw
      subst hw
      exact absurd h13_0 (by decide)
    · obtain ⟨hw, h13_0, h13_1⟩ := hw
      subst hw
      refine lv_istore (lv' := [(4, .int 1), (0, .ref a0), (1, .int a1), (2, .int a2), (3, .int a3)]) hx hb dX8_drawn_16 hl (by decide) rfl (fun ls hl => ?_)
      refine lv_iload hx hb dX8_drawn_18 (lv_at hl 0 rfl) ?_
      refine lv_if_eq (tgt := 32) hx hb dX8_drawn_20 (by decide) (fun c20 => absurd c20 (by decide +kernel)) (fun _ => ?_)
      refine lv_aload_n hx hb dX8_drawn_23 rfl (lv_at hl 1 rfl) ?_
      refine lv_iload hx hb dX8_drawn_24 (lv_at hl 0 rfl) ?_
      refine va_calli (va_runV (As := [.int 1]) (rest := []) ⟨hx, hb, hml, hown, hts⟩ (c_X8_no l dC dI H.size a0 1 (Value.int v1na0_0) a0g_1 a0g_2 a0g_3 a0g_4 a0g_5 a0g_6 a0g_7 a0g_8 a0g_9 a0g_10 a0g_12 a0g_13 (Value.int a0_14) (Value.ref a0_15) a0g_16 (Value.ref a0_17) a0g_18 a0g_19 a0g_20 a0g_21 a0g_22 a0g_23 a0g_24 a0g_25 a0g_26 a0g_27 a0g_28 (Value.ref a0_29) (Value.int v13na0_30) (Value.int v13na0_31) a0g_32 a0g_33 a0g_34 a0g_35 a0g_36 a0g_37 (Value.int v13na0_38) (Value.int v13na0_39) v1na0_11 ) (cwV 1 hts gX8_drawn_X8_no rfl rfl rfl zd_X8_no ⟨Nat.le_of_ble_eq_true rfl, Nat.le_of_ble_eq_true rfl⟩) ⟨ax_blind (fun _ _ _ _ _ => trivial), zr_8 (zp_K hK) (zp_P1 hP) (q0 := 0) rfl, ax_pre (zp_P1 hP) (zp_K hK) (zp_D1 hD) (fun _ _ => trivial)⟩ rfl rfl hl.1 rfl (lv_room (Nat.le_of_ble_eq_true rfl)) dX8_drawn_26 ⟨Nat.le_of_ble_eq_true rfl, Nat.le_of_ble_eq_true rfl⟩) hS (fun q _ h => zp_F1 hD hS hA q h) (zp_F1 hD hS hA) (fun r26 u t H locs ht hvm hw => zx_1 (fun v26na0_11 hB hz1 hk1 hS1 => zo1 hB ht hP hD hk1 (zp_F1 hD hS hA) hS1 (fun hP hK1 hD hS => ?_)))
      have hw : r26 = (-1) := hw
      have hw := hw.symm
      subst hw
      refine lv_goto (tgt := 36) hx hb dX8_drawn_29 (by decide) ?_
      exact W.iret (v := (-1)) hx hb hr (fun t ht hW => ⟨⟨(-1), (), rfl, trivial, v1na0_0, v26na0_11, v13na0_30, v13na0_31, v13na0_38, v13na0_39, v13nfa0_29, bv13nfa0_29, by rw [ht]; exact hP, va_K.moved hW.alike hK, hD⟩, hS.F ht⟩) hS.2.2 dX8_drawn_36
    · obtain ⟨hw, h13_0, h13_1, h13_2, h13_3, h13_4, h13_5⟩ := hw
      subst hw
      exact absurd h13_0 (by decide)

set_option maxHeartbeats 4000000 in
set_option maxRecDepth 100000 in
theorem c_X8_firstShut (l : Launch) (dC : Nat → ClassId) (dI : Nat → Nat → Nat) (sz : Nat) (a0 : Nat) (a1 : Int32) (a2 : Int32) (a0_0 : Int32) (a0g_1 a0g_2 a0g_3 a0g_4 a0g_5 a0g_6 a0g_7 a0g_8 a0g_9 a0g_10 a0g_12 a0g_13 a0g_16 a0g_18 a0g_19 a0g_20 a0g_21 a0g_22 a0g_23 a0g_24 a0g_25 a0g_26 a0g_27 a0g_28 a0g_32 a0g_33 a0g_34 a0g_35 a0g_36 a0g_37 : Value) (a0_11 : Int32) (a0_14 : Int32) (a0_15 : Nat) (a0_17 : Nat) (a0_29 : Nat) (a0_30 : Int32) (a0_31 : Int32) (a0_38 : Int32) (a0_39 : Int32) (ka0_17 : ClassId) (fa0_17 : Nat → Int32) (ka0_29 : ClassId) (fa0_29 : Nat → Int32) (ka0_15 : ClassId) (fa0_15 : Nat → Int32) (ba0_14_l : (1 : Int) ≤ a0_14.toInt) (ba0_14_u : a0_14.toInt ≤ (1 : Int)) (bfa0_17 : ((∀ k : Nat, 0 ≤ k → k ≤ 8 → (0 : Int) ≤ (fa0_17 k).toInt ∧ (fa0_17 k).toInt ≤ 8) ∧ (∀ k : Nat, 19 ≤ k → k ≤ 19 → (0 : Int) ≤ (fa0_17 k).toInt ∧ (fa0_17 k).toInt ≤ 8) ∧ (∀ k : Nat, 20 ≤ k → k ≤ 20 → (0 : Int) ≤ (fa0_17 k).toInt ∧ (fa0_17 k).toInt ≤ 19))) (bfa0_29 : (∀ k, (0 : Int) ≤ (fa0_29 k).toInt ∧ (fa0_29 k).toInt ≤ 8)) (bfa0_15 : ((∀ k : Nat, 0 ≤ k → k ≤ 0 → (2 : Int) ≤ (fa0_15 k).toInt ∧ (fa0_15 k).toInt ≤ 9) ∧ (∀ k : Nat, 1 ≤ k → k ≤ 1 → (1 : Int) ≤ (fa0_15 k).toInt ∧ (fa0_15 k).toInt ≤ 20) ∧ (∀ k : Nat, 2 ≤ k → k ≤ 2 → (0 : Int) ≤ (fa0_15 k).toInt ∧ (fa0_15 k).toInt ≤ 8) ∧ (∀ k : Nat, 3 ≤ k → k ≤ 3 → (0 : Int) ≤ (fa0_15 k).toInt ∧ (fa0_15 k).toInt ≤ 100) ∧ (∀ k : Nat, 4 ≤ k → k ≤ 4 → (0 : Int) ≤ (fa0_15 k).toInt ∧ (fa0_15 k).toInt ≤ 9) ∧ (∀ k : Nat, 5 ≤ k → k ≤ 5 → (0 : Int) ≤ (fa0_15 k).toInt ∧ (fa0_15 k).toInt ≤ 3) ∧ (∀ k : Nat, 6 ≤ k → k ≤ 6 → (0 : Int) ≤ (fa0_15 k).toInt ∧ (fa0_15 k).toInt ≤ 6) ∧ (∀ k : Nat, 7 ≤ k → k ≤ 9 → (0 : Int) ≤ (fa0_15 k).toInt ∧ (fa0_15 k).toInt ≤ 8) ∧ (∀ k : Nat, 12 ≤ k → k ≤ 29 → (0 : Int) ≤ (fa0_15 k).toInt ∧ (fa0_15 k).toInt ≤ 20) ∧ (∀ k : Nat, 30 ≤ k → k ≤ 35 → (0 : Int) ≤ (fa0_15 k).toInt ∧ (fa0_15 k).toInt ≤ 8) ∧ (∀ k : Nat, 36 ≤ k → k ≤ 47 → (0 : Int) ≤ (fa0_15 k).toInt ∧ (fa0_15 k).toInt ≤ 999))) : zm l yX8_firstShut wsX8_firstShut ({ frames := 3, cells := 0, slots := 0, locals := 72 }) [.ref a0, .int a1, .int a2] dC dI sz [(a0, .inr (8, [Value.int a0_0, a0g_1, a0g_2, a0g_3, a0g_4, a0g_5, a0g_6, a0g_7, a0g_8, a0g_9, a0g_10, Value.int a0_11, a0g_12, a0g_13, Value.int a0_14, Value.ref a0_15, a0g_16, Value.ref a0_17, a0g_18, a0g_19, a0g_20, a0g_21, a0g_22, a0g_23, a0g_24, a0g_25, a0g_26, a0g_27, a0g_28, Value.ref a0_29, Value.int a0_30, Value.int a0_31, a0g_32, a0g_33, a0g_34, a0g_35, a0g_36, a0g_37, Value.int a0_38, Value.int a0_39])), (a0_17, .inl (ka0_17, 23, .inl (fa0_17))), (a0_29, .inl (ka0_29, 10, .inl (fa0_29))), (a0_15, .inl (ka0_15, 156, .inl (fa0_15)))] [(ka0_17, .int), (ka0_29, .int), (ka0_15, .int)] (fun A _ => True) (fun A => va_Qi (fun (r : Int32) (_ : Unit) => True) (fun (_ : Unit) (t : State) => ∃ na0_0 : Int32, ∃ na0_11 : Int32, ∃ na0_30 : Int32, ∃ na0_31 : Int32, ∃ na0_38 : Int32, ∃ na0_39 : Int32, ∃ nfa0_29 : Nat → Int32, (∀ k, (0 : Int) ≤ (nfa0_29 k).toInt ∧ (nfa0_29 k).toInt ≤ 8) ∧ ax_B dC dI A [(a0, .inr (8, [Value.int na0_0, a0g_1, a0g_2, a0g_3, a0g_4, a0g_5, a0g_6, a0g_7, a0g_8, a0g_9, a0g_10, Value.int na0_11, a0g_12, a0g_13, Value.int a0_14, Value.ref a0_15, a0g_16, Value.ref a0_17, a0g_18, a0g_19, a0g_20, a0g_21, a0g_22, a0g_23, a0g_24, a0g_25, a0g_26, a0g_27, a0g_28, Value.ref a0_29, Value.int na0_30, Value.int na0_31, a0g_32, a0g_33, a0g_34, a0g_35, a0g_36, a0g_37, Value.int na0_38, Value.int na0_39])), (a0_17, .inl (ka0_17, 23, .inl (fa0_17))), (a0_29, .inl (ka0_29, 10, .inl (nfa0_29))), (a0_15, .inl (ka0_15, 156, .inl (fa0_15)))] [(ka0_17, .int), (ka0_29, .int), (ka0_15, .int)] t) A) := by
  refine zh (cc := cX8_firstShut) (maxL := 4) (ret := (some .int)) zn_RX8 rfl (Nat.le_of_ble_eq_true rfl) (fun p e s m below meth c A ls hx hb hml hr hts (hown : s.vm.findClass RX8 = some m.cls) hlocks hA hS hP hK hD hE (hl : lv_has ls 4 [(0, .ref a0), (1, .int a1), (2, .int a2)]) => ?_)
  refine lv_aload_n hx hb dX8_firstShut_0 rfl (lv_at hl 0 rfl) ?_
  refine va_callv (va_runV (As := []) (rest := []) ⟨hx, hb, hml, hown, hts⟩ (c_X8_good l dC dI s.heap.size a0 a0_0 a0g_1 a0g_2 a0g_3 a0g_4 a0g_5 a0g_6 a0g_7 a0g_8 a0g_9 a0g_10 a0g_12 a0g_13 (Value.int a0_14) (Value.ref a0_15) a0g_16 (Value.ref a0_17) a0g_18 a0g_19 a0g_20 a0g_21 a0g_22 a0g_23 a0g_24 a0g_25 a0g_26 a0g_27 a0g_28 (Value.ref a0_29) (Value.int a0_30) (Value.int a0_31) a0g_32 a0g_33 a0g_34 a0g_35 a0g_36 a0g_37 (Value.int a0_38) (Value.int a0_39) a0_11 ) (cwV 0 hts gX8_firstShut_X8_good rfl rfl rfl zd_X8_good ⟨Nat.le_of_ble_eq_true rfl, Nat.le_of_ble_eq_true rfl⟩) ⟨ax_blind (fun _ _ _ _ _ => trivial), zr_8 (zp_K hK) (zp_P1 hP) (q0 := 0) rfl, ax_pre (zp_P1 hP) (zp_K hK) (zp_D1 hD) (fun _ _ => trivial)⟩ rfl rfl hl.1 rfl (lv_room (Nat.le_of_ble_eq_true rfl)) dX8_firstShut_1 ⟨Nat.le_of_ble_eq_true rfl, Nat.le_of_ble_eq_true rfl⟩) hS (fun q _ h => zp_F1 hD hS hA q h) (zp_F1 hD hS hA) (fun u t H locs ht hvm hw => zx_2 (fun v1na0_0 v1na0_11 hB hz1 hk1 hS1 => zo1 hB ht hP hD hk1 (zp_F1 hD hS hA) hS1 (fun hP hK1 hD hS => ?_)))
  refine lv_aload_n hx hb dX8_firstShut_4 rfl (lv_at hl 0 rfl) ?_
  refine lv_aload_n hx hb dX8_firstShut_5 rfl (lv_at hl 0 rfl) ?_
  refine va_get (D := (dC, dI)) (ci := 8) (v := .int a0_14) (C := RX8) (T := TX8) (N := 40) hx hb hts zi_X8_firstShut_8 hown hK hP 0 rfl rfl 14 (by decide) (hts (.fieldLink RX8 173 "WaxTurnsModel" "hasGallery" "Z") (zm_X8_firstShut_r1 (List.mem_of_getElem? (i := 0) rfl))) (fun _ h9 => h9) rfl dX8_firstShut_6 ?_
  refine lv_iconst (v := (-1)) hx hb dX8_firstShut_9 zk_iconst_n1 ?_
  refine lv_iload_n hx hb dX8_firstShut_10 rfl (lv_at hl 1 rfl) ?_
  refine lv_iload_n hx hb dX8_firstShut_11 rfl (lv_at hl 2 rfl) ?_
  have hKc := hK.sub (tys' := [(ka0_17, .int), (ka0_29, .int), (ka0_15, .int)]) [0, 1, 2] rfl
  refine va_calli (va_runV (As := [.int a0_14, .int (-1), .int a1, .int a2]) (rest := []) ⟨hx, hb, hml, hown, hts⟩ (c_X8_drawWhy l dC dI H.size a0 a0_14 (-1) a1 a2 (Value.int v1na0_0) a0g_1 a0g_2 a0g_3 a0g_4 a0g_5 a0g_6 a0g_7 a0g_8 a0g_9 a0g_10 (Value.int v1na0_11) a0g_12 a0g_13 (Value.int a0_14) a0g_16 a0g_18 a0g_19 a0g_20 a0g_21 a0g_22 a0g_23 a0g_24 a0g_25 a0g_26 a0g_27 a0g_28 a0g_32 a0g_33 a0g_34 a0g_35 a0g_36 a0g_37 a0_15 a0_17 a0_29 a0_30 a0_31 a0_38 a0_39 ka0_17 fa0_17 ka0_29 fa0_29 ka0_15 fa0_15 (Int.le_trans zq4 ba0_14_l) ba0_14_u bfa0_17 bfa0_29 bfa0_15) (cwV 4 hts gX8_firstShut_X8_drawWhy rfl rfl rfl zd_X8_drawWhy ⟨Nat.le_of_ble_eq_true rfl, Nat.le_of_ble_eq_true rfl⟩) ⟨ax_blind (fun _ _ _ _ _ => trivial), zr_8 hKc (zp_P4 hP) (q0 := 0) rfl, ax_pre (zp_P4 hP) hKc (zp_D4 hD) (fun _ _ => trivial)⟩ rfl rfl hl.1 rfl (lv_room (Nat.le_of_ble_eq_true rfl)) dX8_firstShut_12 ⟨Nat.le_of_ble_eq_true rfl, Nat.le_of_ble_eq_true rfl⟩) hS (fun q _ h => zp_F4 hD hS hA q h) (zp_F4 hD hS hA) (fun r12 u t H locs ht hvm hw => zx_5 (fun v12na0_30 v12na0_31 v12na0_38 v12na0_39 v12nfa0_29 => zy_1 (fun bv12nfa0_29 hB hz1 hk1 hS1 => zo4 hB ht hP hD hk1 (zp_F4 hD hS hA) hS1 (fun hP hK1 hD hS => ?_))))
  rcases hw with hw | hw | hw
  · obtain ⟨hw, h12_0, h12_1⟩ := hw
    subst hw
    have l12k0_a0_14 : (1 : Int) ≤ a0_14.toInt := ba0_14_l
    have u12k0_a0_14 : a0_14.toInt ≤ (1 : Int) := ba0_14_u
    refine lv_istore_n (lv' := [(3, .int 2), (0, .ref a0), (1, .int a1), (2, .int a2)]) hx hb dX8_firstShut_15 rfl hl (by decide) rfl (fun ls hl => ?_)
    refine lv_iload_n hx hb dX8_firstShut_16 rfl (lv_at hl 0 rfl) ?_
    refine lv_if_eq (tgt := 28) hx hb dX8_firstShut_17 (by decide) (fun c17 => absurd c17 (by decide +kernel)) (fun _ => ?_)
    refine lv_aload_n hx hb dX8_firstShut_20 rfl (lv_at hl 1 rfl) ?_
    refine lv_iload_n hx hb dX8_firstShut_21 rfl (lv_at hl 0 rfl) ?_
    refine va_calli (va_runV (As := [.int 2]) (rest := []) ⟨hx, hb, hml, hown, hts⟩ (c_X8_no l dC dI H.size a0 2 (Value.int v1na0_0) a0g_1 a0g_2 a0g_3 a0g_4 a0g_5 a0g_6 a0g_7 a0g_8 a0g_9 a0g_10 a0g_12 a0g_13 (Value.int a0_14) (Value.ref a0_15) a0g_16 (Value.ref a0_17) a0g_18 a0g_19 a0g_20 a0g_21 a0g_22 a0g_23 a0g_24 a0g_25 a0g_26 a0g_27 a0g_28 (Value.ref a0_29) (Value.int v12na0_30) (Value.int v12na0_31) a0g_32 a0g_33 a0g_34 a0g_35 a0g_36 a0g_37 (Value.int v12na0_38) (Value.int v12na0_39) v1na0_11 ) (cwV 1 hts gX8_firstShut_X8_no rfl rfl rfl zd_X8_no ⟨Nat.le_of_ble_eq_true rfl, Nat.le_of_ble_eq_true rfl⟩) ⟨ax_blind (fun _ _ _ _ _ => trivial), zr_8 (zp_K hK) (zp_P1 hP) (q0 := 0) rfl, ax_pre (zp_P1 hP) (zp_K hK) (zp_D1 hD) (fun _ _ => trivial)⟩ rfl rfl hl.1 rfl (lv_room (Nat.le_of_ble_eq_true rfl)) dX8_firstShut_22 ⟨Nat.le_of_ble_eq_true rfl, Nat.le_of_ble_eq_true rfl⟩) hS (fun q _ h => zp_F1 hD hS hA q h) (zp_F1 hD hS hA) (fun r22 u t H locs ht hvm hw => zx_1 (fun v22na0_11 hB hz1 hk1 hS1 => zo1 hB ht hP hD hk1 (zp_F1 hD hS hA) hS1 (fun hP hK1 hD hS => ?_)))
    have hw : r22 = (-1) := hw
    have hw := hw.symm
    subst hw
    refine lv_goto (tgt := 32) hx hb dX8_firstShut_25 (by decide) ?_
    exact W.iret (v := (-1)) hx hb hr (fun t ht hW => ⟨⟨(-1), (), rfl, trivial, v1na0_0, v22na0_11, v12na0_30, v12na0_31, v12na0_38, v12na0_39, v12nfa0_29, bv12nfa0_29, by rw [ht]; exact hP, va_K.moved hW.alike hK, hD⟩, hS.F ht⟩) hS.2.2 dX8_firstShut_32
  · obtain ⟨hw, h12_0, h12_1⟩ := hw
    subst hw
    have l12k1_a0_14 : (1 : Int) ≤ a0_14.toInt := ba0_14_l
    have u12k1_a0_14 : a0_14.toInt ≤ (0 : Int) := h12_1
    exact absurd (Int.le_trans l12k1_a0_14 u12k1_a0_14) (by decide)
  · obtain ⟨hw, h12_0, h12_1, h12_2, h12_3, h12_4, h12_5⟩ := hw
    subst hw
    have l12k2_a0_14 : (1 : Int) ≤ a0_14.toInt := ba0_14_l
    have u12k2_a0_14 : a0_14.toInt ≤ (1 : Int) := ba0_14_u
    have l12k2_a1 : (0 : Int) ≤ a1.toInt := h12_2
    have u12k2_a1 : a1.toInt ≤ (65536 : Int) := h12_3
    have l12k2_a2 : (0 : Int) ≤ a2.toInt := h12_4
    have u12k2_a2 : a2.toInt ≤ (200 : Int) := h12_5
    refine lv_istore_n (lv' := [(3, .int 0), (0, .ref a0), (1, .int a1), (2, .int a2)]) hx hb dX8_firstShut_15 rfl hl (by decide) rfl (fun ls hl => ?_)
    refine lv_iload_n hx hb dX8_firstShut_16 rfl (lv_at hl 0 rfl) ?_
    refine lv_if_eq (tgt := 28) hx hb dX8_firstShut_17 (by decide) (fun _ => ?_) (fun c17 => absurd (by decide +kernel) c17)
    refine lv_aload_n hx hb dX8_firstShut_28 rfl (lv_at hl 1 rfl) ?_
    refine va_get (D := (dC, dI)) (ci := 8) (v := .int v12na0_38) (C := RX8) (T := TX8) (N := 40) hx hb hts zi_X8_firstShut_8 hown hK hP 0 rfl rfl 38 (by decide) (hts (.fieldLink RX8 375 "WaxTurnsModel" "shutFirst" "I") (zm_X8_firstShut_r1 (List.mem_of_getElem? (i := 1) rfl))) (fun _ h9 => h9) rfl dX8_firstShut_29 ?_
    exact W.iret (v := v12na0_38) hx hb hr (fun t ht hW => ⟨⟨v12na0_38, (), rfl, trivial, v1na0_0, v1na0_11, v12na0_30, v12na0_31, v12na0_38, v12na0_39, v12nfa0_29, bv12nfa0_29, by rw [ht]; exact hP, va_K.moved hW.alike hK, hD⟩, hS.F ht⟩) hS.2.2 dX8_firstShut_32
end P260_05_safe
section P270_02_safe
set_option maxHeartbeats 4000000 in
set_option maxRecDepth 100000 in
theorem c_X8_led (l : Launch) (dC : Nat → ClassId) (dI : Nat → Nat → Nat) (sz : Nat) (a0 : Nat) (a1 : Int32) (a0_0 : Int32) (a0g_1 a0g_2 a0g_3 a0g_4 a0g_5 a0g_6 a0g_7 a0g_8 a0g_9 a0g_10 a0g_11 a0g_12 a0g_13 a0g_16 a0g_18 a0g_19 a0g_20 a0g_21 a0g_22 a0g_23 a0g_24 a0g_25 a0g_26 a0g_27 a0g_28 a0g_29 a0g_30 a0g_31 a0g_32 a0g_33 a0g_34 a0g_35 a0g_36 a0g_37 a0g_38 a0g_39 : Value) (a0_14 : Int32) (a0_15 : Nat) (a0_17 : Nat) (ka0_15 : ClassId) (fa0_15 : Nat → Int32) (ka0_17 : ClassId) (fa0_17 : Nat → Int32) (ba0_14_l : (1 : Int) ≤ a0_14.toInt) (ba0_14_u : a0_14.toInt ≤ (1 : Int)) (bfa0_15 : ((∀ k : Nat, 0 ≤ k → k ≤ 0 → (2 : Int) ≤ (fa0_15 k).toInt ∧ (fa0_15 k).toInt ≤ 9) ∧ (∀ k : Nat, 1 ≤ k → k ≤ 1 → (1 : Int) ≤ (fa0_15 k).toInt ∧ (fa0_15 k).toInt ≤ 20) ∧ (∀ k : Nat, 2 ≤ k → k ≤ 2 → (0 : Int) ≤ (fa0_15 k).toInt ∧ (fa0_15 k).toInt ≤ 8) ∧ (∀ k : Nat, 3 ≤ k → k ≤ 3 → (0 : Int) ≤ (fa0_15 k).toInt ∧ (fa0_15 k).toInt ≤ 100) ∧ (∀ k : Nat, 4 ≤ k → k ≤ 4 → (0 : Int) ≤ (fa0_15 k).toInt ∧ (fa0_15 k).toInt ≤ 9) ∧ (∀ k : Nat, 5 ≤ k → k ≤ 5 → (0 : Int) ≤ (fa0_15 k).toInt ∧ (fa0_15 k).toInt ≤ 3) ∧ (∀ k : Nat, 6 ≤ k → k ≤ 6 → (0 : Int) ≤ (fa0_15 k).toInt ∧ (fa0_15 k).toInt ≤ 6) ∧ (∀ k : Nat, 7 ≤ k → k ≤ 9 → (0 : Int) ≤ (fa0_15 k).toInt ∧ (fa0_15 k).toInt ≤ 8) ∧ (∀ k : Nat, 12 ≤ k → k ≤ 29 → (0 : Int) ≤ (fa0_15 k).toInt ∧ (fa0_15 k).toInt ≤ 20) ∧ (∀ k : Nat, 30 ≤ k → k ≤ 35 → (0 : Int) ≤ (fa0_15 k).toInt ∧ (fa0_15 k).toInt ≤ 8) ∧ (∀ k : Nat, 36 ≤ k → k ≤ 47 → (0 : Int) ≤ (fa0_15 k).toInt ∧ (fa0_15 k).toInt ≤ 999))) (bfa0_17 : ((∀ k : Nat, 0 ≤ k → k ≤ 8 → (0 : Int) ≤ (fa0_17 k).toInt ∧ (fa0_17 k).toInt ≤ 8) ∧ (∀ k : Nat, 19 ≤ k → k ≤ 19 → (0 : Int) ≤ (fa0_17 k).toInt ∧ (fa0_17 k).toInt ≤ 8) ∧ (∀ k : Nat, 20 ≤ k → k ≤ 20 → (0 : Int) ≤ (fa0_17 k).toInt ∧ (fa0_17 k).toInt ≤ 19))) : zm l yX8_led wsX8_led ({ frames := 0, cells := 0, slots := 0, locals := 0 }) [.ref a0, .int a1] dC dI sz [(a0, .inr (8, [Value.int a0_0, a0g_1, a0g_2, a0g_3, a0g_4, a0g_5, a0g_6, a0g_7, a0g_8, a0g_9, a0g_10, a0g_11, a0g_12, a0g_13, Value.int a0_14, Value.ref a0_15, a0g_16, Value.ref a0_17, a0g_18, a0g_19, a0g_20, a0g_21, a0g_22, a0g_23, a0g_24, a0g_25, a0g_26, a0g_27, a0g_28, a0g_29, a0g_30, a0g_31, a0g_32, a0g_33, a0g_34, a0g_35, a0g_36, a0g_37, a0g_38, a0g_39])), (a0_15, .inl (ka0_15, 156, .inl (fa0_15))), (a0_17, .inl (ka0_17, 23, .inl (fa0_17)))] [(ka0_15, .int), (ka0_17, .int)] (fun A _ => True) (fun A => va_Qi (fun (r : Int32) (_ : Unit) => (0 : Int) ≤ r.toInt ∧ r.toInt ≤ (8 : Int)) (fun (_ : Unit) (t : State) => ∃ na0_0 : Int32, ax_B dC dI A [(a0, .inr (8, [Value.int na0_0, a0g_1, a0g_2, a0g_3, a0g_4, a0g_5, a0g_6, a0g_7, a0g_8, a0g_9, a0g_10, a0g_11, a0g_12, a0g_13, Value.int a0_14, Value.ref a0_15, a0g_16, Value.ref a0_17, a0g_18, a0g_19, a0g_20, a0g_21, a0g_22, a0g_23, a0g_24, a0g_25, a0g_26, a0g_27, a0g_28, a0g_29, a0g_30, a0g_31, a0g_32, a0g_33, a0g_34, a0g_35, a0g_36, a0g_37, a0g_38, a0g_39])), (a0_15, .inl (ka0_15, 156, .inl (fa0_15))), (a0_17, .inl (ka0_17, 23, .inl (fa0_17)))] [(ka0_15, .int), (ka0_17, .int)] t) A) := by
  refine zh (cc := cX8_led) (maxL := 4) (ret := (some .int)) zn_RX8 rfl (Nat.le_of_ble_eq_true rfl) (fun p e s m below meth c A ls hx hb hml hr hts (hown : s.vm.findClass RX8 = some m.cls) hlocks hA hS hP hK hD hE (hl : lv_has ls 4 [(0, .ref a0), (1, .int a1)]) => ?_)
  refine ai_open (fun K hK0 => ?_)
  refine (hK0 _ _ _).mpr ?_
  refine lv_iconst (v := 0) hx hb dX8_led_0 zk_iconst_0 ?_
  refine lv_istore_n (lv' := [(2, .int 0), (0, .ref a0), (1, .int a1)]) hx hb dX8_led_1 rfl hl (by decide) rfl (fun ls hl => ?_)
  refine lv_iconst (v := 0) hx hb dX8_led_2 zk_iconst_0 ?_
  refine lv_istore_n (lv' := [(3, .int 0), (2, .int 0), (0, .ref a0), (1, .int a1)]) hx hb dX8_led_3 rfl hl (by decide) rfl (fun ls hl => ?_)
  have J4 : ∀ (n : Nat) (j4l3 : Int32) (j4l2 : Int32) (H : Heap) (locs : List Loc) (ls : Array Slot), (10 : Int) - j4l3.toInt ≤ (n : Int) → (0 : Int) ≤ j4l3.toInt → j4l3.toInt ≤ (9 : Int) → va_P (dC, dI) vwCl [(a0, .inr (8, [Value.int a0_0, a0g_1, a0g_2, a0g_3, a0g_4, a0g_5, a0g_6, a0g_7, a0g_8, a0g_9, a0g_10, a0g_11, a0g_12, a0g_13, Value.int a0_14, Value.ref a0_15, a0g_16, Value.ref a0_17, a0g_18, a0g_19, a0g_20, a0g_21, a0g_22, a0g_23, a0g_24, a0g_25, a0g_26, a0g_27, a0g_28, a0g_29, a0g_30, a0g_31, a0g_32, a0g_33, a0g_34, a0g_35, a0g_36, a0g_37, a0g_38, a0g_39])), (a0_15, .inl (ka0_15, 156, .inl (fa0_15))), (a0_17, .inl (ka0_17, 23, .inl (fa0_17)))] H → va_D A [(a0, .inr (8, [Value.int a0_0, a0g_1, a0g_2, a0g_3, a0g_4, a0g_5, a0g_6, a0g_7, a0g_8, a0g_9, a0g_10, a0g_11, a0g_12, a0g_13, Value.int a0_14, Value.ref a0_15, a0g_16, Value.ref a0_17, a0g_18, a0g_19, a0g_20, a0g_21, a0g_22, a0g_23, a0g_24, a0g_25, a0g_26, a0g_27, a0g_28, a0g_29, a0g_30, a0g_31, a0g_32, a0g_33, a0g_34, a0g_35, a0g_36, a0g_37, a0g_38, a0g_39])), (a0_15, .inl (ka0_15, 156, .inl (fa0_15))), (a0_17, .inl (ka0_17, 23, .inl (fa0_17)))] → va_S A s.heap H locs → lv_has ls 4 [(0, .ref a0), (1, .int a1), (2, .int j4l2), (3, .int j4l3)] → K H locs (F0 m 4 ls []) := by
    intro n
    induction n with
    | zero =>
      intro j4l3 j4l2 H locs ls hm bj4l3_l bj4l3_u hP hD hS hl
      first | exact zg_0 hm bj4l3_u (by decide) | (have h8 := ai_min j4l3; have h9 := ai_max j4l3; exact absurd hm (by omega))
    | succ n ih4 =>
      intro j4l3 j4l2 H locs ls hm bj4l3_l bj4l3_u hP hD hS hl
      refine (hK0 _ _ _).mpr ?_
      have hm4 := hm
      refine lv_aload_n hx hb dX8_led_4 rfl (lv_at hl 0 rfl) ?_
      refine va_get (D := (dC, dI)) (ci := 8) (v := .int a0_14) (C := RX8) (T := TX8) (N := 40) hx hb hts zi_X8_led_8 hown hK hP 0 rfl rfl 14 (by decide) (hts (.fieldLink RX8 173 "WaxTurnsModel" "hasGallery" "Z") (List.mem_cons_of_mem _ (List.mem_append_left _ (List.mem_of_getElem? (i := 0) rfl)))) (fun _ h9 => h9) rfl dX8_led_5 ?_
      have J55 : ∀ (H : Heap) (locs : List Loc) (ls : Array Slot), va_P (dC, dI) vwCl [(a0, .inr (8, [Value.int a0_0, a0g_1, a0g_2, a0g_3, a0g_4, a0g_5, a0g_6, a0g_7, a0g_8, a0g_9, a0g_10, a0g_11, a0g_12, a0g_13, Value.int a0_14, Value.ref a0_15, a0g_16, Value.ref a0_17, a0g_18, a0g_19, a0g_20, a0g_21, a0g_22, a0g_23, a0g_24, a0g_25, a0g_26, a0g_27, a0g_28, a0g_29, a0g_30, a0g_31, a0g_32, a0g_33, a0g_34, a0g_35, a0g_36, a0g_37, a0g_38, a0g_39])), (a0_15, .inl (ka0_15, 156, .inl (fa0_15))), (a0_17, .inl (ka0_17, 23, .inl (fa0_17)))] H → va_D A [(a0, .inr (8, [Value.int a0_0, a0g_1, a0g_2, a0g_3, a0g_4, a0g_5, a0g_6, a0g_7, a0g_8, a0g_9, a0g_10, a0g_11, a0g_12, a0g_13, Value.int a0_14, Value.ref a0_15, a0g_16, Value.ref a0_17, a0g_18, a0g_19, a0g_20, a0g_21, a0g_22, a0g_23, a0g_24, a0g_25, a0g_26, a0g_27, a0g_28, a0g_29, a0g_30, a0g_31, a0g_32, a0g_33, a0g_34, a0g_35, a0g_36, a0g_37, a0g_38, a0g_39])), (a0_15, .inl (ka0_15, 156, .inl (fa0_15))), (a0_17, .inl (ka0_17, 23, .inl (fa0_17)))] → va_S A s.heap H locs → lv_has ls 4 [(0, .ref a0)] → K H locs (F0 m 55 ls []) := by
        intro  H locs ls   hP hD hS hl
        refine (hK0 _ _ _).mpr ?_
        refine lv_aload_n hx hb dX8_led_55 rfl (lv_at hl 0 rfl) ?_
        refine lv_iconst (v := 1) hx hb dX8_led_56 zk_iconst_1 ?_
        refine va_put (D := (dC, dI)) (ci := 8) (v := .int 1) (ty := .int) (C := RX8) (T := TX8) (N := 40) hx hb hts zi_X8_led_8 tyX8 tyX8_ok nmX8 hown hK hP hD hS 0 rfl rfl 0 (by decide) (hts (.fieldLink RX8 59 "WaxTurnsModel" "thrown" "I") (List.mem_cons_of_mem _ (List.mem_append_left _ (List.mem_of_getElem? (i := 3) rfl)))) (fun _ h9 => h9) rfl (tyX8_ok 0 (by decide)) rfl rfl (Nat.le_of_ble_eq_true rfl) dX8_led_57 (fun H locs hP hD hS => ?_)
        refine zs_0 (y := (a0, .inr (8, [Value.int 1, a0g_1, a0g_2, a0g_3, a0g_4, a0g_5, a0g_6, a0g_7, a0g_8, a0g_9, a0g_10, a0g_11, a0g_12, a0g_13, Value.int a0_14, Value.ref a0_15, a0g_16, Value.ref a0_17, a0g_18, a0g_19, a0g_20, a0g_21, a0g_22, a0g_23, a0g_24, a0g_25, a0g_26, a0g_27, a0g_28, a0g_29, a0g_30, a0g_31, a0g_32, a0g_33, a0g_34, a0g_35, a0g_36, a0g_37, a0g_38, a0g_39]))) hP hD rfl (fun hP hD => ?_)
        refine lv_iconst (v := 0) hx hb dX8_led_60 zk_iconst_0 ?_
        exact W.iret (v := 0) hx hb hr (fun t ht hW => ⟨⟨0, (), rfl, ⟨zq5, (Int.le_trans zq6 zq20)⟩, 1, by rw [ht]; exact hP, va_K.moved hW.alike hK, hD⟩, hS.F ht⟩) hS.2.2 dX8_led_61
      refine lv_if_eq (tgt := 55) hx hb dX8_led_8 (by decide) (fun c8 => ?_) (fun c8 => ?_)
      · have gc8 := ai_eq c8
        have u8t_a0_14 : a0_14.toInt ≤ (0 : Int) := Int.le_trans (Int.le_of_eq gc8) zq6
        have l8t_a0_14 : (1 : Int) ≤ a0_14.toInt := ba0_14_l
        exact absurd (Int.le_trans l8t_a0_14 u8t_a0_14) (by decide)
      · have gc8 := ai_ne c8
        refine lv_iload_n hx hb dX8_led_11 rfl (lv_at hl 3 rfl) ?_
        refine lv_aload_n hx hb dX8_led_12 rfl (lv_at hl 0 rfl) ?_
        refine va_get (D := (dC, dI)) (ci := 8) (v := .ref a0_15) (C := RX8) (T := TX8) (N := 40) hx hb hts zi_X8_led_8 hown hK hP 0 rfl rfl 15 (by decide) (hts (.fieldLink RX8 20 "WaxTurnsModel" "\x72" "[I") (List.mem_cons_of_mem _ (List.mem_append_left _ (List.mem_of_getElem? (i := 1) rfl)))) (fun _ h9 => h9) rfl dX8_led_13 ?_
        refine lv_iconst (v := 0) hx hb dX8_led_16 zk_iconst_0 ?_
        refine va_iald hx hb hK hP 1 0 rfl rfl (by unfold vp_in; decide +kernel) dX8_led_17 ?_
        refine lv_topi (fun x17 ex17 => ?_)
        have bx17 : (2 : Int) ≤ x17.toInt ∧ x17.toInt ≤ 9 := by rw [ex17]; exact ai_rd bfa0_15.1 zq5 zq6 (by decide) (by decide) (by decide)
        refine lv_icmp_ge (tgt := 55) hx hb dX8_led_18 (by decide) (fun c18 => ?_) (fun c18 => ?_)
        · have gc18 := ai_le c18
          have u18t_x17 : x17.toInt ≤ (9 : Int) := bx17.2
          have l18t_j4l3 : (2 : Int) ≤ j4l3.toInt := Int.le_trans bx17.1 gc18
          exact (hK0 _ _ _).mp (J55  _ _ _   hP hD hS (lv_sub hl [0] rfl))
        · have gc18 := ai_nle c18
          have u18f_j4l3 : j4l3.toInt ≤ (8 : Int) := ai_lthi gc18 bx17.2
          have l18f_x17 : (2 : Int) ≤ x17.toInt := bx17.1
          refine lv_aload_n hx hb dX8_led_21 rfl (lv_at hl 0 rfl) ?_
          refine va_get (D := (dC, dI)) (ci := 8) (v := .ref a0_17) (C := RX8) (T := TX8) (N := 40) hx hb hts zi_X8_led_8 hown hK hP 0 rfl rfl 17 (by decide) (hts (.fieldLink RX8 26 "WaxTurnsModel" "st" "[I") (List.mem_cons_of_mem _ (List.mem_append_left _ (List.mem_of_getElem? (i := 2) rfl)))) (fun _ h9 => h9) rfl dX8_led_22 ?_
          refine lv_iload_n hx hb dX8_led_25 rfl (lv_at hl 3 rfl) ?_
          refine va_iald hx hb hK hP 2 1 rfl rfl (ai_in bj4l3_l u18f_j4l3 (by decide) (by decide)) dX8_led_26 ?_
          refine lv_topi (fun x26 ex26 => ?_)
          have bx26 : (0 : Int) ≤ x26.toInt ∧ x26.toInt ≤ 8 := by rw [ex26]; exact ai_rd bfa0_17.1 bj4l3_l u18f_j4l3 (by decide) (by decide) (by decide)
          refine lv_iload_n hx hb dX8_led_27 rfl (lv_at hl 3 rfl) ?_
          have J49 : ∀ (j49l2 : Int32) (H : Heap) (locs : List Loc) (ls : Array Slot), va_P (dC, dI) vwCl [(a0, .inr (8, [Value.int a0_0, a0g_1, a0g_2, a0g_3, a0g_4, a0g_5, a0g_6, a0g_7, a0g_8, a0g_9, a0g_10, a0g_11, a0g_12, a0g_13, Value.int a0_14, Value.ref a0_15, a0g_16, Value.ref a0_17, a0g_18, a0g_19, a0g_20, a0g_21, a0g_22, a0g_23, a0g_24, a0g_25, a0g_26, a0g_27, a0g_28, a0g_29, a0g_30, a0g_31, a0g_32, a0g_33, a0g_34, a0g_35, a0g_36, a0g_37, a0g_38, a0g_39])), (a0_15, .inl (ka0_15, 156, .inl (fa0_15))), (a0_17, .inl (ka0_17, 23, .inl (fa0_17)))] H → va_D A [(a0, .inr (8, [Value.int a0_0, a0g_1, a0g_2, a0g_3, a0g_4, a0g_5, a0g_6, a0g_7, a0g_8, a0g_9, a0g_10, a0g_11, a0g_12, a0g_13, Value.int a0_14, Value.ref a0_15, a0g_16, Value.ref a0_17, a0g_18, a0g_19, a0g_20, a0g_21, a0g_22, a0g_23, a0g_24, a0g_25, a0g_26, a0g_27, a0g_28, a0g_29, a0g_30, a0g_31, a0g_32, a0g_33, a0g_34, a0g_35, a0g_36, a0g_37, a0g_38, a0g_39])), (a0_15, .inl (ka0_15, 156, .inl (fa0_15))), (a0_17, .inl (ka0_17, 23, .inl (fa0_17)))] → va_S A s.heap H locs → lv_has ls 4 [(0, .ref a0), (1, .int a1), (2, .int j49l2), (3, .int j4l3)] → K H locs (F0 m 49 ls []) := by
            intro j49l2 H locs ls   hP hD hS hl
            refine (hK0 _ _ _).mpr ?_
            obtain ⟨x49, ex49⟩ : ∃ y : Int32, y = j4l3 + Int32.ofInt 1 := ⟨_, rfl⟩
            have qx49 : x49.toInt = j4l3.toInt + 1 := ai_inc ex49 (by decide) (by decide) u18f_j4l3 (by decide)
            have bx49 : (1 : Int) ≤ x49.toInt ∧ x49.toInt ≤ 9 := ⟨by rw [qx49]; exact Int.add_le_add bj4l3_l (Int.le_refl _), by rw [qx49]; exact Int.add_le_add u18f_j4l3 (Int.le_refl _)⟩
            refine lv_iinc (v := x49) (lv' := [(3, .int x49), (0, .ref a0), (1, .int a1), (2, .int j49l2)]) hx hb dX8_led_49 hl (k := 3) rfl ex49.symm (by decide) rfl (fun ls hl => ?_)
            refine lv_goto (tgt := 4) hx hb dX8_led_52 (by decide) ?_
            exact (hK0 _ _ _).mp (ih4 x49 j49l2 _ _ _ (by first | exact zg_s hm4 qx49 | (have h0 := qx49; omega)) (Int.le_trans zq4 bx49.1) bx49.2 hP hD hS (lv_sub hl [1, 2, 3, 0] rfl))
          refine lv_icmp_ne (tgt := 34) hx hb dX8_led_28 (by decide) (fun c28 => ?_) (fun c28 => ?_)
          · have gc28 := ai_ne c28
            refine lv_iload_n hx hb dX8_led_34 rfl (lv_at hl 2 rfl) ?_
            refine lv_iload_n hx hb dX8_led_35 rfl (lv_at hl 1 rfl) ?_
            refine lv_icmp_ne (tgt := 46) hx hb dX8_led_36 (by decide) (fun c36 => ?_) (fun c36 => ?_)
            · have gc36 := ai_ne c36
              obtain ⟨x46, ex46⟩ : ∃ y : Int32, y = j4l2 + Int32.ofInt 1 := ⟨_, rfl⟩
              refine lv_iinc (v := x46) (lv' := [(2, .int x46), (0, .ref a0), (1, .int a1), (3, .int j4l3)]) hx hb dX8_led_46 hl (k := 2) rfl ex46.symm (by decide) rfl (fun ls hl => ?_)
              exact (hK0 _ _ _).mp (J49 x46 _ _ _   hP hD hS (lv_sub hl [1, 2, 0, 3] rfl))
            · have gc36 := ai_eq c36
              refine lv_aload_n hx hb dX8_led_39 rfl (lv_at hl 0 rfl) ?_
              refine lv_iconst (v := 0) hx hb dX8_led_40 zk_iconst_0 ?_
              refine va_put (D := (dC, dI)) (ci := 8) (v := .int 0) (ty := .int) (C := RX8) (T := TX8) (N := 40) hx hb hts zi_X8_led_8 tyX8 tyX8_ok nmX8 hown hK hP hD hS 0 rfl rfl 0 (by decide) (hts (.fieldLink RX8 59 "WaxTurnsModel" "thrown" "I") (List.mem_cons_of_mem _ (List.mem_append_left _ (List.mem_of_getElem? (i := 3) rfl)))) (fun _ h9 => h9) rfl (tyX8_ok 0 (by decide)) rfl rfl (Nat.le_of_ble_eq_true rfl) dX8_led_41 (fun H locs hP hD hS => ?_)
              refine zs_0 (y := (a0, .inr (8, [Value.int 0, a0g_1, a0g_2, a0g_3, a0g_4, a0g_5, a0g_6, a0g_7, a0g_8, a0g_9, a0g_10, a0g_11, a0g_12, a0g_13, Value.int a0_14, Value.ref a0_15, a0g_16, Value.ref a0_17, a0g_18, a0g_19, a0g_20, a0g_21, a0g_22, a0g_23, a0g_24, a0g_25, a0g_26, a0g_27, a0g_28, a0g_29, a0g_30, a0g_31, a0g_32, a0g_33, a0g_34, a0g_35, a0g_36, a0g_37, a0g_38, a0g_39]))) hP hD rfl (fun hP hD => ?_)
              refine lv_iload_n hx hb dX8_led_44 rfl (lv_at hl 3 rfl) ?_
              exact W.iret (v := j4l3) hx hb hr (fun t ht hW => ⟨⟨j4l3, (), rfl, ⟨bj4l3_l, u18f_j4l3⟩, 0, by rw [ht]; exact hP, va_K.moved hW.alike hK, hD⟩, hS.F ht⟩) hS.2.2 dX8_led_45
          · have gc28 := ai_eq c28
            have u28f_x26 : x26.toInt ≤ (8 : Int) := bx26.2
            have l28f_x26 : (0 : Int) ≤ x26.toInt := bx26.1
            have u28f_j4l3 : j4l3.toInt ≤ (8 : Int) := u18f_j4l3
            have l28f_j4l3 : (0 : Int) ≤ j4l3.toInt := bj4l3_l
            refine lv_goto (tgt := 49) hx hb dX8_led_31 (by decide) ?_
            exact (hK0 _ _ _).mp (J49 j4l2 _ _ _   hP hD hS (lv_sub hl [0, 1, 2, 3] rfl))
  exact (hK0 _ _ _).mp (J4 10 0 0 _ _ _ (by first | decide +kernel | (have h1 : (0 : Int) ≤ (0 : Int32).toInt := zq5; have h2 : (0 : Int32).toInt ≤ (0 : Int) := zq6; omega)) zq5 (Int.le_trans zq6 zq7) hP hD hS (lv_sub hl [2, 3, 1, 0] rfl))

set_option maxHeartbeats 4000000 in
set_option maxRecDepth 100000 in
theorem c_X8_size (l : Launch) (dC : Nat → ClassId) (dI : Nat → Nat → Nat) (sz : Nat) (a0 : Nat) (a1 : Int32) (a0_0 : Int32) (a0g_1 a0g_3 a0g_4 a0g_5 a0g_6 a0g_7 a0g_8 a0g_9 a0g_10 a0g_11 a0g_12 a0g_13 a0g_16 a0g_18 a0g_19 a0g_20 a0g_23 a0g_24 a0g_25 a0g_26 a0g_27 a0g_28 a0g_29 a0g_30 a0g_31 a0g_32 a0g_33 a0g_34 a0g_35 a0g_36 a0g_37 a0g_38 a0g_39 : Value) (a0_2 : Int32) (a0_14 : Int32) (a0_15 : Nat) (a0_17 : Nat) (a0_21 : Int32) (a0_22 : Int32) (ka0_15 : ClassId) (fa0_15 : Nat → Int32) (ka0_17 : ClassId) (fa0_17 : Nat → Int32) (ba0_2_l : (0 : Int) ≤ a0_2.toInt) (ba0_2_u : a0_2.toInt ≤ (900 : Int)) (ba0_14_l : (1 : Int) ≤ a0_14.toInt) (ba0_14_u : a0_14.toInt ≤ (1 : Int)) (ba0_21_l : (0 : Int) ≤ a0_21.toInt) (ba0_21_u : a0_21.toInt ≤ (16 : Int)) (ba0_22_l : (0 : Int) ≤ a0_22.toInt) (ba0_22_u : a0_22.toInt ≤ (3 : Int)) (bfa0_15 : ((∀ k : Nat, 0 ≤ k → k ≤ 0 → (2 : Int) ≤ (fa0_15 k).toInt ∧ (fa0_15 k).toInt ≤ 9) ∧ (∀ k : Nat, 1 ≤ k → k ≤ 1 → (1 : Int) ≤ (fa0_15 k).toInt ∧ (fa0_15 k).toInt ≤ 20) ∧ (∀ k : Nat, 2 ≤ k → k ≤ 2 → (0 : Int) ≤ (fa0_15 k).toInt ∧ (fa0_15 k).toInt ≤ 8) ∧ (∀ k : Nat, 3 ≤ k → k ≤ 3 → (0 : Int) ≤ (fa0_15 k).toInt ∧ (fa0_15 k).toInt ≤ 100) ∧ (∀ k : Nat, 4 ≤ k → k ≤ 4 → (0 : Int) ≤ (fa0_15 k).toInt ∧ (fa0_15 k).toInt ≤ 9) ∧ (∀ k : Nat, 5 ≤ k → k ≤ 5 → (0 : Int) ≤ (fa0_15 k).toInt ∧ (fa0_15 k).toInt ≤ 3) ∧ (∀ k : Nat, 6 ≤ k → k ≤ 6 → (0 : Int) ≤ (fa0_15 k).toInt ∧ (fa0_15 k).toInt ≤ 6) ∧ (∀ k : Nat, 7 ≤ k → k ≤ 9 → (0 : Int) ≤ (fa0_15 k).toInt ∧ (fa0_15 k).toInt ≤ 8) ∧ (∀ k : Nat, 12 ≤ k → k ≤ 29 → (0 : Int) ≤ (fa0_15 k).toInt ∧ (fa0_15 k).toInt ≤ 20) ∧ (∀ k : Nat, 30 ≤ k → k ≤ 35 → (0 : Int) ≤ (fa0_15 k).toInt ∧ (fa0_15 k).toInt ≤ 8) ∧ (∀ k : Nat, 36 ≤ k → k ≤ 47 → (0 : Int) ≤ (fa0_15 k).toInt ∧ (fa0_15 k).toInt ≤ 999))) (bfa0_17 : ((∀ k : Nat, 0 ≤ k → k ≤ 8 → (0 : Int) ≤ (fa0_17 k).toInt ∧ (fa0_17 k).toInt ≤ 8) ∧ (∀ k : Nat, 19 ≤ k → k ≤ 19 → (0 : Int) ≤ (fa0_17 k).toInt ∧ (fa0_17 k).toInt ≤ 8) ∧ (∀ k : Nat, 20 ≤ k → k ≤ 20 → (0 : Int) ≤ (fa0_17 k).toInt ∧ (fa0_17 k).toInt ≤ 19))) : zm l yX8_size wsX8_size ({ frames := 1, cells := 0, slots := 0, locals := 22 }) [.ref a0, .int a1] dC dI sz [(a0, .inr (8, [Value.int a0_0, a0g_1, Value.int a0_2, a0g_3, a0g_4, a0g_5, a0g_6, a0g_7, a0g_8, a0g_9, a0g_10, a0g_11, a0g_12, a0g_13, Value.int a0_14, Value.ref a0_15, a0g_16, Value.ref a0_17, a0g_18, a0g_19, a0g_20, Value.int a0_21, Value.int a0_22, a0g_23, a0g_24, a0g_25, a0g_26, a0g_27, a0g_28, a0g_29, a0g_30, a0g_31, a0g_32, a0g_33, a0g_34, a0g_35, a0g_36, a0g_37, a0g_38, a0g_39])), (a0_15, .inl (ka0_15, 156, .inl (fa0_15))), (a0_17, .inl (ka0_17, 23, .inl (fa0_17)))] [(ka0_15, .int), (ka0_17, .int)] (fun A _ => True) (fun A => va_Qi (fun (r : Int32) (_ : Unit) => True) (fun (_ : Unit) (t : State) => ∃ na0_0 : Int32, ax_B dC dI A [(a0, .inr (8, [Value.int na0_0, a0g_1, Value.int a0_2, a0g_3, a0g_4, a0g_5, a0g_6, a0g_7, a0g_8, a0g_9, a0g_10, a0g_11, a0g_12, a0g_13, Value.int a0_14, Value.ref a0_15, a0g_16, Value.ref a0_17, a0g_18, a0g_19, a0g_20, Value.int a0_21, Value.int a0_22, a0g_23, a0g_24, a0g_25, a0g_26, a0g_27, a0g_28, a0g_29, a0g_30, a0g_31, a0g_32, a0g_33, a0g_34, a0g_35, a0g_36, a0g_37, a0g_38, a0g_39])), (a0_15, .inl (ka0_15, 156, .inl (fa0_15))), (a0_17, .inl (ka0_17, 23, .inl (fa0_17)))] [(ka0_15, .int), (ka0_17, .int)] t) A) := by
  refine zh (cc := cX8_size) (maxL := 2) (ret := (some .int)) zn_RX8 rfl (Nat.le_of_ble_eq_true rfl) (fun p e s m below meth c A ls hx hb hml hr hts (hown : s.vm.findClass RX8 = some m.cls) hlocks hA hS hP hK hD hE (hl : lv_has ls 2 [(0, .ref a0), (1, .int a1)]) => ?_)
  refine lv_aload_n hx hb dX8_size_0 rfl (lv_at hl 0 rfl) ?_
  refine lv_iconst (v := 0) hx hb dX8_size_1 zk_iconst_0 ?_
  refine va_put (D := (dC, dI)) (ci := 8) (v := .int 0) (ty := .int) (C := RX8) (T := TX8) (N := 40) hx hb hts zi_X8_size_8 tyX8 tyX8_ok nmX8 hown hK hP hD hS 0 rfl rfl 0 (by decide) (hts (.fieldLink RX8 59 "WaxTurnsModel" "thrown" "I") (List.mem_cons_of_mem _ (List.mem_append_left _ (List.mem_of_getElem? (i := 0) rfl)))) (fun _ h9 => h9) rfl (tyX8_ok 0 (by decide)) rfl rfl (Nat.le_of_ble_eq_true rfl) dX8_size_2 (fun H locs hP hD hS => ?_)
  refine zs_0 (y := (a0, .inr (8, [Value.int 0, a0g_1, Value.int a0_2, a0g_3, a0g_4, a0g_5, a0g_6, a0g_7, a0g_8, a0g_9, a0g_10, a0g_11, a0g_12, a0g_13, Value.int a0_14, Value.ref a0_15, a0g_16, Value.ref a0_17, a0g_18, a0g_19, a0g_20, Value.int a0_21, Value.int a0_22, a0g_23, a0g_24, a0g_25, a0g_26, a0g_27, a0g_28, a0g_29, a0g_30, a0g_31, a0g_32, a0g_33, a0g_34, a0g_35, a0g_36, a0g_37, a0g_38, a0g_39]))) hP hD rfl (fun hP hD => ?_)
  refine lv_iload_n hx hb dX8_size_5 rfl (lv_at hl 1 rfl) ?_
  refine lv_bipush (v := 13) hx hb dX8_size_6 zk_bipush_13 ?_
  refine lv_icmp_ne (tgt := 16) hx hb dX8_size_8 (by decide) (fun c8 => ?_) (fun c8 => ?_)
  · have gc8 := ai_ne c8
    refine lv_aload_n hx hb dX8_size_16 rfl (lv_at hl 0 rfl) ?_
    refine va_get (D := (dC, dI)) (ci := 8) (v := .int a0_14) (C := RX8) (T := TX8) (N := 40) hx hb hts zi_X8_size_8 hown hK hP 0 rfl rfl 14 (by decide) (hts (.fieldLink RX8 173 "WaxTurnsModel" "hasGallery" "Z") (List.mem_cons_of_mem _ (List.mem_append_left _ (List.mem_of_getElem? (i := 2) rfl)))) (fun _ h9 => h9) rfl dX8_size_17 ?_
    refine lv_if_ne (tgt := 39) hx hb dX8_size_20 (by decide) (fun c20 => ?_) (fun c20 => ?_)
    · have gc20 := ai_ne c20
      refine lv_iload_n hx hb dX8_size_39 rfl (lv_at hl 1 rfl) ?_
      refine lv_iconst (v := 0) hx hb dX8_size_40 zk_iconst_0 ?_
      refine lv_bipush (v := 9) hx hb dX8_size_41 zk_bipush_9 ?_
      refine va_calli (va_runS (As := [.int a1, .int 0, .int 9]) (rest := []) ⟨hx, hb, hml, hown, hts⟩ (c_X8_in l dC dI H.size a1 0 9 ) (va_cwS 3 hts gX8_size_X8_in rfl rfl rfl zd_X8_in.2 ⟨Nat.le_of_ble_eq_true rfl, Nat.le_of_ble_eq_true rfl⟩) ⟨ax_blind (fun _ _ _ _ _ => trivial), ax_pre (zp_P0 hP) (zp_K hK) (zp_D0 hD) (fun _ _ => trivial)⟩ rfl rfl hl.1 rfl (lv_room (Nat.le_of_ble_eq_true rfl)) dX8_size_43 ⟨Nat.le_of_ble_eq_true rfl, Nat.le_of_ble_eq_true rfl⟩) hS (fun q _ h => zp_F0 hD hS hA q h) (zp_F0 hD hS hA) (fun r43 u t H locs ht hvm hw hB hz1 hk1 hS1 => zo0 hB ht hP hD hk1 (zp_F0 hD hS hA) hS1 (fun hP hK1 hD hS => ?_))
      rcases hw with hw | hw
      · obtain ⟨hw, h43⟩ := hw
        subst hw
        have l43k0_a1 : (0 : Int) ≤ a1.toInt := Int.le_trans zq5 h43.1
        have u43k0_a1 : a1.toInt ≤ (9 : Int) := Int.le_trans h43.2 zq3
        refine lv_if_eq (tgt := 56) hx hb dX8_size_46 (by decide) (fun c46 => absurd c46 (by decide +kernel)) (fun _ => ?_)
        refine lv_aload_n hx hb dX8_size_49 rfl (lv_at hl 0 rfl) ?_
        refine va_get (D := (dC, dI)) (ci := 8) (v := .ref a0_15) (C := RX8) (T := TX8) (N := 40) hx hb hts zi_X8_size_8 hown hK hP 0 rfl rfl 15 (by decide) (hts (.fieldLink RX8 20 "WaxTurnsModel" "\x72" "[I") (List.mem_cons_of_mem _ (List.mem_append_left _ (List.mem_of_getElem? (i := 3) rfl)))) (fun _ h9 => h9) rfl dX8_size_50 ?_
        refine lv_iload_n hx hb dX8_size_53 rfl (lv_at hl 1 rfl) ?_
        refine va_iald hx hb hK hP 1 0 rfl rfl (ai_in l43k0_a1 u43k0_a1 (by decide) (by decide)) dX8_size_54 ?_
        refine lv_topi (fun x54 ex54 => ?_)
        exact W.iret (v := x54) hx hb hr (fun t ht hW => ⟨⟨x54, (), rfl, trivial, 0, by rw [ht]; exact hP, va_K.moved hW.alike hK, hD⟩, hS.F ht⟩) hS.2.2 dX8_size_55
      · obtain ⟨hw, h43⟩ := hw
        subst hw
        refine lv_if_eq (tgt := 56) hx hb dX8_size_46 (by decide) (fun _ => ?_) (fun c46 => absurd (by decide +kernel) c46)
        refine lv_iload_n hx hb dX8_size_56 rfl (lv_at hl 1 rfl) ?_
        refine lv_bipush (v := 10) hx hb dX8_size_57 zk_bipush_10 ?_
        refine lv_icmp_ne (tgt := 72) hx hb dX8_size_59 (by decide) (fun c59 => ?_) (fun c59 => ?_)
        · have gc59 := ai_ne c59
          refine lv_iload_n hx hb dX8_size_72 rfl (lv_at hl 1 rfl) ?_
          refine lv_bipush (v := 11) hx hb dX8_size_73 zk_bipush_11 ?_
          refine lv_icmp_ne (tgt := 85) hx hb dX8_size_75 (by decide) (fun c75 => ?_) (fun c75 => ?_)
          · have gc75 := ai_ne c75
            refine lv_iload_n hx hb dX8_size_85 rfl (lv_at hl 1 rfl) ?_
            refine lv_bipush (v := 12) hx hb dX8_size_86 zk_bipush_12 ?_
            refine lv_icmp_ne (tgt := 98) hx hb dX8_size_88 (by decide) (fun c88 => ?_) (fun c88 => ?_)
            · have gc88 := ai_ne c88
              refine lv_iconst (v := (-1)) hx hb dX8_size_98 zk_iconst_n1 ?_
              exact W.iret (v := (-1)) hx hb hr (fun t ht hW => ⟨⟨(-1), (), rfl, trivial, 0, by rw [ht]; exact hP, va_K.moved hW.alike hK, hD⟩, hS.F ht⟩) hS.2.2 dX8_size_99
            · have gc88 := ai_eq c88
              have u88f_a1 : a1.toInt ≤ (12 : Int) := Int.le_trans (Int.le_of_eq gc88) zq120
              have l88f_a1 : (12 : Int) ≤ a1.toInt := Int.le_trans zq119 (Int.le_of_eq gc88.symm)
              refine lv_aload_n hx hb dX8_size_91 rfl (lv_at hl 0 rfl) ?_
              refine va_get (D := (dC, dI)) (ci := 8) (v := .int a0_22) (C := RX8) (T := TX8) (N := 40) hx hb hts zi_X8_size_8 hown hK hP 0 rfl rfl 22 (by decide) (hts (.fieldLink RX8 179 "WaxTurnsModel" "images" "I") (List.mem_cons_of_mem _ (List.mem_append_left _ (List.mem_of_getElem? (i := 6) rfl)))) (fun _ h9 => h9) rfl dX8_size_92 ?_
              refine lv_goto (tgt := 99) hx hb dX8_size_95 (by decide) ?_
              exact W.iret (v := a0_22) hx hb hr (fun t ht hW => ⟨⟨a0_22, (), rfl, trivial, 0, by rw [ht]; exact hP, va_K.moved hW.alike hK, hD⟩, hS.F ht⟩) hS.2.2 dX8_size_99
          · have gc75 := ai_eq c75
            have u75f_a1 : a1.toInt ≤ (11 : Int) := Int.le_trans (Int.le_of_eq gc75) zq118
            have l75f_a1 : (11 : Int) ≤ a1.toInt := Int.le_trans zq117 (Int.le_of_eq gc75.symm)
            refine lv_aload_n hx hb dX8_size_78 rfl (lv_at hl 0 rfl) ?_
            refine va_get (D := (dC, dI)) (ci := 8) (v := .int a0_21) (C := RX8) (T := TX8) (N := 40) hx hb hts zi_X8_size_8 hown hK hP 0 rfl rfl 21 (by decide) (hts (.fieldLink RX8 176 "WaxTurnsModel" "undos" "I") (List.mem_cons_of_mem _ (List.mem_append_left _ (List.mem_of_getElem? (i := 5) rfl)))) (fun _ h9 => h9) rfl dX8_size_79 ?_
            refine lv_goto (tgt := 99) hx hb dX8_size_82 (by decide) ?_
            exact W.iret (v := a0_21) hx hb hr (fun t ht hW => ⟨⟨a0_21, (), rfl, trivial, 0, by rw [ht]; exact hP, va_K.moved hW.alike hK, hD⟩, hS.F ht⟩) hS.2.2 dX8_size_99
        · have gc59 := ai_eq c59
          have u59f_a1 : a1.toInt ≤ (10 : Int) := Int.le_trans (Int.le_of_eq gc59) zq27
          have l59f_a1 : (10 : Int) ≤ a1.toInt := Int.le_trans zq26 (Int.le_of_eq gc59.symm)
          refine lv_aload_n hx hb dX8_size_62 rfl (lv_at hl 0 rfl) ?_
          refine va_get (D := (dC, dI)) (ci := 8) (v := .ref a0_17) (C := RX8) (T := TX8) (N := 40) hx hb hts zi_X8_size_8 hown hK hP 0 rfl rfl 17 (by decide) (hts (.fieldLink RX8 26 "WaxTurnsModel" "st" "[I") (List.mem_cons_of_mem _ (List.mem_append_left _ (List.mem_of_getElem? (i := 4) rfl)))) (fun _ h9 => h9) rfl dX8_size_63 ?_
          refine lv_bipush (v := 21) hx hb dX8_size_66 zk_bipush_21 ?_
          refine va_iald hx hb hK hP 2 1 rfl rfl (by unfold vp_in; decide +kernel) dX8_size_68 ?_
          refine lv_topi (fun x68 ex68 => ?_)
          refine lv_goto (tgt := 99) hx hb dX8_size_69 (by decide) ?_
          exact W.iret (v := x68) hx hb hr (fun t ht hW => ⟨⟨x68, (), rfl, trivial, 0, by rw [ht]; exact hP, va_K.moved hW.alike hK, hD⟩, hS.F ht⟩) hS.2.2 dX8_size_99
    · have gc20 := ai_eq c20
      have u20f_a0_14 : a0_14.toInt ≤ (0 : Int) := Int.le_trans (Int.le_of_eq gc20) zq6
      have l20f_a0_14 : (1 : Int) ≤ a0_14.toInt := ba0_14_l
      exact absurd (Int.le_trans l20f_a0_14 u20f_a0_14) (by decide)
  · have gc8 := ai_eq c8
    have u8f_a1 : a1.toInt ≤ (13 : Int) := Int.le_trans (Int.le_of_eq gc8) zq122
    have l8f_a1 : (13 : Int) ≤ a1.toInt := Int.le_trans zq121 (Int.le_of_eq gc8.symm)
    refine lv_aload_n hx hb dX8_size_11 rfl (lv_at hl 0 rfl) ?_
    refine va_get (D := (dC, dI)) (ci := 8) (v := .int a0_2) (C := RX8) (T := TX8) (N := 40) hx hb hts zi_X8_size_8 hown hK hP 0 rfl rfl 2 (by decide) (hts (.fieldLink RX8 65 "WaxTurnsModel" "taped" "I") (List.mem_cons_of_mem _ (List.mem_append_left _ (List.mem_of_getElem? (i := 1) rfl)))) (fun _ h9 => h9) rfl dX8_size_12 ?_
    exact W.iret (v := a0_2) hx hb hr (fun t ht hW => ⟨⟨a0_2, (), rfl, trivial, 0, by rw [ht]; exact hP, va_K.moved hW.alike hK, hD⟩, hS.F ht⟩) hS.2.2 dX8_size_15

set_option maxHeartbeats 4000000 in
set_option maxRecDepth 100000 in
theorem c_X8_trouble (l : Launch) (dC : Nat → ClassId) (dI : Nat → Nat → Nat) (sz : Nat) (a0 : Nat) (a0_0 : Int32) (a0g_1 a0g_2 a0g_3 a0g_4 a0g_5 a0g_6 a0g_7 a0g_8 a0g_9 a0g_10 a0g_12 a0g_13 a0g_14 a0g_15 a0g_16 a0g_17 a0g_18 a0g_19 a0g_20 a0g_21 a0g_22 a0g_23 a0g_24 a0g_25 a0g_26 a0g_27 a0g_28 a0g_29 a0g_30 a0g_31 a0g_32 a0g_33 a0g_34 a0g_35 a0g_36 a0g_37 a0g_38 a0g_39 : Value) (a0_11 : Int32)  : zm l yX8_trouble wsX8_trouble ({ frames := 0, cells := 0, slots := 0, locals := 0 }) [.ref a0] dC dI sz [(a0, .inr (8, [Value.int a0_0, a0g_1, a0g_2, a0g_3, a0g_4, a0g_5, a0g_6, a0g_7, a0g_8, a0g_9, a0g_10, Value.int a0_11, a0g_12, a0g_13, a0g_14, a0g_15, a0g_16, a0g_17, a0g_18, a0g_19, a0g_20, a0g_21, a0g_22, a0g_23, a0g_24, a0g_25, a0g_26, a0g_27, a0g_28, a0g_29, a0g_30, a0g_31, a0g_32, a0g_33, a0g_34, a0g_35, a0g_36, a0g_37, a0g_38, a0g_39]))] [] (fun A _ => True) (fun A => va_Qi (fun (r : Int32) (_ : Unit) => True) (fun (_ : Unit) (t : State) => ∃ na0_0 : Int32, ax_B dC dI A [(a0, .inr (8, [Value.int na0_0, a0g_1, a0g_2, a0g_3, a0g_4, a0g_5, a0g_6, a0g_7, a0g_8, a0g_9, a0g_10, Value.int a0_11, a0g_12, a0g_13, a0g_14, a0g_15, a0g_16, a0g_17, a0g_18, a0g_19, a0g_20, a0g_21, a0g_22, a0g_23, a0g_24, a0g_25, a0g_26, a0g_27, a0g_28, a0g_29, a0g_30, a0g_31, a0g_32, a0g_33, a0g_34, a0g_35, a0g_36, a0g_37, a0g_38, a0g_39]))] [] t) A) := by
  refine zh (cc := cX8_trouble) (maxL := 1) (ret := (some .int)) zn_RX8 rfl (Nat.le_of_ble_eq_true rfl) (fun p e s m below meth c A ls hx hb hml hr hts (hown : s.vm.findClass RX8 = some m.cls) hlocks hA hS hP hK hD hE (hl : lv_has ls 1 [(0, .ref a0)]) => ?_)
  refine lv_aload_n hx hb dX8_trouble_0 rfl (lv_at hl 0 rfl) ?_
  refine lv_iconst (v := 0) hx hb dX8_trouble_1 zk_iconst_0 ?_
  refine va_put (D := (dC, dI)) (ci := 8) (v := .int 0) (ty := .int) (C := RX8) (T := TX8) (N := 40) hx hb hts zi_X8_trouble_8 tyX8 tyX8_ok nmX8 hown hK hP hD hS 0 rfl rfl 0 (by decide) (hts (.fieldLink RX8 59 "WaxTurnsModel" "thrown" "I") (List.mem_cons_of_mem _ (List.mem_append_left _ (List.mem_of_getElem? (i := 0) rfl)))) (fun _ h9 => h9) rfl (tyX8_ok 0 (by decide)) rfl rfl (Nat.le_of_ble_eq_true rfl) dX8_trouble_2 (fun H locs hP hD hS => ?_)
  refine zs_0 (y := (a0, .inr (8, [Value.int 0, a0g_1, a0g_2, a0g_3, a0g_4, a0g_5, a0g_6, a0g_7, a0g_8, a0g_9, a0g_10, Value.int a0_11, a0g_12, a0g_13, a0g_14, a0g_15, a0g_16, a0g_17, a0g_18, a0g_19, a0g_20, a0g_21, a0g_22, a0g_23, a0g_24, a0g_25, a0g_26, a0g_27, a0g_28, a0g_29, a0g_30, a0g_31, a0g_32, a0g_33, a0g_34, a0g_35, a0g_36, a0g_37, a0g_38, a0g_39]))) hP hD rfl (fun hP hD => ?_)
  refine lv_aload_n hx hb dX8_trouble_5 rfl (lv_at hl 0 rfl) ?_
  refine va_get (D := (dC, dI)) (ci := 8) (v := .int a0_11) (C := RX8) (T := TX8) (N := 40) hx hb hts zi_X8_trouble_8 hown hK hP 0 rfl rfl 11 (by decide) (hts (.fieldLink RX8 62 "WaxTurnsModel" "trouble" "I") (List.mem_cons_of_mem _ (List.mem_append_left _ (List.mem_of_getElem? (i := 1) rfl)))) (fun _ h9 => h9) rfl dX8_trouble_6 ?_
  exact W.iret (v := a0_11) hx hb hr (fun t ht hW => ⟨⟨a0_11, (), rfl, trivial, 0, by rw [ht]; exact hP, va_K.moved hW.alike hK, hD⟩, hS.F ht⟩) hS.2.2 dX8_trouble_9

set_option maxHeartbeats 4000000 in
set_option maxRecDepth 100000 in
theorem c_X8_fault (l : Launch) (dC : Nat → ClassId) (dI : Nat → Nat → Nat) (sz : Nat) (a0 : Nat) (a0_0 : Int32) (a0g_1 a0g_2 a0g_3 a0g_4 a0g_5 a0g_6 a0g_7 a0g_8 a0g_10 a0g_11 a0g_12 a0g_13 a0g_14 a0g_15 a0g_16 a0g_17 a0g_18 a0g_19 a0g_20 a0g_21 a0g_22 a0g_23 a0g_24 a0g_25 a0g_26 a0g_27 a0g_28 a0g_29 a0g_30 a0g_31 a0g_32 a0g_33 a0g_34 a0g_35 a0g_36 a0g_37 a0g_38 a0g_39 : Value) (a0_9 : Int32)  : zm l yX8_fault wsX8_fault ({ frames := 0, cells := 0, slots := 0, locals := 0 }) [.ref a0] dC dI sz [(a0, .inr (8, [Value.int a0_0, a0g_1, a0g_2, a0g_3, a0g_4, a0g_5, a0g_6, a0g_7, a0g_8, Value.int a0_9, a0g_10, a0g_11, a0g_12, a0g_13, a0g_14, a0g_15, a0g_16, a0g_17, a0g_18, a0g_19, a0g_20, a0g_21, a0g_22, a0g_23, a0g_24, a0g_25, a0g_26, a0g_27, a0g_28, a0g_29, a0g_30, a0g_31, a0g_32, a0g_33, a0g_34, a0g_35, a0g_36, a0g_37, a0g_38, a0g_39]))] [] (fun A _ => True) (fun A => va_Qi (fun (r : Int32) (_ : Unit) => True) (fun (_ : Unit) (t : State) => ∃ na0_0 : Int32, ax_B dC dI A [(a0, .inr (8, [Value.int na0_0, a0g_1, a0g_2, a0g_3, a0g_4, a0g_5, a0g_6, a0g_7, a0g_8, Value.int a0_9, a0g_10, a0g_11, a0g_12, a0g_13, a0g_14, a0g_15, a0g_16, a0g_17, a0g_18, a0g_19, a0g_20, a0g_21, a0g_22, a0g_23, a0g_24, a0g_25, a0g_26, a0g_27, a0g_28, a0g_29, a0g_30, a0g_31, a0g_32, a0g_33, a0g_34, a0g_35, a0g_36, a0g_37, a0g_38, a0g_39]))] [] t) A) := by
  refine zh (cc := cX8_fault) (maxL := 1) (ret := (some .int)) zn_RX8 rfl (Nat.le_of_ble_eq_true rfl) (fun p e s m below meth c A ls hx hb hml hr hts (hown : s.vm.findClass RX8 = some m.cls) hlocks hA hS hP hK hD hE (hl : lv_has ls 1 [(0, .ref a0)]) => ?_)
  refine lv_aload_n hx hb dX8_fault_0 rfl (lv_at hl 0 rfl) ?_
  refine lv_iconst (v := 0) hx hb dX8_fault_1 zk_iconst_0 ?_
  refine va_put (D := (dC, dI)) (ci := 8) (v := .int 0) (ty := .int) (C := RX8) (T := TX8) (N := 40) hx hb hts zi_X8_fault_8 tyX8 tyX8_ok nmX8 hown hK hP hD hS 0 rfl rfl 0 (by decide) (hts (.fieldLink RX8 59 "WaxTurnsModel" "thrown" "I") (List.mem_cons_of_mem _ (List.mem_append_left _ (List.mem_of_getElem? (i := 0) rfl)))) (fun _ h9 => h9) rfl (tyX8_ok 0 (by decide)) rfl rfl (Nat.le_of_ble_eq_true rfl) dX8_fault_2 (fun H locs hP hD hS => ?_)
  refine zs_0 (y := (a0, .inr (8, [Value.int 0, a0g_1, a0g_2, a0g_3, a0g_4, a0g_5, a0g_6, a0g_7, a0g_8, Value.int a0_9, a0g_10, a0g_11, a0g_12, a0g_13, a0g_14, a0g_15, a0g_16, a0g_17, a0g_18, a0g_19, a0g_20, a0g_21, a0g_22, a0g_23, a0g_24, a0g_25, a0g_26, a0g_27, a0g_28, a0g_29, a0g_30, a0g_31, a0g_32, a0g_33, a0g_34, a0g_35, a0g_36, a0g_37, a0g_38, a0g_39]))) hP hD rfl (fun hP hD => ?_)
  refine lv_aload_n hx hb dX8_fault_5 rfl (lv_at hl 0 rfl) ?_
  refine va_get (D := (dC, dI)) (ci := 8) (v := .int a0_9) (C := RX8) (T := TX8) (N := 40) hx hb hts zi_X8_fault_8 hown hK hP 0 rfl rfl 9 (by decide) (hts (.fieldLink RX8 101 "WaxTurnsModel" "fault" "I") (List.mem_cons_of_mem _ (List.mem_append_left _ (List.mem_of_getElem? (i := 1) rfl)))) (fun _ h9 => h9) rfl dX8_fault_6 ?_
  exact W.iret (v := a0_9) hx hb hr (fun t ht hW => ⟨⟨a0_9, (), rfl, trivial, 0, by rw [ht]; exact hP, va_K.moved hW.alike hK, hD⟩, hS.F ht⟩) hS.2.2 dX8_fault_9

set_option maxHeartbeats 4000000 in
set_option maxRecDepth 100000 in
theorem c_X8_where (l : Launch) (dC : Nat → ClassId) (dI : Nat → Nat → Nat) (sz : Nat) (a0 : Nat) (a0_0 : Int32) (a0g_1 a0g_2 a0g_3 a0g_4 a0g_5 a0g_6 a0g_7 a0g_8 a0g_9 a0g_12 a0g_13 a0g_14 a0g_15 a0g_16 a0g_17 a0g_18 a0g_19 a0g_20 a0g_21 a0g_22 a0g_23 a0g_24 a0g_25 a0g_26 a0g_27 a0g_28 a0g_29 a0g_30 a0g_31 a0g_32 a0g_33 a0g_34 a0g_35 a0g_36 a0g_37 a0g_38 a0g_39 : Value) (a0_10 : Int32) (a0_11 : Int32)  : zm l yX8_where wsX8_where ({ frames := 0, cells := 0, slots := 0, locals := 0 }) [.ref a0] dC dI sz [(a0, .inr (8, [Value.int a0_0, a0g_1, a0g_2, a0g_3, a0g_4, a0g_5, a0g_6, a0g_7, a0g_8, a0g_9, Value.int a0_10, Value.int a0_11, a0g_12, a0g_13, a0g_14, a0g_15, a0g_16, a0g_17, a0g_18, a0g_19, a0g_20, a0g_21, a0g_22, a0g_23, a0g_24, a0g_25, a0g_26, a0g_27, a0g_28, a0g_29, a0g_30, a0g_31, a0g_32, a0g_33, a0g_34, a0g_35, a0g_36, a0g_37, a0g_38, a0g_39]))] [] (fun A _ => True) (fun A => va_Qi (fun (r : Int32) (_ : Unit) => True) (fun (_ : Unit) (t : State) => ∃ na0_0 : Int32, ax_B dC dI A [(a0, .inr (8, [Value.int na0_0, a0g_1, a0g_2, a0g_3, a0g_4, a0g_5, a0g_6, a0g_7, a0g_8, a0g_9, Value.int a0_10, Value.int a0_11, a0g_12, a0g_13, a0g_14, a0g_15, a0g_16, a0g_17, a0g_18, a0g_19, a0g_20, a0g_21, a0g_22, a0g_23, a0g_24, a0g_25, a0g_26, a0g_27, a0g_28, a0g_29, a0g_30, a0g_31, a0g_32, a0g_33, a0g_34, a0g_35, a0g_36, a0g_37, a0g_38, a0g_39]))] [] t) A) := by
  refine zh (cc := cX8_where) (maxL := 1) (ret := (some .int)) zn_RX8 rfl (Nat.le_of_ble_eq_true rfl) (fun p e s m below meth c A ls hx hb hml hr hts (hown : s.vm.findClass RX8 = some m.cls) hlocks hA hS hP hK hD hE (hl : lv_has ls 1 [(0, .ref a0)]) => ?_)
  refine lv_aload_n hx hb dX8_where_0 rfl (lv_at hl 0 rfl) ?_
  refine lv_iconst (v := 0) hx hb dX8_where_1 zk_iconst_0 ?_
  refine va_put (D := (dC, dI)) (ci := 8) (v := .int 0) (ty := .int) (C := RX8) (T := TX8) (N := 40) hx hb hts zi_X8_where_8 tyX8 tyX8_ok nmX8 hown hK hP hD hS 0 rfl rfl 0 (by decide) (hts (.fieldLink RX8 59 "WaxTurnsModel" "thrown" "I") (List.mem_cons_of_mem _ (List.mem_append_left _ (List.mem_of_getElem? (i := 0) rfl)))) (fun _ h9 => h9) rfl (tyX8_ok 0 (by decide)) rfl rfl (Nat.le_of_ble_eq_true rfl) dX8_where_2 (fun H locs hP hD hS => ?_)
  refine zs_0 (y := (a0, .inr (8, [Value.int 0, a0g_1, a0g_2, a0g_3, a0g_4, a0g_5, a0g_6, a0g_7, a0g_8, a0g_9, Value.int a0_10, Value.int a0_11, a0g_12, a0g_13, a0g_14, a0g_15, a0g_16, a0g_17, a0g_18, a0g_19, a0g_20, a0g_21, a0g_22, a0g_23, a0g_24, a0g_25, a0g_26, a0g_27, a0g_28, a0g_29, a0g_30, a0g_31, a0g_32, a0g_33, a0g_34, a0g_35, a0g_36, a0g_37, a0g_38, a0g_39]))) hP hD rfl (fun hP hD => ?_)
  refine lv_aload_n hx hb dX8_where_5 rfl (lv_at hl 0 rfl) ?_
  refine va_get (D := (dC, dI)) (ci := 8) (v := .int a0_11) (C := RX8) (T := TX8) (N := 40) hx hb hts zi_X8_where_8 hown hK hP 0 rfl rfl 11 (by decide) (hts (.fieldLink RX8 62 "WaxTurnsModel" "trouble" "I") (List.mem_cons_of_mem _ (List.mem_append_left _ (List.mem_of_getElem? (i := 1) rfl)))) (fun _ h9 => h9) rfl dX8_where_6 ?_
  refine lv_iconst (v := 4) hx hb dX8_where_9 zk_iconst_4 ?_
  refine lv_icmp_ne (tgt := 20) hx hb dX8_where_10 (by decide) (fun c10 => ?_) (fun c10 => ?_)
  · have gc10 := ai_ne c10
    refine lv_iconst (v := (-1)) hx hb dX8_where_20 zk_iconst_n1 ?_
    exact W.iret (v := (-1)) hx hb hr (fun t ht hW => ⟨⟨(-1), (), rfl, trivial, 0, by rw [ht]; exact hP, va_K.moved hW.alike hK, hD⟩, hS.F ht⟩) hS.2.2 dX8_where_21
  · have gc10 := ai_eq c10
    have u10f_a0_11 : a0_11.toInt ≤ (4 : Int) := Int.le_trans (Int.le_of_eq gc10) zq67
    have l10f_a0_11 : (4 : Int) ≤ a0_11.toInt := Int.le_trans zq68 (Int.le_of_eq gc10.symm)
    refine lv_aload_n hx hb dX8_where_13 rfl (lv_at hl 0 rfl) ?_
    refine va_get (D := (dC, dI)) (ci := 8) (v := .int a0_10) (C := RX8) (T := TX8) (N := 40) hx hb hts zi_X8_where_8 hown hK hP 0 rfl rfl 10 (by decide) (hts (.fieldLink RX8 13 "WaxTurnsModel" "place" "I") (List.mem_cons_of_mem _ (List.mem_append_left _ (List.mem_of_getElem? (i := 2) rfl)))) (fun _ h9 => h9) rfl dX8_where_14 ?_
    refine lv_goto (tgt := 21) hx hb dX8_where_17 (by decide) ?_
    exact W.iret (v := a0_10) hx hb hr (fun t ht hW => ⟨⟨a0_10, (), rfl, trivial, 0, by rw [ht]; exact hP, va_K.moved hW.alike hK, hD⟩, hS.F ht⟩) hS.2.2 dX8_where_21
end P270_02_safe
section P280_00_safe
set_option maxHeartbeats 4000000 in
set_option maxRecDepth 100000 in
theorem c0_X8_isFigure (l : Launch) (dC : Nat → ClassId) (dI : Nat → Nat → Nat) (sz : Nat) (a0 : Nat) (a1 : Int32) (a0g_0 a0g_1 a0g_2 a0g_3 a0g_4 a0g_5 a0g_6 a0g_7 a0g_8 a0g_9 a0g_10 a0g_11 a0g_12 a0g_13 a0g_15 a0g_16 a0g_17 a0g_18 a0g_19 a0g_20 a0g_21 a0g_22 a0g_23 a0g_24 a0g_25 a0g_26 a0g_27 a0g_28 a0g_29 a0g_30 a0g_31 a0g_32 a0g_33 a0g_34 a0g_35 a0g_36 a0g_37 a0g_38 a0g_39 : Value) (a0_14 : Int32) (ba0_14_l : (0 : Int) ≤ a0_14.toInt) (ba0_14_u : a0_14.toInt ≤ (0 : Int)) : zm l yX8_isFigure wsX8_isFigure ({ frames := 0, cells := 0, slots := 0, locals := 0 }) [.ref a0, .int a1] dC dI sz [(a0, .inr (8, [a0g_0, a0g_1, a0g_2, a0g_3, a0g_4, a0g_5, a0g_6, a0g_7, a0g_8, a0g_9, a0g_10, a0g_11, a0g_12, a0g_13, Value.int a0_14, a0g_15, a0g_16, a0g_17, a0g_18, a0g_19, a0g_20, a0g_21, a0g_22, a0g_23, a0g_24, a0g_25, a0g_26, a0g_27, a0g_28, a0g_29, a0g_30, a0g_31, a0g_32, a0g_33, a0g_34, a0g_35, a0g_36, a0g_37, a0g_38, a0g_39]))] [] (fun A _ => True) (fun A => va_Qi (fun (r : Int32) (_ : Unit) => r = 0) (fun (_ : Unit) (t : State) => ax_B dC dI A [(a0, .inr (8, [a0g_0, a0g_1, a0g_2, a0g_3, a0g_4, a0g_5, a0g_6, a0g_7, a0g_8, a0g_9, a0g_10, a0g_11, a0g_12, a0g_13, Value.int a0_14, a0g_15, a0g_16, a0g_17, a0g_18, a0g_19, a0g_20, a0g_21, a0g_22, a0g_23, a0g_24, a0g_25, a0g_26, a0g_27, a0g_28, a0g_29, a0g_30, a0g_31, a0g_32, a0g_33, a0g_34, a0g_35, a0g_36, a0g_37, a0g_38, a0g_39]))] [] t) A) := by
  refine zh (cc := cX8_isFigure) (maxL := 2) (ret := (some .boolean)) zn_RX8 rfl (Nat.le_of_ble_eq_true rfl) (fun p e s m below meth c A ls hx hb hml hr hts (hown : s.vm.findClass RX8 = some m.cls) hlocks hA hS hP hK hD hE (hl : lv_has ls 2 [(0, .ref a0), (1, .int a1)]) => ?_)
  refine lv_aload_n hx hb dX8_isFigure_0 rfl (lv_at hl 0 rfl) ?_
  refine va_get (D := (dC, dI)) (ci := 8) (v := .int a0_14) (C := RX8) (T := TX8) (N := 40) hx hb hts zi_X8_isFigure_8 hown hK hP 0 rfl rfl 14 (by decide) (hts (.fieldLink RX8 173 "WaxTurnsModel" "hasGallery" "Z") (List.mem_cons_of_mem _ (List.mem_append_left _ (List.mem_of_getElem? (i := 0) rfl)))) (fun _ h9 => h9) rfl dX8_isFigure_1 ?_
  refine lv_if_eq (tgt := 27) hx hb dX8_isFigure_4 (by decide) (fun c4 => ?_) (fun c4 => ?_)
  · have gc4 := ai_eq c4
    have u4t_a0_14 : a0_14.toInt ≤ (0 : Int) := ba0_14_u
    have l4t_a0_14 : (0 : Int) ≤ a0_14.toInt := ba0_14_l
    refine lv_iconst (v := 0) hx hb dX8_isFigure_27 zk_iconst_0 ?_
    exact W.zret (v := 0) hx hb hr rfl (fun t ht hW => ⟨⟨0, (), rfl, rfl, by rw [ht]; exact hP, va_K.moved hW.alike hK, hD⟩, hS.F ht⟩) hS.2.2 dX8_isFigure_28
  · have gc4 := ai_ne c4
    have l4f_a0_14 : (1 : Int) ≤ a0_14.toInt := (by first | exact zg_l ba0_14_l gc4 (by decide) (by decide) | (have h1 := ba0_14_l; have h2 : (0 : Int32).toInt = 0 := (by decide); rw [h2] at gc4; omega))
    have u4f_a0_14 : a0_14.toInt ≤ (-1 : Int) := (by first | exact zg_u ba0_14_u gc4 (by decide) (by decide) | (have h1 := ba0_14_u; have h2 : (0 : Int32).toInt = 0 := (by decide); rw [h2] at gc4; omega))
    exact absurd (Int.le_trans l4f_a0_14 u4f_a0_14) (by decide)

set_option maxHeartbeats 4000000 in
set_option maxRecDepth 100000 in
theorem c0_X8_isWatcher (l : Launch) (dC : Nat → ClassId) (dI : Nat → Nat → Nat) (sz : Nat) (a0 : Nat) (a1 : Int32) (a0g_0 a0g_1 a0g_2 a0g_3 a0g_4 a0g_5 a0g_6 a0g_7 a0g_8 a0g_9 a0g_10 a0g_11 a0g_12 a0g_13 a0g_15 a0g_16 a0g_17 a0g_18 a0g_19 a0g_20 a0g_21 a0g_22 a0g_23 a0g_24 a0g_25 a0g_26 a0g_27 a0g_28 a0g_29 a0g_30 a0g_31 a0g_32 a0g_33 a0g_34 a0g_35 a0g_36 a0g_37 a0g_38 a0g_39 : Value) (a0_14 : Int32) (ba0_14_l : (0 : Int) ≤ a0_14.toInt) (ba0_14_u : a0_14.toInt ≤ (0 : Int)) : zm l yX8_isWatcher wsX8_isWatcher ({ frames := 0, cells := 0, slots := 0, locals := 0 }) [.ref a0, .int a1] dC dI sz [(a0, .inr (8, [a0g_0, a0g_1, a0g_2, a0g_3, a0g_4, a0g_5, a0g_6, a0g_7, a0g_8, a0g_9, a0g_10, a0g_11, a0g_12, a0g_13, Value.int a0_14, a0g_15, a0g_16, a0g_17, a0g_18, a0g_19, a0g_20, a0g_21, a0g_22, a0g_23, a0g_24, a0g_25, a0g_26, a0g_27, a0g_28, a0g_29, a0g_30, a0g_31, a0g_32, a0g_33, a0g_34, a0g_35, a0g_36, a0g_37, a0g_38, a0g_39]))] [] (fun A _ => True) (fun A => va_Qi (fun (r : Int32) (_ : Unit) => r = 0) (fun (_ : Unit) (t : State) => ax_B dC dI A [(a0, .inr (8, [a0g_0, a0g_1, a0g_2, a0g_3, a0g_4, a0g_5, a0g_6, a0g_7, a0g_8, a0g_9, a0g_10, a0g_11, a0g_12, a0g_13, Value.int a0_14, a0g_15, a0g_16, a0g_17, a0g_18, a0g_19, a0g_20, a0g_21, a0g_22, a0g_23, a0g_24, a0g_25, a0g_26, a0g_27, a0g_28, a0g_29, a0g_30, a0g_31, a0g_32, a0g_33, a0g_34, a0g_35, a0g_36, a0g_37, a0g_38, a0g_39]))] [] t) A) := by
  refine zh (cc := cX8_isWatcher) (maxL := 2) (ret := (some .boolean)) zn_RX8 rfl (Nat.le_of_ble_eq_true rfl) (fun p e s m below meth c A ls hx hb hml hr hts (hown : s.vm.findClass RX8 = some m.cls) hlocks hA hS hP hK hD hE (hl : lv_has ls 2 [(0, .ref a0), (1, .int a1)]) => ?_)
  refine lv_aload_n hx hb dX8_isWatcher_0 rfl (lv_at hl 0 rfl) ?_
  refine va_get (D := (dC, dI)) (ci := 8) (v := .int a0_14) (C := RX8) (T := TX8) (N := 40) hx hb hts zi_X8_isWatcher_8 hown hK hP 0 rfl rfl 14 (by decide) (hts (.fieldLink RX8 173 "WaxTurnsModel" "hasGallery" "Z") (List.mem_cons_of_mem _ (List.mem_append_left _ (List.mem_of_getElem? (i := 0) rfl)))) (fun _ h9 => h9) rfl dX8_isWatcher_1 ?_
  refine lv_if_eq (tgt := 27) hx hb dX8_isWatcher_4 (by decide) (fun c4 => ?_) (fun c4 => ?_)
  · have gc4 := ai_eq c4
    have u4t_a0_14 : a0_14.toInt ≤ (0 : Int) := ba0_14_u
    have l4t_a0_14 : (0 : Int) ≤ a0_14.toInt := ba0_14_l
    refine lv_iconst (v := 0) hx hb dX8_isWatcher_27 zk_iconst_0 ?_
    exact W.zret (v := 0) hx hb hr rfl (fun t ht hW => ⟨⟨0, (), rfl, rfl, by rw [ht]; exact hP, va_K.moved hW.alike hK, hD⟩, hS.F ht⟩) hS.2.2 dX8_isWatcher_28
  · have gc4 := ai_ne c4
    have l4f_a0_14 : (1 : Int) ≤ a0_14.toInt := (by first | exact zg_l ba0_14_l gc4 (by decide) (by decide) | (have h1 := ba0_14_l; have h2 : (0 : Int32).toInt = 0 := (by decide); rw [h2] at gc4; omega))
    have u4f_a0_14 : a0_14.toInt ≤ (-1 : Int) := (by first | exact zg_u ba0_14_u gc4 (by decide) (by decide) | (have h1 := ba0_14_u; have h2 : (0 : Int32).toInt = 0 := (by decide); rw [h2] at gc4; omega))
    exact absurd (Int.le_trans l4f_a0_14 u4f_a0_14) (by decide)

set_option maxHeartbeats 4000000 in
set_option maxRecDepth 100000 in
theorem c0_X8_routeWhy (l : Launch) (dC : Nat → ClassId) (dI : Nat → Nat → Nat) (sz : Nat) (a0 : Nat) (a1 : Int32) (a2 : Int32) (a0g_0 a0g_1 a0g_2 a0g_3 a0g_4 a0g_5 a0g_6 a0g_7 a0g_8 a0g_9 a0g_10 a0g_11 a0g_12 a0g_13 a0g_15 a0g_16 a0g_17 a0g_18 a0g_19 a0g_20 a0g_21 a0g_22 a0g_23 a0g_24 a0g_25 a0g_26 a0g_27 a0g_28 a0g_29 a0g_30 a0g_31 a0g_32 a0g_33 a0g_34 a0g_35 a0g_36 a0g_37 a0g_38 a0g_39 : Value) (a0_14 : Int32) (ba0_14_l : (0 : Int) ≤ a0_14.toInt) (ba0_14_u : a0_14.toInt ≤ (0 : Int)) : zm l yX8_routeWhy wsX8_routeWhy ({ frames := 1, cells := 0, slots := 0, locals := 22 }) [.ref a0, .int a1, .int a2] dC dI sz [(a0, .inr (8, [a0g_0, a0g_1, a0g_2, a0g_3, a0g_4, a0g_5, a0g_6, a0g_7, a0g_8, a0g_9, a0g_10, a0g_11, a0g_12, a0g_13, Value.int a0_14, a0g_15, a0g_16, a0g_17, a0g_18, a0g_19, a0g_20, a0g_21, a0g_22, a0g_23, a0g_24, a0g_25, a0g_26, a0g_27, a0g_28, a0g_29, a0g_30, a0g_31, a0g_32, a0g_33, a0g_34, a0g_35, a0g_36, a0g_37, a0g_38, a0g_39]))] [] (fun A _ => True) (fun A => va_Qi (fun (r : Int32) (_ : Unit) => r = 1) (fun (_ : Unit) (t : State) => ax_B dC dI A [(a0, .inr (8, [a0g_0, a0g_1, a0g_2, a0g_3, a0g_4, a0g_5, a0g_6, a0g_7, a0g_8, a0g_9, a0g_10, a0g_11, a0g_12, a0g_13, Value.int a0_14, a0g_15, a0g_16, a0g_17, a0g_18, a0g_19, a0g_20, a0g_21, a0g_22, a0g_23, a0g_24, a0g_25, a0g_26, a0g_27, a0g_28, a0g_29, a0g_30, a0g_31, a0g_32, a0g_33, a0g_34, a0g_35, a0g_36, a0g_37, a0g_38, a0g_39]))] [] t) A) := by
  refine zh (cc := cX8_routeWhy) (maxL := 3) (ret := (some .int)) zn_RX8 rfl (Nat.le_of_ble_eq_true rfl) (fun p e s m below meth c A ls hx hb hml hr hts (hown : s.vm.findClass RX8 = some m.cls) hlocks hA hS hP hK hD hE (hl : lv_has ls 3 [(0, .ref a0), (1, .int a1), (2, .int a2)]) => ?_)
  refine lv_aload_n hx hb dX8_routeWhy_0 rfl (lv_at hl 0 rfl) ?_
  refine lv_aload_n hx hb dX8_routeWhy_1 rfl (lv_at hl 0 rfl) ?_
  refine lv_iload_n hx hb dX8_routeWhy_2 rfl (lv_at hl 1 rfl) ?_
  refine va_calli (va_runV (As := [.int a1]) (rest := [.ref a0]) ⟨hx, hb, hml, hown, hts⟩ (c0_X8_isFigure l dC dI s.heap.size a0 a1 a0g_0 a0g_1 a0g_2 a0g_3 a0g_4 a0g_5 a0g_6 a0g_7 a0g_8 a0g_9 a0g_10 a0g_11 a0g_12 a0g_13 a0g_15 a0g_16 a0g_17 a0g_18 a0g_19 a0g_20 a0g_21 a0g_22 a0g_23 a0g_24 a0g_25 a0g_26 a0g_27 a0g_28 a0g_29 a0g_30 a0g_31 a0g_32 a0g_33 a0g_34 a0g_35 a0g_36 a0g_37 a0g_38 a0g_39 a0_14 ba0_14_l ba0_14_u) (cwV 1 hts gX8_routeWhy_X8_isFigure rfl rfl rfl zd_X8_isFigure ⟨Nat.le_of_ble_eq_true rfl, Nat.le_of_ble_eq_true rfl⟩) ⟨ax_blind (fun _ _ _ _ _ => trivial), zr_8 (zp_K hK) (zp_P1 hP) (q0 := 0) rfl, ax_pre (zp_P1 hP) (zp_K hK) (zp_D1 hD) (fun _ _ => trivial)⟩ rfl rfl hl.1 rfl (lv_room (Nat.le_of_ble_eq_true rfl)) dX8_routeWhy_3 ⟨Nat.le_of_ble_eq_true rfl, Nat.le_of_ble_eq_true rfl⟩) hS (fun q _ h => zp_F1 hD hS hA q h) (zp_F1 hD hS hA) (fun r3 u t H locs ht hvm hw hB hz1 hk1 hS1 => zo1 hB ht hP hD hk1 (zp_F1 hD hS hA) hS1 (fun hP hK1 hD hS => ?_))
  have hw : r3 = 0 := hw
  have hw := hw.symm
  subst hw
  refine lv_iload_n hx hb dX8_routeWhy_6 rfl (lv_at hl 2 rfl) ?_
  refine lv_iconst (v := 1) hx hb dX8_routeWhy_7 zk_iconst_1 ?_
  refine lv_bipush (v := 60) hx hb dX8_routeWhy_8 zk_bipush_60 ?_
  refine va_calli (va_runS (As := [.int a2, .int 1, .int 60]) (rest := [.int 0, .ref a0]) ⟨hx, hb, hml, hown, hts⟩ (c_X8_in l dC dI H.size a2 1 60 ) (va_cwS 3 hts gX8_routeWhy_X8_in rfl rfl rfl zd_X8_in.2 ⟨Nat.le_of_ble_eq_true rfl, Nat.le_of_ble_eq_true rfl⟩) ⟨ax_blind (fun _ _ _ _ _ => trivial), ax_pre (zp_P0 hP) (zp_K hK) (zp_D0 hD) (fun _ _ => trivial)⟩ rfl rfl hl.1 rfl (lv_room (Nat.le_of_ble_eq_true rfl)) dX8_routeWhy_10 ⟨Nat.le_of_ble_eq_true rfl, Nat.le_of_ble_eq_true rfl⟩) hS (fun q _ h => zp_F0 hD hS hA q h) (zp_F0 hD hS hA) (fun r10 u t H locs ht hvm hw hB hz1 hk1 hS1 => zo0 hB ht hP hD hk1 (zp_F0 hD hS hA) hS1 (fun hP hK1 hD hS => ?_))
  rcases hw with hw | hw
  · obtain ⟨hw, h10⟩ := hw
    subst hw
    have l10k0_a2 : (1 : Int) ≤ a2.toInt := Int.le_trans zq1 h10.1
    have u10k0_a2 : a2.toInt ≤ (60 : Int) := Int.le_trans h10.2 zq46
    refine va_calli (va_runV (As := [.int 0, .int 1]) (rest := []) ⟨hx, hb, hml, hown, hts⟩ (c_X8_whyB l dC dI H.size a0 0 1 a0g_0 a0g_1 a0g_2 a0g_3 a0g_4 a0g_5 a0g_6 a0g_7 a0g_8 a0g_9 a0g_10 a0g_11 a0g_12 a0g_13 (Value.int a0_14) a0g_15 a0g_16 a0g_17 a0g_18 a0g_19 a0g_20 a0g_21 a0g_22 a0g_23 a0g_24 a0g_25 a0g_26 a0g_27 a0g_28 a0g_29 a0g_30 a0g_31 a0g_32 a0g_33 a0g_34 a0g_35 a0g_36 a0g_37 a0g_38 a0g_39 zq5 (Int.le_trans zq6 zq4) (Int.le_trans zq4 zq1) zq0) (cwV 2 hts gX8_routeWhy_X8_why rfl rfl rfl zd_X8_why ⟨Nat.le_of_ble_eq_true rfl, Nat.le_of_ble_eq_true rfl⟩) ⟨ax_blind (fun _ _ _ _ _ => trivial), zr_8 (zp_K hK) (zp_P1 hP) (q0 := 0) rfl, ax_pre (zp_P1 hP) (zp_K hK) (zp_D1 hD) (fun _ _ => trivial)⟩ rfl rfl hl.1 rfl (lv_room (Nat.le_of_ble_eq_true rfl)) dX8_routeWhy_13 ⟨Nat.le_of_ble_eq_true rfl, Nat.le_of_ble_eq_true rfl⟩) hS (fun q _ h => zp_F1 hD hS hA q h) (zp_F1 hD hS hA) (fun r13 u t H locs ht hvm hw hB hz1 hk1 hS1 => zo1 hB ht hP hD hk1 (zp_F1 hD hS hA) hS1 (fun hP hK1 hD hS => ?_))
    rcases hw with hw | hw | hw
    · obtain ⟨hw, h13_0, h13_1, h13_2, h13_3⟩ := hw
      subst hw
      exact absurd h13_0 (by decide)
    · obtain ⟨hw, h13_0, h13_1⟩ := hw
      subst hw
      exact W.iret (v := 1) hx hb hr (fun t ht hW => ⟨⟨1, (), rfl, rfl, by rw [ht]; exact hP, va_K.moved hW.alike hK, hD⟩, hS.F ht⟩) hS.2.2 dX8_routeWhy_16
    · obtain ⟨hw, h13_0, h13_1, h13_2, h13_3⟩ := hw
      subst hw
      exact absurd h13_0 (by decide)
  · obtain ⟨hw, h10⟩ := hw
    subst hw
    refine va_calli (va_runV (As := [.int 0, .int 0]) (rest := []) ⟨hx, hb, hml, hown, hts⟩ (c_X8_whyB l dC dI H.size a0 0 0 a0g_0 a0g_1 a0g_2 a0g_3 a0g_4 a0g_5 a0g_6 a0g_7 a0g_8 a0g_9 a0g_10 a0g_11 a0g_12 a0g_13 (Value.int a0_14) a0g_15 a0g_16 a0g_17 a0g_18 a0g_19 a0g_20 a0g_21 a0g_22 a0g_23 a0g_24 a0g_25 a0g_26 a0g_27 a0g_28 a0g_29 a0g_30 a0g_31 a0g_32 a0g_33 a0g_34 a0g_35 a0g_36 a0g_37 a0g_38 a0g_39 zq5 (Int.le_trans zq6 zq4) zq5 (Int.le_trans zq6 zq4)) (cwV 2 hts gX8_routeWhy_X8_why rfl rfl rfl zd_X8_why ⟨Nat.le_of_ble_eq_true rfl, Nat.le_of_ble_eq_true rfl⟩) ⟨ax_blind (fun _ _ _ _ _ => trivial), zr_8 (zp_K hK) (zp_P1 hP) (q0 := 0) rfl, ax_pre (zp_P1 hP) (zp_K hK) (zp_D1 hD) (fun _ _ => trivial)⟩ rfl rfl hl.1 rfl (lv_room (Nat.le_of_ble_eq_true rfl)) dX8_routeWhy_13 ⟨Nat.le_of_ble_eq_true rfl, Nat.le_of_ble_eq_true rfl⟩) hS (fun q _ h => zp_F1 hD hS hA q h) (zp_F1 hD hS hA) (fun r13 u t H locs ht hvm hw hB hz1 hk1 hS1 => zo1 hB ht hP hD hk1 (zp_F1 hD hS hA) hS1 (fun hP hK1 hD hS => ?_))
    rcases hw with hw | hw | hw
    · obtain ⟨hw, h13_0, h13_1, h13_2, h13_3⟩ := hw
      subst hw
      exact absurd h13_0 (by decide)
    · obtain ⟨hw, h13_0, h13_1⟩ := hw
      subst hw
      exact W.iret (v := 1) hx hb hr (fun t ht hW => ⟨⟨1, (), rfl, rfl, by rw [ht]; exact hP, va_K.moved hW.alike hK, hD⟩, hS.F ht⟩) hS.2.2 dX8_routeWhy_16
    · obtain ⟨hw, h13_0, h13_1, h13_2, h13_3⟩ := hw
      subst hw
      exact absurd h13_0 (by decide)

set_option maxHeartbeats 4000000 in
set_option maxRecDepth 100000 in
theorem c0_X8_drawWhy (l : Launch) (dC : Nat → ClassId) (dI : Nat → Nat → Nat) (sz : Nat) (a0 : Nat) (a1 : Int32) (a2 : Int32) (a3 : Int32) (a4 : Int32) (a0g_0 a0g_1 a0g_2 a0g_3 a0g_4 a0g_5 a0g_6 a0g_7 a0g_8 a0g_9 a0g_10 a0g_11 a0g_12 a0g_13 a0g_14 a0g_15 a0g_16 a0g_17 a0g_18 a0g_19 a0g_20 a0g_21 a0g_22 a0g_23 a0g_24 a0g_25 a0g_26 a0g_27 a0g_28 a0g_29 a0g_30 a0g_31 a0g_32 a0g_33 a0g_34 a0g_35 a0g_36 a0g_37 a0g_38 a0g_39 : Value) (ba1_l : (0 : Int) ≤ a1.toInt) (ba1_u : a1.toInt ≤ (0 : Int)) : zm l yX8_drawWhy wsX8_drawWhy ({ frames := 1, cells := 0, slots := 0, locals := 22 }) [.ref a0, .int a1, .int a2, .int a3, .int a4] dC dI sz [(a0, .inr (8, [a0g_0, a0g_1, a0g_2, a0g_3, a0g_4, a0g_5, a0g_6, a0g_7, a0g_8, a0g_9, a0g_10, a0g_11, a0g_12, a0g_13, a0g_14, a0g_15, a0g_16, a0g_17, a0g_18, a0g_19, a0g_20, a0g_21, a0g_22, a0g_23, a0g_24, a0g_25, a0g_26, a0g_27, a0g_28, a0g_29, a0g_30, a0g_31, a0g_32, a0g_33, a0g_34, a0g_35, a0g_36, a0g_37, a0g_38, a0g_39]))] [] (fun A _ => True) (fun A => va_Qi (fun (r : Int32) (_ : Unit) => r = 1) (fun (_ : Unit) (t : State) => ax_B dC dI A [(a0, .inr (8, [a0g_0, a0g_1, a0g_2, a0g_3, a0g_4, a0g_5, a0g_6, a0g_7, a0g_8, a0g_9, a0g_10, a0g_11, a0g_12, a0g_13, a0g_14, a0g_15, a0g_16, a0g_17, a0g_18, a0g_19, a0g_20, a0g_21, a0g_22, a0g_23, a0g_24, a0g_25, a0g_26, a0g_27, a0g_28, a0g_29, a0g_30, a0g_31, a0g_32, a0g_33, a0g_34, a0g_35, a0g_36, a0g_37, a0g_38, a0g_39]))] [] t) A) := by
  refine zh (cc := cX8_drawWhy) (maxL := 9) (ret := (some .int)) zn_RX8 rfl (Nat.le_of_ble_eq_true rfl) (fun p e s m below meth c A ls hx hb hml hr hts (hown : s.vm.findClass RX8 = some m.cls) hlocks hA hS hP hK hD hE (hl : lv_has ls 9 [(0, .ref a0), (1, .int a1), (2, .int a2), (3, .int a3), (4, .int a4)]) => ?_)
  refine ai_open (fun K hK0 => ?_)
  refine (hK0 _ _ _).mpr ?_
  refine lv_aload_n hx hb dX8_drawWhy_0 rfl (lv_at hl 0 rfl) ?_
  refine lv_iload_n hx hb dX8_drawWhy_1 rfl (lv_at hl 1 rfl) ?_
  refine lv_iload_n hx hb dX8_drawWhy_2 rfl (lv_at hl 3 rfl) ?_
  refine lv_iconst (v := 0) hx hb dX8_drawWhy_3 zk_iconst_0 ?_
  refine lv_ldcw (v := 65536) hx hb hown (hts (.constant RX8 374 (65536)) (zm_X8_drawWhy_r1 (List.mem_of_getElem? (i := 0) rfl))) dX8_drawWhy_4 ?_
  refine va_calli (va_runS (As := [.int a3, .int 0, .int 65536]) (rest := [.int a1, .ref a0]) ⟨hx, hb, hml, hown, hts⟩ (c_X8_in l dC dI s.heap.size a3 0 65536 ) (va_cwS 3 hts gX8_drawWhy_X8_in rfl rfl rfl zd_X8_in.2 ⟨Nat.le_of_ble_eq_true rfl, Nat.le_of_ble_eq_true rfl⟩) ⟨ax_blind (fun _ _ _ _ _ => trivial), ax_pre (zp_P0 hP) (zp_K hK) (zp_D0 hD) (fun _ _ => trivial)⟩ rfl rfl hl.1 rfl (lv_room (Nat.le_of_ble_eq_true rfl)) dX8_drawWhy_7 ⟨Nat.le_of_ble_eq_true rfl, Nat.le_of_ble_eq_true rfl⟩) hS (fun q _ h => zp_F0 hD hS hA q h) (zp_F0 hD hS hA) (fun r7 u t H locs ht hvm hw hB hz1 hk1 hS1 => zo0 hB ht hP hD hk1 (zp_F0 hD hS hA) hS1 (fun hP hK1 hD hS => ?_))
  rcases hw with hw | hw
  · obtain ⟨hw, h7⟩ := hw
    subst hw
    have l7k0_a3 : (0 : Int) ≤ a3.toInt := Int.le_trans zq5 h7.1
    have u7k0_a3 : a3.toInt ≤ (65536 : Int) := Int.le_trans h7.2 zq105
    refine lv_if_eq (tgt := 29) hx hb dX8_drawWhy_10 (by decide) (fun c10 => absurd c10 (by decide +kernel)) (fun _ => ?_)
    refine lv_iload hx hb dX8_drawWhy_13 (lv_at hl 4 rfl) ?_
    refine lv_iconst (v := 0) hx hb dX8_drawWhy_15 zk_iconst_0 ?_
    refine lv_sipush (v := 200) hx hb dX8_drawWhy_16 zk_sipush_200 ?_
    refine va_calli (va_runS (As := [.int a4, .int 0, .int 200]) (rest := [.int a1, .ref a0]) ⟨hx, hb, hml, hown, hts⟩ (c_X8_in l dC dI H.size a4 0 200 ) (va_cwS 3 hts gX8_drawWhy_X8_in rfl rfl rfl zd_X8_in.2 ⟨Nat.le_of_ble_eq_true rfl, Nat.le_of_ble_eq_true rfl⟩) ⟨ax_blind (fun _ _ _ _ _ => trivial), ax_pre (zp_P0 hP) (zp_K hK) (zp_D0 hD) (fun _ _ => trivial)⟩ rfl rfl hl.1 rfl (lv_room (Nat.le_of_ble_eq_true rfl)) dX8_drawWhy_19 ⟨Nat.le_of_ble_eq_true rfl, Nat.le_of_ble_eq_true rfl⟩) hS (fun q _ h => zp_F0 hD hS hA q h) (zp_F0 hD hS hA) (fun r19 u t H locs ht hvm hw hB hz1 hk1 hS1 => zo0 hB ht hP hD hk1 (zp_F0 hD hS hA) hS1 (fun hP hK1 hD hS => ?_))
    rcases hw with hw | hw
    · obtain ⟨hw, h19⟩ := hw
      subst hw
      have l19k0_a4 : (0 : Int) ≤ a4.toInt := Int.le_trans zq5 h19.1
      have u19k0_a4 : a4.toInt ≤ (200 : Int) := Int.le_trans h19.2 zq65
      refine lv_if_eq (tgt := 29) hx hb dX8_drawWhy_22 (by decide) (fun c22 => absurd c22 (by decide +kernel)) (fun _ => ?_)
      refine lv_iconst (v := 1) hx hb dX8_drawWhy_25 zk_iconst_1 ?_
      refine lv_goto (tgt := 30) hx hb dX8_drawWhy_26 (by decide) ?_
      refine va_calli (va_runV (As := [.int a1, .int 1]) (rest := []) ⟨hx, hb, hml, hown, hts⟩ (c_X8_whyB l dC dI H.size a0 a1 1 a0g_0 a0g_1 a0g_2 a0g_3 a0g_4 a0g_5 a0g_6 a0g_7 a0g_8 a0g_9 a0g_10 a0g_11 a0g_12 a0g_13 a0g_14 a0g_15 a0g_16 a0g_17 a0g_18 a0g_19 a0g_20 a0g_21 a0g_22 a0g_23 a0g_24 a0g_25 a0g_26 a0g_27 a0g_28 a0g_29 a0g_30 a0g_31 a0g_32 a0g_33 a0g_34 a0g_35 a0g_36 a0g_37 a0g_38 a0g_39 ba1_l (Int.le_trans ba1_u zq4) (Int.le_trans zq4 zq1) zq0) (cwV 2 hts gX8_drawWhy_X8_why rfl rfl rfl zd_X8_why ⟨Nat.le_of_ble_eq_true rfl, Nat.le_of_ble_eq_true rfl⟩) ⟨ax_blind (fun _ _ _ _ _ => trivial), zr_8 (zp_K hK) (zp_P1 hP) (q0 := 0) rfl, ax_pre (zp_P1 hP) (zp_K hK) (zp_D1 hD) (fun _ _ => trivial)⟩ rfl rfl hl.1 rfl (lv_room (Nat.le_of_ble_eq_true rfl)) dX8_drawWhy_30 ⟨Nat.le_of_ble_eq_true rfl, Nat.le_of_ble_eq_true rfl⟩) hS (fun q _ h => zp_F1 hD hS hA q h) (zp_F1 hD hS hA) (fun r30 u t H locs ht hvm hw hB hz1 hk1 hS1 => zo1 hB ht hP hD hk1 (zp_F1 hD hS hA) hS1 (fun hP hK1 hD hS => ?_))
      rcases hw with hw | hw | hw
      · obtain ⟨hw, h30_0, h30_1, h30_2, h30_3⟩ := hw
        subst hw
        have l30k0_a1 : (1 : Int) ≤ a1.toInt := h30_0
        have u30k0_a1 : a1.toInt ≤ (0 : Int) := ba1_u
        exact absurd (Int.le_trans l30k0_a1 u30k0_a1) (by decide)
      · obtain ⟨hw, h30_0, h30_1⟩ := hw
        subst hw
        have l30k1_a1 : (0 : Int) ≤ a1.toInt := ba1_l
        have u30k1_a1 : a1.toInt ≤ (0 : Int) := ba1_u
        refine lv_istore (lv' := [(5, .int 1), (0, .ref a0), (1, .int a1), (2, .int a2), (3, .int a3), (4, .int a4)]) hx hb dX8_drawWhy_33 hl (by decide) rfl (fun ls hl => ?_)
        refine lv_iload hx hb dX8_drawWhy_35 (lv_at hl 0 rfl) ?_
        refine lv_if_eq (tgt := 43) hx hb dX8_drawWhy_37 (by decide) (fun c37 => absurd c37 (by decide +kernel)) (fun _ => ?_)
        refine lv_iload hx hb dX8_drawWhy_40 (lv_at hl 0 rfl) ?_
        exact W.iret (v := 1) hx hb hr (fun t ht hW => ⟨⟨1, (), rfl, rfl, by rw [ht]; exact hP, va_K.moved hW.alike hK, hD⟩, hS.F ht⟩) hS.2.2 dX8_drawWhy_42
      · obtain ⟨hw, h30_0, h30_1, h30_2, h30_3⟩ := hw
        subst hw
        have l30k2_a1 : (1 : Int) ≤ a1.toInt := h30_0
        have u30k2_a1 : a1.toInt ≤ (0 : Int) := ba1_u
        exact absurd (Int.le_trans l30k2_a1 u30k2_a1) (by decide)
    · obtain ⟨hw, h19⟩ := hw
      subst hw
      refine lv_if_eq (tgt := 29) hx hb dX8_drawWhy_22 (by decide) (fun _ => ?_) (fun c22 => absurd (by decide +kernel) c22)
      refine lv_iconst (v := 0) hx hb dX8_drawWhy_29 zk_iconst_0 ?_
      refine va_calli (va_runV (As := [.int a1, .int 0]) (rest := []) ⟨hx, hb, hml, hown, hts⟩ (c_X8_whyB l dC dI H.size a0 a1 0 a0g_0 a0g_1 a0g_2 a0g_3 a0g_4 a0g_5 a0g_6 a0g_7 a0g_8 a0g_9 a0g_10 a0g_11 a0g_12 a0g_13 a0g_14 a0g_15 a0g_16 a0g_17 a0g_18 a0g_19 a0g_20 a0g_21 a0g_22 a0g_23 a0g_24 a0g_25 a0g_26 a0g_27 a0g_28 a0g_29 a0g_30 a0g_31 a0g_32 a0g_33 a0g_34 a0g_35 a0g_36 a0g_37 a0g_38 a0g_39 ba1_l (Int.le_trans ba1_u zq4) zq5 (Int.le_trans zq6 zq4)) (cwV 2 hts gX8_drawWhy_X8_why rfl rfl rfl zd_X8_why ⟨Nat.le_of_ble_eq_true rfl, Nat.le_of_ble_eq_true rfl⟩) ⟨ax_blind (fun _ _ _ _ _ => trivial), zr_8 (zp_K hK) (zp_P1 hP) (q0 := 0) rfl, ax_pre (zp_P1 hP) (zp_K hK) (zp_D1 hD) (fun _ _ => trivial)⟩ rfl rfl hl.1 rfl (lv_room (Nat.le_of_ble_eq_true rfl)) dX8_drawWhy_30 ⟨Nat.le_of_ble_eq_true rfl, Nat.le_of_ble_eq_true rfl⟩) hS (fun q _ h => zp_F1 hD hS hA q h) (zp_F1 hD hS hA) (fun r30 u t H locs ht hvm hw hB hz1 hk1 hS1 => zo1 hB ht hP hD hk1 (zp_F1 hD hS hA) hS1 (fun hP hK1 hD hS => ?_))
      rcases hw with hw | hw | hw
      · obtain ⟨hw, h30_0, h30_1, h30_2, h30_3⟩ := hw
        subst hw
        have l30k0_a1 : (1 : Int) ≤ a1.toInt := h30_0
        have u30k0_a1 : a1.toInt ≤ (0 : Int) := ba1_u
        exact absurd (Int.le_trans l30k0_a1 u30k0_a1) (by decide)
      · obtain ⟨hw, h30_0, h30_1⟩ := hw
        subst hw
        have l30k1_a1 : (0 : Int) ≤ a1.toInt := ba1_l
        have u30k1_a1 : a1.toInt ≤ (0 : Int) := ba1_u
        refine lv_istore (lv' := [(5, .int 1), (0, .ref a0), (1, .int a1), (2, .int a2), (3, .int a3), (4, .int a4)]) hx hb dX8_drawWhy_33 hl (by decide) rfl (fun ls hl => ?_)
        refine lv_iload hx hb dX8_drawWhy_35 (lv_at hl 0 rfl) ?_
        refine lv_if_eq (tgt := 43) hx hb dX8_drawWhy_37 (by decide) (fun c37 => absurd c37 (by decide +kernel)) (fun _ => ?_)
        refine lv_iload hx hb dX8_drawWhy_40 (lv_at hl 0 rfl) ?_
        exact W.iret (v := 1) hx hb hr (fun t ht hW => ⟨⟨1, (), rfl, rfl, by rw [ht]; exact hP, va_K.moved hW.alike hK, hD⟩, hS.F ht⟩) hS.2.2 dX8_drawWhy_42
      · obtain ⟨hw, h30_0, h30_1, h30_2, h30_3⟩ := hw
        subst hw
        have l30k2_a1 : (1 : Int) ≤ a1.toInt := h30_0
        have u30k2_a1 : a1.toInt ≤ (0 : Int) := ba1_u
        exact absurd (Int.le_trans l30k2_a1 u30k2_a1) (by decide)
  · obtain ⟨hw, h7⟩ := hw
    subst hw
    refine lv_if_eq (tgt := 29) hx hb dX8_drawWhy_10 (by decide) (fun _ => ?_) (fun c10 => absurd (by decide +kernel) c10)
    refine lv_iconst (v := 0) hx hb dX8_drawWhy_29 zk_iconst_0 ?_
    refine va_calli (va_runV (As := [.int a1, .int 0]) (rest := []) ⟨hx, hb, hml, hown, hts⟩ (c_X8_whyB l dC dI H.size a0 a1 0 a0g_0 a0g_1 a0g_2 a0g_3 a0g_4 a0g_5 a0g_6 a0g_7 a0g_8 a0g_9 a0g_10 a0g_11 a0g_12 a0g_13 a0g_14 a0g_15 a0g_16 a0g_17 a0g_18 a0g_19 a0g_20 a0g_21 a0g_22 a0g_23 a0g_24 a0g_25 a0g_26 a0g_27 a0g_28 a0g_29 a0g_30 a0g_31 a0g_32 a0g_33 a0g_34 a0g_35 a0g_36 a0g_37 a0g_38 a0g_39 ba1_l (Int.le_trans ba1_u zq4) zq5 (Int.le_trans zq6 zq4)) (cwV 2 hts gX8_drawWhy_X8_why rfl rfl rfl zd_X8_why ⟨Nat.le_of_ble_eq_true rfl, Nat.le_of_ble_eq_true rfl⟩) ⟨ax_blind (fun _ _ _ _ _ => trivial), zr_8 (zp_K hK) (zp_P1 hP) (q0 := 0) rfl, ax_pre (zp_P1 hP) (zp_K hK) (zp_D1 hD) (fun _ _ => trivial)⟩ rfl rfl hl.1 rfl (lv_room (Nat.le_of_ble_eq_true rfl)) dX8_drawWhy_30 ⟨Nat.le_of_ble_eq_true rfl, Nat.le_of_ble_eq_true rfl⟩) hS (fun q _ h => zp_F1 hD hS hA q h) (zp_F1 hD hS hA) (fun r30 u t H locs ht hvm hw hB hz1 hk1 hS1 => zo1 hB ht hP hD hk1 (zp_F1 hD hS hA) hS1 (fun hP hK1 hD hS => ?_))
    rcases hw with hw | hw | hw
    · obtain ⟨hw, h30_0, h30_1, h30_2, h30_3⟩ := hw
      subst hw
      have l30k0_a1 : (1 : Int) ≤ a1.toInt := h30_0
      have u30k0_a1 : a1.toInt ≤ (0 : Int) := ba1_u
      exact absurd (Int.le_trans l30k0_a1 u30k0_a1) (by decide)
    · obtain ⟨hw, h30_0, h30_1⟩ := hw
      subst hw
      have l30k1_a1 : (0 : Int) ≤ a1.toInt := ba1_l
      have u30k1_a1 : a1.toInt ≤ (0 : Int) := ba1_u
      refine lv_istore (lv' := [(5, .int 1), (0, .ref a0), (1, .int a1), (2, .int a2), (3, .int a3), (4, .int a4)]) hx hb dX8_drawWhy_33 hl (by decide) rfl (fun ls hl => ?_)
      refine lv_iload hx hb dX8_drawWhy_35 (lv_at hl 0 rfl) ?_
      refine lv_if_eq (tgt := 43) hx hb dX8_drawWhy_37 (by decide) (fun c37 => absurd c37 (by decide +kernel)) (fun _ => ?_)
      refine lv_iload hx hb dX8_drawWhy_40 (lv_at hl 0 rfl) ?_
      exact W.iret (v := 1) hx hb hr (fun t ht hW => ⟨⟨1, (), rfl, rfl, by rw [ht]; exact hP, va_K.moved hW.alike hK, hD⟩, hS.F ht⟩) hS.2.2 dX8_drawWhy_42
    · obtain ⟨hw, h30_0, h30_1, h30_2, h30_3⟩ := hw
      subst hw
      have l30k2_a1 : (1 : Int) ≤ a1.toInt := h30_0
      have u30k2_a1 : a1.toInt ≤ (0 : Int) := ba1_u
      exact absurd (Int.le_trans l30k2_a1 u30k2_a1) (by decide)

set_option maxHeartbeats 4000000 in
set_option maxRecDepth 100000 in
theorem c0_X8_figure (l : Launch) (dC : Nat → ClassId) (dI : Nat → Nat → Nat) (sz : Nat) (a0 : Nat) (a1 : Int32) (a2 : Int32) (a0_0 : Int32) (a0g_1 a0g_2 a0g_3 a0g_4 a0g_5 a0g_6 a0g_7 a0g_8 a0g_9 a0g_10 a0g_12 a0g_13 a0g_15 a0g_16 a0g_17 a0g_18 a0g_19 a0g_20 a0g_21 a0g_22 a0g_23 a0g_24 a0g_25 a0g_26 a0g_27 a0g_28 a0g_29 a0g_30 a0g_31 a0g_32 a0g_33 a0g_34 a0g_35 a0g_36 a0g_37 a0g_38 a0g_39 : Value) (a0_11 : Int32) (a0_14 : Int32) (ba0_14_l : (0 : Int) ≤ a0_14.toInt) (ba0_14_u : a0_14.toInt ≤ (0 : Int)) : zm l yX8_figure wsX8_figure ({ frames := 1, cells := 0, slots := 0, locals := 21 }) [.ref a0, .int a1, .int a2] dC dI sz [(a0, .inr (8, [Value.int a0_0, a0g_1, a0g_2, a0g_3, a0g_4, a0g_5, a0g_6, a0g_7, a0g_8, a0g_9, a0g_10, Value.int a0_11, a0g_12, a0g_13, Value.int a0_14, a0g_15, a0g_16, a0g_17, a0g_18, a0g_19, a0g_20, a0g_21, a0g_22, a0g_23, a0g_24, a0g_25, a0g_26, a0g_27, a0g_28, a0g_29, a0g_30, a0g_31, a0g_32, a0g_33, a0g_34, a0g_35, a0g_36, a0g_37, a0g_38, a0g_39]))] [] (fun A _ => True) (fun A => va_Qi (fun (r : Int32) (_ : Unit) => r = (-1)) (fun (_ : Unit) (t : State) => ∃ na0_0 : Int32, ∃ na0_11 : Int32, ax_B dC dI A [(a0, .inr (8, [Value.int na0_0, a0g_1, a0g_2, a0g_3, a0g_4, a0g_5, a0g_6, a0g_7, a0g_8, a0g_9, a0g_10, Value.int na0_11, a0g_12, a0g_13, Value.int a0_14, a0g_15, a0g_16, a0g_17, a0g_18, a0g_19, a0g_20, a0g_21, a0g_22, a0g_23, a0g_24, a0g_25, a0g_26, a0g_27, a0g_28, a0g_29, a0g_30, a0g_31, a0g_32, a0g_33, a0g_34, a0g_35, a0g_36, a0g_37, a0g_38, a0g_39]))] [] t) A) := by
  refine zh (cc := cX8_figure) (maxL := 3) (ret := (some .int)) zn_RX8 rfl (Nat.le_of_ble_eq_true rfl) (fun p e s m below meth c A ls hx hb hml hr hts (hown : s.vm.findClass RX8 = some m.cls) hlocks hA hS hP hK hD hE (hl : lv_has ls 3 [(0, .ref a0), (1, .int a1), (2, .int a2)]) => ?_)
  refine lv_aload_n hx hb dX8_figure_0 rfl (lv_at hl 0 rfl) ?_
  refine va_callv (va_runV (As := []) (rest := []) ⟨hx, hb, hml, hown, hts⟩ (c_X8_good l dC dI s.heap.size a0 a0_0 a0g_1 a0g_2 a0g_3 a0g_4 a0g_5 a0g_6 a0g_7 a0g_8 a0g_9 a0g_10 a0g_12 a0g_13 (Value.int a0_14) a0g_15 a0g_16 a0g_17 a0g_18 a0g_19 a0g_20 a0g_21 a0g_22 a0g_23 a0g_24 a0g_25 a0g_26 a0g_27 a0g_28 a0g_29 a0g_30 a0g_31 a0g_32 a0g_33 a0g_34 a0g_35 a0g_36 a0g_37 a0g_38 a0g_39 a0_11 ) (cwV 0 hts gX8_figure_X8_good rfl rfl rfl zd_X8_good ⟨Nat.le_of_ble_eq_true rfl, Nat.le_of_ble_eq_true rfl⟩) ⟨ax_blind (fun _ _ _ _ _ => trivial), zr_8 (zp_K hK) (zp_P1 hP) (q0 := 0) rfl, ax_pre (zp_P1 hP) (zp_K hK) (zp_D1 hD) (fun _ _ => trivial)⟩ rfl rfl hl.1 rfl (lv_room (Nat.le_of_ble_eq_true rfl)) dX8_figure_1 ⟨Nat.le_of_ble_eq_true rfl, Nat.le_of_ble_eq_true rfl⟩) hS (fun q _ h => zp_F1 hD hS hA q h) (zp_F1 hD hS hA) (fun u t H locs ht hvm hw => zx_2 (fun v1na0_0 v1na0_11 hB hz1 hk1 hS1 => zo1 hB ht hP hD hk1 (zp_F1 hD hS hA) hS1 (fun hP hK1 hD hS => ?_)))
  refine lv_aload_n hx hb dX8_figure_4 rfl (lv_at hl 0 rfl) ?_
  refine lv_iload_n hx hb dX8_figure_5 rfl (lv_at hl 1 rfl) ?_
  refine va_calli (va_runV (As := [.int a1]) (rest := []) ⟨hx, hb, hml, hown, hts⟩ (c0_X8_isFigure l dC dI H.size a0 a1 (Value.int v1na0_0) a0g_1 a0g_2 a0g_3 a0g_4 a0g_5 a0g_6 a0g_7 a0g_8 a0g_9 a0g_10 (Value.int v1na0_11) a0g_12 a0g_13 a0g_15 a0g_16 a0g_17 a0g_18 a0g_19 a0g_20 a0g_21 a0g_22 a0g_23 a0g_24 a0g_25 a0g_26 a0g_27 a0g_28 a0g_29 a0g_30 a0g_31 a0g_32 a0g_33 a0g_34 a0g_35 a0g_36 a0g_37 a0g_38 a0g_39 a0_14 ba0_14_l ba0_14_u) (cwV 1 hts gX8_figure_X8_isFigure rfl rfl rfl zd_X8_isFigure ⟨Nat.le_of_ble_eq_true rfl, Nat.le_of_ble_eq_true rfl⟩) ⟨ax_blind (fun _ _ _ _ _ => trivial), zr_8 (zp_K hK) (zp_P1 hP) (q0 := 0) rfl, ax_pre (zp_P1 hP) (zp_K hK) (zp_D1 hD) (fun _ _ => trivial)⟩ rfl rfl hl.1 rfl (lv_room (Nat.le_of_ble_eq_true rfl)) dX8_figure_6 ⟨Nat.le_of_ble_eq_true rfl, Nat.le_of_ble_eq_true rfl⟩) hS (fun q _ h => zp_F1 hD hS hA q h) (zp_F1 hD hS hA) (fun r6 u t H locs ht hvm hw hB hz1 hk1 hS1 => zo1 hB ht hP hD hk1 (zp_F1 hD hS hA) hS1 (fun hP hK1 hD hS => ?_))
  have hw : r6 = 0 := hw
  have hw := hw.symm
  subst hw
  refine lv_if_eq (tgt := 21) hx hb dX8_figure_9 (by decide) (fun _ => ?_) (fun c9 => absurd (by decide +kernel) c9)
  refine lv_aload_n hx hb dX8_figure_21 rfl (lv_at hl 0 rfl) ?_
  refine lv_iconst (v := 1) hx hb dX8_figure_22 zk_iconst_1 ?_
  refine va_calli (va_runV (As := [.int 1]) (rest := []) ⟨hx, hb, hml, hown, hts⟩ (c_X8_no l dC dI H.size a0 1 (Value.int v1na0_0) a0g_1 a0g_2 a0g_3 a0g_4 a0g_5 a0g_6 a0g_7 a0g_8 a0g_9 a0g_10 a0g_12 a0g_13 (Value.int a0_14) a0g_15 a0g_16 a0g_17 a0g_18 a0g_19 a0g_20 a0g_21 a0g_22 a0g_23 a0g_24 a0g_25 a0g_26 a0g_27 a0g_28 a0g_29 a0g_30 a0g_31 a0g_32 a0g_33 a0g_34 a0g_35 a0g_36 a0g_37 a0g_38 a0g_39 v1na0_11 ) (cwV 1 hts gX8_figure_X8_no rfl rfl rfl zd_X8_no ⟨Nat.le_of_ble_eq_true rfl, Nat.le_of_ble_eq_true rfl⟩) ⟨ax_blind (fun _ _ _ _ _ => trivial), zr_8 (zp_K hK) (zp_P1 hP) (q0 := 0) rfl, ax_pre (zp_P1 hP) (zp_K hK) (zp_D1 hD) (fun _ _ => trivial)⟩ rfl rfl hl.1 rfl (lv_room (Nat.le_of_ble_eq_true rfl)) dX8_figure_23 ⟨Nat.le_of_ble_eq_true rfl, Nat.le_of_ble_eq_true rfl⟩) hS (fun q _ h => zp_F1 hD hS hA q h) (zp_F1 hD hS hA) (fun r23 u t H locs ht hvm hw => zx_1 (fun v23na0_11 hB hz1 hk1 hS1 => zo1 hB ht hP hD hk1 (zp_F1 hD hS hA) hS1 (fun hP hK1 hD hS => ?_)))
  have hw : r23 = (-1) := hw
  have hw := hw.symm
  subst hw
  exact W.iret (v := (-1)) hx hb hr (fun t ht hW => ⟨⟨(-1), (), rfl, rfl, v1na0_0, v23na0_11, by rw [ht]; exact hP, va_K.moved hW.alike hK, hD⟩, hS.F ht⟩) hS.2.2 dX8_figure_26

set_option maxHeartbeats 4000000 in
set_option maxRecDepth 100000 in
theorem c0_X8_alive (l : Launch) (dC : Nat → ClassId) (dI : Nat → Nat → Nat) (sz : Nat) (a0 : Nat) (a0_0 : Int32) (a0g_1 a0g_2 a0g_3 a0g_4 a0g_5 a0g_6 a0g_7 a0g_8 a0g_9 a0g_10 a0g_12 a0g_13 a0g_15 a0g_16 a0g_17 a0g_18 a0g_19 a0g_20 a0g_21 a0g_22 a0g_23 a0g_24 a0g_25 a0g_26 a0g_27 a0g_28 a0g_29 a0g_30 a0g_31 a0g_32 a0g_33 a0g_34 a0g_35 a0g_36 a0g_37 a0g_38 a0g_39 : Value) (a0_11 : Int32) (a0_14 : Int32) (ba0_14_l : (0 : Int) ≤ a0_14.toInt) (ba0_14_u : a0_14.toInt ≤ (0 : Int)) : zm l yX8_alive wsX8_alive ({ frames := 1, cells := 0, slots := 0, locals := 21 }) [.ref a0] dC dI sz [(a0, .inr (8, [Value.int a0_0, a0g_1, a0g_2, a0g_3, a0g_4, a0g_5, a0g_6, a0g_7, a0g_8, a0g_9, a0g_10, Value.int a0_11, a0g_12, a0g_13, Value.int a0_14, a0g_15, a0g_16, a0g_17, a0g_18, a0g_19, a0g_20, a0g_21, a0g_22, a0g_23, a0g_24, a0g_25, a0g_26, a0g_27, a0g_28, a0g_29, a0g_30, a0g_31, a0g_32, a0g_33, a0g_34, a0g_35, a0g_36, a0g_37, a0g_38, a0g_39]))] [] (fun A _ => True) (fun A => va_Qi (fun (r : Int32) (_ : Unit) => r = (-1)) (fun (_ : Unit) (t : State) => ∃ na0_0 : Int32, ∃ na0_11 : Int32, ax_B dC dI A [(a0, .inr (8, [Value.int na0_0, a0g_1, a0g_2, a0g_3, a0g_4, a0g_5, a0g_6, a0g_7, a0g_8, a0g_9, a0g_10, Value.int na0_11, a0g_12, a0g_13, Value.int a0_14, a0g_15, a0g_16, a0g_17, a0g_18, a0g_19, a0g_20, a0g_21, a0g_22, a0g_23, a0g_24, a0g_25, a0g_26, a0g_27, a0g_28, a0g_29, a0g_30, a0g_31, a0g_32, a0g_33, a0g_34, a0g_35, a0g_36, a0g_37, a0g_38, a0g_39]))] [] t) A) := by
  refine zh (cc := cX8_alive) (maxL := 1) (ret := (some .int)) zn_RX8 rfl (Nat.le_of_ble_eq_true rfl) (fun p e s m below meth c A ls hx hb hml hr hts (hown : s.vm.findClass RX8 = some m.cls) hlocks hA hS hP hK hD hE (hl : lv_has ls 1 [(0, .ref a0)]) => ?_)
  refine lv_aload_n hx hb dX8_alive_0 rfl (lv_at hl 0 rfl) ?_
  refine va_callv (va_runV (As := []) (rest := []) ⟨hx, hb, hml, hown, hts⟩ (c_X8_good l dC dI s.heap.size a0 a0_0 a0g_1 a0g_2 a0g_3 a0g_4 a0g_5 a0g_6 a0g_7 a0g_8 a0g_9 a0g_10 a0g_12 a0g_13 (Value.int a0_14) a0g_15 a0g_16 a0g_17 a0g_18 a0g_19 a0g_20 a0g_21 a0g_22 a0g_23 a0g_24 a0g_25 a0g_26 a0g_27 a0g_28 a0g_29 a0g_30 a0g_31 a0g_32 a0g_33 a0g_34 a0g_35 a0g_36 a0g_37 a0g_38 a0g_39 a0_11 ) (cwV 0 hts gX8_alive_X8_good rfl rfl rfl zd_X8_good ⟨Nat.le_of_ble_eq_true rfl, Nat.le_of_ble_eq_true rfl⟩) ⟨ax_blind (fun _ _ _ _ _ => trivial), zr_8 (zp_K hK) (zp_P1 hP) (q0 := 0) rfl, ax_pre (zp_P1 hP) (zp_K hK) (zp_D1 hD) (fun _ _ => trivial)⟩ rfl rfl hl.1 rfl (lv_room (Nat.le_of_ble_eq_true rfl)) dX8_alive_1 ⟨Nat.le_of_ble_eq_true rfl, Nat.le_of_ble_eq_true rfl⟩) hS (fun q _ h => zp_F1 hD hS hA q h) (zp_F1 hD hS hA) (fun u t H locs ht hvm hw => zx_2 (fun v1na0_0 v1na0_11 hB hz1 hk1 hS1 => zo1 hB ht hP hD hk1 (zp_F1 hD hS hA) hS1 (fun hP hK1 hD hS => ?_)))
  refine lv_aload_n hx hb dX8_alive_4 rfl (lv_at hl 0 rfl) ?_
  refine va_get (D := (dC, dI)) (ci := 8) (v := .int a0_14) (C := RX8) (T := TX8) (N := 40) hx hb hts zi_X8_alive_8 hown hK hP 0 rfl rfl 14 (by decide) (hts (.fieldLink RX8 173 "WaxTurnsModel" "hasGallery" "Z") (List.mem_cons_of_mem _ (List.mem_append_left _ (List.mem_of_getElem? (i := 0) rfl)))) (fun _ h9 => h9) rfl dX8_alive_5 ?_
  refine lv_if_eq (tgt := 21) hx hb dX8_alive_8 (by decide) (fun c8 => ?_) (fun c8 => ?_)
  · have gc8 := ai_eq c8
    have u8t_a0_14 : a0_14.toInt ≤ (0 : Int) := ba0_14_u
    have l8t_a0_14 : (0 : Int) ≤ a0_14.toInt := ba0_14_l
    refine lv_aload_n hx hb dX8_alive_21 rfl (lv_at hl 0 rfl) ?_
    refine lv_iconst (v := 1) hx hb dX8_alive_22 zk_iconst_1 ?_
    refine va_calli (va_runV (As := [.int 1]) (rest := []) ⟨hx, hb, hml, hown, hts⟩ (c_X8_no l dC dI H.size a0 1 (Value.int v1na0_0) a0g_1 a0g_2 a0g_3 a0g_4 a0g_5 a0g_6 a0g_7 a0g_8 a0g_9 a0g_10 a0g_12 a0g_13 (Value.int a0_14) a0g_15 a0g_16 a0g_17 a0g_18 a0g_19 a0g_20 a0g_21 a0g_22 a0g_23 a0g_24 a0g_25 a0g_26 a0g_27 a0g_28 a0g_29 a0g_30 a0g_31 a0g_32 a0g_33 a0g_34 a0g_35 a0g_36 a0g_37 a0g_38 a0g_39 v1na0_11 ) (cwV 1 hts gX8_alive_X8_no rfl rfl rfl zd_X8_no ⟨Nat.le_of_ble_eq_true rfl, Nat.le_of_ble_eq_true rfl⟩) ⟨ax_blind (fun _ _ _ _ _ => trivial), zr_8 (zp_K hK) (zp_P1 hP) (q0 := 0) rfl, ax_pre (zp_P1 hP) (zp_K hK) (zp_D1 hD) (fun _ _ => trivial)⟩ rfl rfl hl.1 rfl (lv_room (Nat.le_of_ble_eq_true rfl)) dX8_alive_23 ⟨Nat.le_of_ble_eq_true rfl, Nat.le_of_ble_eq_true rfl⟩) hS (fun q _ h => zp_F1 hD hS hA q h) (zp_F1 hD hS hA) (fun r23 u t H locs ht hvm hw => zx_1 (fun v23na0_11 hB hz1 hk1 hS1 => zo1 hB ht hP hD hk1 (zp_F1 hD hS hA) hS1 (fun hP hK1 hD hS => ?_)))
    have hw : r23 = (-1) := hw
    have hw := hw.symm
    subst hw
    exact W.iret (v := (-1)) hx hb hr (fun t ht hW => ⟨⟨(-1), (), rfl, rfl, v1na0_0, v23na0_11, by rw [ht]; exact hP, va_K.moved hW.alike hK, hD⟩, hS.F ht⟩) hS.2.2 dX8_alive_26
  · have gc8 := ai_ne c8
    have l8f_a0_14 : (1 : Int) ≤ a0_14.toInt := (by first | exact zg_l ba0_14_l gc8 (by decide) (by decide) | (have h1 := ba0_14_l; have h2 : (0 : Int32).toInt = 0 := (by decide); rw [h2] at gc8; omega))
    have u8f_a0_14 : a0_14.toInt ≤ (-1 : Int) := (by first | exact zg_u ba0_14_u gc8 (by decide) (by decide) | (have h1 := ba0_14_u; have h2 : (0 : Int32).toInt = 0 := (by decide); rw [h2] at gc8; omega))
    exact absurd (Int.le_trans l8f_a0_14 u8f_a0_14) (by decide)

set_option maxHeartbeats 4000000 in
set_option maxRecDepth 100000 in
theorem c0_X8_left (l : Launch) (dC : Nat → ClassId) (dI : Nat → Nat → Nat) (sz : Nat) (a0 : Nat) (a0_0 : Int32) (a0g_1 a0g_2 a0g_3 a0g_4 a0g_5 a0g_6 a0g_7 a0g_8 a0g_9 a0g_10 a0g_12 a0g_13 a0g_15 a0g_16 a0g_17 a0g_18 a0g_19 a0g_20 a0g_21 a0g_22 a0g_23 a0g_24 a0g_25 a0g_26 a0g_27 a0g_28 a0g_29 a0g_30 a0g_31 a0g_32 a0g_33 a0g_34 a0g_35 a0g_36 a0g_37 a0g_38 a0g_39 : Value) (a0_11 : Int32) (a0_14 : Int32) (ba0_14_l : (0 : Int) ≤ a0_14.toInt) (ba0_14_u : a0_14.toInt ≤ (0 : Int)) : zm l yX8_left wsX8_left ({ frames := 1, cells := 0, slots := 0, locals := 21 }) [.ref a0] dC dI sz [(a0, .inr (8, [Value.int a0_0, a0g_1, a0g_2, a0g_3, a0g_4, a0g_5, a0g_6, a0g_7, a0g_8, a0g_9, a0g_10, Value.int a0_11, a0g_12, a0g_13, Value.int a0_14, a0g_15, a0g_16, a0g_17, a0g_18, a0g_19, a0g_20, a0g_21, a0g_22, a0g_23, a0g_24, a0g_25, a0g_26, a0g_27, a0g_28, a0g_29, a0g_30, a0g_31, a0g_32, a0g_33, a0g_34, a0g_35, a0g_36, a0g_37, a0g_38, a0g_39]))] [] (fun A _ => True) (fun A => va_Qi (fun (r : Int32) (_ : Unit) => r = (-1)) (fun (_ : Unit) (t : State) => ∃ na0_0 : Int32, ∃ na0_11 : Int32, ax_B dC dI A [(a0, .inr (8, [Value.int na0_0, a0g_1, a0g_2, a0g_3, a0g_4, a0g_5, a0g_6, a0g_7, a0g_8, a0g_9, a0g_10, Value.int na0_11, a0g_12, a0g_13, Value.int a0_14, a0g_15, a0g_16, a0g_17, a0g_18, a0g_19, a0g_20, a0g_21, a0g_22, a0g_23, a0g_24, a0g_25, a0g_26, a0g_27, a0g_28, a0g_29, a0g_30, a0g_31, a0g_32, a0g_33, a0g_34, a0g_35, a0g_36, a0g_37, a0g_38, a0g_39]))] [] t) A) := by
  refine zh (cc := cX8_left) (maxL := 1) (ret := (some .int)) zn_RX8 rfl (Nat.le_of_ble_eq_true rfl) (fun p e s m below meth c A ls hx hb hml hr hts (hown : s.vm.findClass RX8 = some m.cls) hlocks hA hS hP hK hD hE (hl : lv_has ls 1 [(0, .ref a0)]) => ?_)
  refine lv_aload_n hx hb dX8_left_0 rfl (lv_at hl 0 rfl) ?_
  refine va_callv (va_runV (As := []) (rest := []) ⟨hx, hb, hml, hown, hts⟩ (c_X8_good l dC dI s.heap.size a0 a0_0 a0g_1 a0g_2 a0g_3 a0g_4 a0g_5 a0g_6 a0g_7 a0g_8 a0g_9 a0g_10 a0g_12 a0g_13 (Value.int a0_14) a0g_15 a0g_16 a0g_17 a0g_18 a0g_19 a0g_20 a0g_21 a0g_22 a0g_23 a0g_24 a0g_25 a0g_26 a0g_27 a0g_28 a0g_29 a0g_30 a0g_31 a0g_32 a0g_33 a0g_34 a0g_35 a0g_36 a0g_37 a0g_38 a0g_39 a0_11 ) (cwV 0 hts gX8_left_X8_good rfl rfl rfl zd_X8_good ⟨Nat.le_of_ble_eq_true rfl, Nat.le_of_ble_eq_true rfl⟩) ⟨ax_blind (fun _ _ _ _ _ => trivial), zr_8 (zp_K hK) (zp_P1 hP) (q0 := 0) rfl, ax_pre (zp_P1 hP) (zp_K hK) (zp_D1 hD) (fun _ _ => trivial)⟩ rfl rfl hl.1 rfl (lv_room (Nat.le_of_ble_eq_true rfl)) dX8_left_1 ⟨Nat.le_of_ble_eq_true rfl, Nat.le_of_ble_eq_true rfl⟩) hS (fun q _ h => zp_F1 hD hS hA q h) (zp_F1 hD hS hA) (fun u t H locs ht hvm hw => zx_2 (fun v1na0_0 v1na0_11 hB hz1 hk1 hS1 => zo1 hB ht hP hD hk1 (zp_F1 hD hS hA) hS1 (fun hP hK1 hD hS => ?_)))
  refine lv_aload_n hx hb dX8_left_4 rfl (lv_at hl 0 rfl) ?_
  refine va_get (D := (dC, dI)) (ci := 8) (v := .int a0_14) (C := RX8) (T := TX8) (N := 40) hx hb hts zi_X8_left_8 hown hK hP 0 rfl rfl 14 (by decide) (hts (.fieldLink RX8 173 "WaxTurnsModel" "hasGallery" "Z") (List.mem_cons_of_mem _ (List.mem_append_left _ (List.mem_of_getElem? (i := 0) rfl)))) (fun _ h9 => h9) rfl dX8_left_5 ?_
  refine lv_if_eq (tgt := 28) hx hb dX8_left_8 (by decide) (fun c8 => ?_) (fun c8 => ?_)
  · have gc8 := ai_eq c8
    have u8t_a0_14 : a0_14.toInt ≤ (0 : Int) := ba0_14_u
    have l8t_a0_14 : (0 : Int) ≤ a0_14.toInt := ba0_14_l
    refine lv_aload_n hx hb dX8_left_28 rfl (lv_at hl 0 rfl) ?_
    refine lv_iconst (v := 1) hx hb dX8_left_29 zk_iconst_1 ?_
    refine va_calli (va_runV (As := [.int 1]) (rest := []) ⟨hx, hb, hml, hown, hts⟩ (c_X8_no l dC dI H.size a0 1 (Value.int v1na0_0) a0g_1 a0g_2 a0g_3 a0g_4 a0g_5 a0g_6 a0g_7 a0g_8 a0g_9 a0g_10 a0g_12 a0g_13 (Value.int a0_14) a0g_15 a0g_16 a0g_17 a0g_18 a0g_19 a0g_20 a0g_21 a0g_22 a0g_23 a0g_24 a0g_25 a0g_26 a0g_27 a0g_28 a0g_29 a0g_30 a0g_31 a0g_32 a0g_33 a0g_34 a0g_35 a0g_36 a0g_37 a0g_38 a0g_39 v1na0_11 ) (cwV 1 hts gX8_left_X8_no rfl rfl rfl zd_X8_no ⟨Nat.le_of_ble_eq_true rfl, Nat.le_of_ble_eq_true rfl⟩) ⟨ax_blind (fun _ _ _ _ _ => trivial), zr_8 (zp_K hK) (zp_P1 hP) (q0 := 0) rfl, ax_pre (zp_P1 hP) (zp_K hK) (zp_D1 hD) (fun _ _ => trivial)⟩ rfl rfl hl.1 rfl (lv_room (Nat.le_of_ble_eq_true rfl)) dX8_left_30 ⟨Nat.le_of_ble_eq_true rfl, Nat.le_of_ble_eq_true rfl⟩) hS (fun q _ h => zp_F1 hD hS hA q h) (zp_F1 hD hS hA) (fun r30 u t H locs ht hvm hw => zx_1 (fun v30na0_11 hB hz1 hk1 hS1 => zo1 hB ht hP hD hk1 (zp_F1 hD hS hA) hS1 (fun hP hK1 hD hS => ?_)))
    have hw : r30 = (-1) := hw
    have hw := hw.symm
    subst hw
    exact W.iret (v := (-1)) hx hb hr (fun t ht hW => ⟨⟨(-1), (), rfl, rfl, v1na0_0, v30na0_11, by rw [ht]; exact hP, va_K.moved hW.alike hK, hD⟩, hS.F ht⟩) hS.2.2 dX8_left_33
  · have gc8 := ai_ne c8
    have l8f_a0_14 : (1 : Int) ≤ a0_14.toInt := (by first | exact zg_l ba0_14_l gc8 (by decide) (by decide) | (have h1 := ba0_14_l; have h2 : (0 : Int32).toInt = 0 := (by decide); rw [h2] at gc8; omega))
    have u8f_a0_14 : a0_14.toInt ≤ (-1 : Int) := (by first | exact zg_u ba0_14_u gc8 (by decide) (by decide) | (have h1 := ba0_14_u; have h2 : (0 : Int32).toInt = 0 := (by decide); rw [h2] at gc8; omega))
    exact absurd (Int.le_trans l8f_a0_14 u8f_a0_14) (by decide)

set_option maxHeartbeats 4000000 in
set_option maxRecDepth 100000 in
theorem c0_X8_caught (l : Launch) (dC : Nat → ClassId) (dI : Nat → Nat → Nat) (sz : Nat) (a0 : Nat) (a0_0 : Int32) (a0g_1 a0g_2 a0g_3 a0g_4 a0g_5 a0g_6 a0g_7 a0g_8 a0g_9 a0g_10 a0g_12 a0g_13 a0g_15 a0g_16 a0g_17 a0g_18 a0g_19 a0g_20 a0g_21 a0g_22 a0g_23 a0g_24 a0g_25 a0g_26 a0g_27 a0g_28 a0g_29 a0g_30 a0g_31 a0g_32 a0g_33 a0g_34 a0g_35 a0g_36 a0g_37 a0g_38 a0g_39 : Value) (a0_11 : Int32) (a0_14 : Int32) (ba0_14_l : (0 : Int) ≤ a0_14.toInt) (ba0_14_u : a0_14.toInt ≤ (0 : Int)) : zm l yX8_caught wsX8_caught ({ frames := 1, cells := 0, slots := 0, locals := 21 }) [.ref a0] dC dI sz [(a0, .inr (8, [Value.int a0_0, a0g_1, a0g_2, a0g_3, a0g_4, a0g_5, a0g_6, a0g_7, a0g_8, a0g_9, a0g_10, Value.int a0_11, a0g_12, a0g_13, Value.int a0_14, a0g_15, a0g_16, a0g_17, a0g_18, a0g_19, a0g_20, a0g_21, a0g_22, a0g_23, a0g_24, a0g_25, a0g_26, a0g_27, a0g_28, a0g_29, a0g_30, a0g_31, a0g_32, a0g_33, a0g_34, a0g_35, a0g_36, a0g_37, a0g_38, a0g_39]))] [] (fun A _ => True) (fun A => va_Qi (fun (r : Int32) (_ : Unit) => r = (-1)) (fun (_ : Unit) (t : State) => ∃ na0_0 : Int32, ∃ na0_11 : Int32, ax_B dC dI A [(a0, .inr (8, [Value.int na0_0, a0g_1, a0g_2, a0g_3, a0g_4, a0g_5, a0g_6, a0g_7, a0g_8, a0g_9, a0g_10, Value.int na0_11, a0g_12, a0g_13, Value.int a0_14, a0g_15, a0g_16, a0g_17, a0g_18, a0g_19, a0g_20, a0g_21, a0g_22, a0g_23, a0g_24, a0g_25, a0g_26, a0g_27, a0g_28, a0g_29, a0g_30, a0g_31, a0g_32, a0g_33, a0g_34, a0g_35, a0g_36, a0g_37, a0g_38, a0g_39]))] [] t) A) := by
  refine zh (cc := cX8_caught) (maxL := 1) (ret := (some .int)) zn_RX8 rfl (Nat.le_of_ble_eq_true rfl) (fun p e s m below meth c A ls hx hb hml hr hts (hown : s.vm.findClass RX8 = some m.cls) hlocks hA hS hP hK hD hE (hl : lv_has ls 1 [(0, .ref a0)]) => ?_)
  refine lv_aload_n hx hb dX8_caught_0 rfl (lv_at hl 0 rfl) ?_
  refine va_callv (va_runV (As := []) (rest := []) ⟨hx, hb, hml, hown, hts⟩ (c_X8_good l dC dI s.heap.size a0 a0_0 a0g_1 a0g_2 a0g_3 a0g_4 a0g_5 a0g_6 a0g_7 a0g_8 a0g_9 a0g_10 a0g_12 a0g_13 (Value.int a0_14) a0g_15 a0g_16 a0g_17 a0g_18 a0g_19 a0g_20 a0g_21 a0g_22 a0g_23 a0g_24 a0g_25 a0g_26 a0g_27 a0g_28 a0g_29 a0g_30 a0g_31 a0g_32 a0g_33 a0g_34 a0g_35 a0g_36 a0g_37 a0g_38 a0g_39 a0_11 ) (cwV 0 hts gX8_caught_X8_good rfl rfl rfl zd_X8_good ⟨Nat.le_of_ble_eq_true rfl, Nat.le_of_ble_eq_true rfl⟩) ⟨ax_blind (fun _ _ _ _ _ => trivial), zr_8 (zp_K hK) (zp_P1 hP) (q0 := 0) rfl, ax_pre (zp_P1 hP) (zp_K hK) (zp_D1 hD) (fun _ _ => trivial)⟩ rfl rfl hl.1 rfl (lv_room (Nat.le_of_ble_eq_true rfl)) dX8_caught_1 ⟨Nat.le_of_ble_eq_true rfl, Nat.le_of_ble_eq_true rfl⟩) hS (fun q _ h => zp_F1 hD hS hA q h) (zp_F1 hD hS hA) (fun u t H locs ht hvm hw => zx_2 (fun v1na0_0 v1na0_11 hB hz1 hk1 hS1 => zo1 hB ht hP hD hk1 (zp_F1 hD hS hA) hS1 (fun hP hK1 hD hS => ?_)))
  refine lv_aload_n hx hb dX8_caught_4 rfl (lv_at hl 0 rfl) ?_
  refine va_get (D := (dC, dI)) (ci := 8) (v := .int a0_14) (C := RX8) (T := TX8) (N := 40) hx hb hts zi_X8_caught_8 hown hK hP 0 rfl rfl 14 (by decide) (hts (.fieldLink RX8 173 "WaxTurnsModel" "hasGallery" "Z") (List.mem_cons_of_mem _ (List.mem_append_left _ (List.mem_of_getElem? (i := 0) rfl)))) (fun _ h9 => h9) rfl dX8_caught_5 ?_
  refine lv_if_eq (tgt := 21) hx hb dX8_caught_8 (by decide) (fun c8 => ?_) (fun c8 => ?_)
  · have gc8 := ai_eq c8
    have u8t_a0_14 : a0_14.toInt ≤ (0 : Int) := ba0_14_u
    have l8t_a0_14 : (0 : Int) ≤ a0_14.toInt := ba0_14_l
    refine lv_aload_n hx hb dX8_caught_21 rfl (lv_at hl 0 rfl) ?_
    refine lv_iconst (v := 1) hx hb dX8_caught_22 zk_iconst_1 ?_
    refine va_calli (va_runV (As := [.int 1]) (rest := []) ⟨hx, hb, hml, hown, hts⟩ (c_X8_no l dC dI H.size a0 1 (Value.int v1na0_0) a0g_1 a0g_2 a0g_3 a0g_4 a0g_5 a0g_6 a0g_7 a0g_8 a0g_9 a0g_10 a0g_12 a0g_13 (Value.int a0_14) a0g_15 a0g_16 a0g_17 a0g_18 a0g_19 a0g_20 a0g_21 a0g_22 a0g_23 a0g_24 a0g_25 a0g_26 a0g_27 a0g_28 a0g_29 a0g_30 a0g_31 a0g_32 a0g_33 a0g_34 a0g_35 a0g_36 a0g_37 a0g_38 a0g_39 v1na0_11 ) (cwV 1 hts gX8_caught_X8_no rfl rfl rfl zd_X8_no ⟨Nat.le_of_ble_eq_true rfl, Nat.le_of_ble_eq_true rfl⟩) ⟨ax_blind (fun _ _ _ _ _ => trivial), zr_8 (zp_K hK) (zp_P1 hP) (q0 := 0) rfl, ax_pre (zp_P1 hP) (zp_K hK) (zp_D1 hD) (fun _ _ => trivial)⟩ rfl rfl hl.1 rfl (lv_room (Nat.le_of_ble_eq_true rfl)) dX8_caught_23 ⟨Nat.le_of_ble_eq_true rfl, Nat.le_of_ble_eq_true rfl⟩) hS (fun q _ h => zp_F1 hD hS hA q h) (zp_F1 hD hS hA) (fun r23 u t H locs ht hvm hw => zx_1 (fun v23na0_11 hB hz1 hk1 hS1 => zo1 hB ht hP hD hk1 (zp_F1 hD hS hA) hS1 (fun hP hK1 hD hS => ?_)))
    have hw : r23 = (-1) := hw
    have hw := hw.symm
    subst hw
    exact W.iret (v := (-1)) hx hb hr (fun t ht hW => ⟨⟨(-1), (), rfl, rfl, v1na0_0, v23na0_11, by rw [ht]; exact hP, va_K.moved hW.alike hK, hD⟩, hS.F ht⟩) hS.2.2 dX8_caught_26
  · have gc8 := ai_ne c8
    have l8f_a0_14 : (1 : Int) ≤ a0_14.toInt := (by first | exact zg_l ba0_14_l gc8 (by decide) (by decide) | (have h1 := ba0_14_l; have h2 : (0 : Int32).toInt = 0 := (by decide); rw [h2] at gc8; omega))
    have u8f_a0_14 : a0_14.toInt ≤ (-1 : Int) := (by first | exact zg_u ba0_14_u gc8 (by decide) (by decide) | (have h1 := ba0_14_u; have h2 : (0 : Int32).toInt = 0 := (by decide); rw [h2] at gc8; omega))
    exact absurd (Int.le_trans l8f_a0_14 u8f_a0_14) (by decide)

set_option maxHeartbeats 4000000 in
set_option maxRecDepth 100000 in
theorem c0_X8_turnOf (l : Launch) (dC : Nat → ClassId) (dI : Nat → Nat → Nat) (sz : Nat) (a0 : Nat) (a1 : Int32) (a0_0 : Int32) (a0g_1 a0g_2 a0g_3 a0g_4 a0g_5 a0g_6 a0g_7 a0g_8 a0g_9 a0g_10 a0g_12 a0g_13 a0g_15 a0g_16 a0g_17 a0g_18 a0g_19 a0g_20 a0g_21 a0g_22 a0g_23 a0g_24 a0g_25 a0g_26 a0g_27 a0g_28 a0g_29 a0g_30 a0g_31 a0g_32 a0g_33 a0g_34 a0g_35 a0g_36 a0g_37 a0g_38 a0g_39 : Value) (a0_11 : Int32) (a0_14 : Int32) (ba0_14_l : (0 : Int) ≤ a0_14.toInt) (ba0_14_u : a0_14.toInt ≤ (0 : Int)) : zm l yX8_turnOf wsX8_turnOf ({ frames := 1, cells := 0, slots := 0, locals := 22 }) [.ref a0, .int a1] dC dI sz [(a0, .inr (8, [Value.int a0_0, a0g_1, a0g_2, a0g_3, a0g_4, a0g_5, a0g_6, a0g_7, a0g_8, a0g_9, a0g_10, Value.int a0_11, a0g_12, a0g_13, Value.int a0_14, a0g_15, a0g_16, a0g_17, a0g_18, a0g_19, a0g_20, a0g_21, a0g_22, a0g_23, a0g_24, a0g_25, a0g_26, a0g_27, a0g_28, a0g_29, a0g_30, a0g_31, a0g_32, a0g_33, a0g_34, a0g_35, a0g_36, a0g_37, a0g_38, a0g_39]))] [] (fun A _ => True) (fun A => va_Qi (fun (r : Int32) (_ : Unit) => r = (-1)) (fun (_ : Unit) (t : State) => ∃ na0_0 : Int32, ∃ na0_11 : Int32, ax_B dC dI A [(a0, .inr (8, [Value.int na0_0, a0g_1, a0g_2, a0g_3, a0g_4, a0g_5, a0g_6, a0g_7, a0g_8, a0g_9, a0g_10, Value.int na0_11, a0g_12, a0g_13, Value.int a0_14, a0g_15, a0g_16, a0g_17, a0g_18, a0g_19, a0g_20, a0g_21, a0g_22, a0g_23, a0g_24, a0g_25, a0g_26, a0g_27, a0g_28, a0g_29, a0g_30, a0g_31, a0g_32, a0g_33, a0g_34, a0g_35, a0g_36, a0g_37, a0g_38, a0g_39]))] [] t) A) := by
  refine zh (cc := cX8_turnOf) (maxL := 3) (ret := (some .int)) zn_RX8 rfl (Nat.le_of_ble_eq_true rfl) (fun p e s m below meth c A ls hx hb hml hr hts (hown : s.vm.findClass RX8 = some m.cls) hlocks hA hS hP hK hD hE (hl : lv_has ls 3 [(0, .ref a0), (1, .int a1)]) => ?_)
  refine lv_aload_n hx hb dX8_turnOf_0 rfl (lv_at hl 0 rfl) ?_
  refine va_callv (va_runV (As := []) (rest := []) ⟨hx, hb, hml, hown, hts⟩ (c_X8_good l dC dI s.heap.size a0 a0_0 a0g_1 a0g_2 a0g_3 a0g_4 a0g_5 a0g_6 a0g_7 a0g_8 a0g_9 a0g_10 a0g_12 a0g_13 (Value.int a0_14) a0g_15 a0g_16 a0g_17 a0g_18 a0g_19 a0g_20 a0g_21 a0g_22 a0g_23 a0g_24 a0g_25 a0g_26 a0g_27 a0g_28 a0g_29 a0g_30 a0g_31 a0g_32 a0g_33 a0g_34 a0g_35 a0g_36 a0g_37 a0g_38 a0g_39 a0_11 ) (cwV 0 hts gX8_turnOf_X8_good rfl rfl rfl zd_X8_good ⟨Nat.le_of_ble_eq_true rfl, Nat.le_of_ble_eq_true rfl⟩) ⟨ax_blind (fun _ _ _ _ _ => trivial), zr_8 (zp_K hK) (zp_P1 hP) (q0 := 0) rfl, ax_pre (zp_P1 hP) (zp_K hK) (zp_D1 hD) (fun _ _ => trivial)⟩ rfl rfl hl.1 rfl (lv_room (Nat.le_of_ble_eq_true rfl)) dX8_turnOf_1 ⟨Nat.le_of_ble_eq_true rfl, Nat.le_of_ble_eq_true rfl⟩) hS (fun q _ h => zp_F1 hD hS hA q h) (zp_F1 hD hS hA) (fun u t H locs ht hvm hw => zx_2 (fun v1na0_0 v1na0_11 hB hz1 hk1 hS1 => zo1 hB ht hP hD hk1 (zp_F1 hD hS hA) hS1 (fun hP hK1 hD hS => ?_)))
  refine lv_aload_n hx hb dX8_turnOf_4 rfl (lv_at hl 0 rfl) ?_
  refine lv_aload_n hx hb dX8_turnOf_5 rfl (lv_at hl 0 rfl) ?_
  refine va_get (D := (dC, dI)) (ci := 8) (v := .int a0_14) (C := RX8) (T := TX8) (N := 40) hx hb hts zi_X8_turnOf_8 hown hK hP 0 rfl rfl 14 (by decide) (hts (.fieldLink RX8 173 "WaxTurnsModel" "hasGallery" "Z") (zm_X8_turnOf_r1 (List.mem_of_getElem? (i := 0) rfl))) (fun _ h9 => h9) rfl dX8_turnOf_6 ?_
  refine lv_iload_n hx hb dX8_turnOf_9 rfl (lv_at hl 1 rfl) ?_
  refine lv_iconst (v := 0) hx hb dX8_turnOf_10 zk_iconst_0 ?_
  refine lv_ldcw (v := 2000000000) hx hb hown (hts (.constant RX8 289 (2000000000)) (zm_X8_turnOf_r1 (List.mem_of_getElem? (i := 1) rfl))) dX8_turnOf_11 ?_
  refine va_calli (va_runS (As := [.int a1, .int 0, .int 2000000000]) (rest := [.int a0_14, .ref a0]) ⟨hx, hb, hml, hown, hts⟩ (c_X8_in l dC dI H.size a1 0 2000000000 ) (va_cwS 3 hts gX8_turnOf_X8_in rfl rfl rfl zd_X8_in.2 ⟨Nat.le_of_ble_eq_true rfl, Nat.le_of_ble_eq_true rfl⟩) ⟨ax_blind (fun _ _ _ _ _ => trivial), ax_pre (zp_P0 hP) (zp_K hK) (zp_D0 hD) (fun _ _ => trivial)⟩ rfl rfl hl.1 rfl (lv_room (Nat.le_of_ble_eq_true rfl)) dX8_turnOf_14 ⟨Nat.le_of_ble_eq_true rfl, Nat.le_of_ble_eq_true rfl⟩) hS (fun q _ h => zp_F0 hD hS hA q h) (zp_F0 hD hS hA) (fun r14 u t H locs ht hvm hw hB hz1 hk1 hS1 => zo0 hB ht hP hD hk1 (zp_F0 hD hS hA) hS1 (fun hP hK1 hD hS => ?_))
  rcases hw with hw | hw
  · obtain ⟨hw, h14⟩ := hw
    subst hw
    have l14k0_a1 : (0 : Int) ≤ a1.toInt := Int.le_trans zq5 h14.1
    have u14k0_a1 : a1.toInt ≤ (2000000000 : Int) := Int.le_trans h14.2 zq73
    refine va_calli (va_runV (As := [.int a0_14, .int 1]) (rest := []) ⟨hx, hb, hml, hown, hts⟩ (c_X8_whyB l dC dI H.size a0 a0_14 1 (Value.int v1na0_0) a0g_1 a0g_2 a0g_3 a0g_4 a0g_5 a0g_6 a0g_7 a0g_8 a0g_9 a0g_10 (Value.int v1na0_11) a0g_12 a0g_13 (Value.int a0_14) a0g_15 a0g_16 a0g_17 a0g_18 a0g_19 a0g_20 a0g_21 a0g_22 a0g_23 a0g_24 a0g_25 a0g_26 a0g_27 a0g_28 a0g_29 a0g_30 a0g_31 a0g_32 a0g_33 a0g_34 a0g_35 a0g_36 a0g_37 a0g_38 a0g_39 ba0_14_l (Int.le_trans ba0_14_u zq4) (Int.le_trans zq4 zq1) zq0) (cwV 2 hts gX8_turnOf_X8_why rfl rfl rfl zd_X8_why ⟨Nat.le_of_ble_eq_true rfl, Nat.le_of_ble_eq_true rfl⟩) ⟨ax_blind (fun _ _ _ _ _ => trivial), zr_8 (zp_K hK) (zp_P1 hP) (q0 := 0) rfl, ax_pre (zp_P1 hP) (zp_K hK) (zp_D1 hD) (fun _ _ => trivial)⟩ rfl rfl hl.1 rfl (lv_room (Nat.le_of_ble_eq_true rfl)) dX8_turnOf_17 ⟨Nat.le_of_ble_eq_true rfl, Nat.le_of_ble_eq_true rfl⟩) hS (fun q _ h => zp_F1 hD hS hA q h) (zp_F1 hD hS hA) (fun r17 u t H locs ht hvm hw hB hz1 hk1 hS1 => zo1 hB ht hP hD hk1 (zp_F1 hD hS hA) hS1 (fun hP hK1 hD hS => ?_))
    rcases hw with hw | hw | hw
    · obtain ⟨hw, h17_0, h17_1, h17_2, h17_3⟩ := hw
      subst hw
      have l17k0_a0_14 : (1 : Int) ≤ a0_14.toInt := h17_0
      have u17k0_a0_14 : a0_14.toInt ≤ (0 : Int) := ba0_14_u
      exact absurd (Int.le_trans l17k0_a0_14 u17k0_a0_14) (by decide)
    · obtain ⟨hw, h17_0, h17_1⟩ := hw
      subst hw
      have l17k1_a0_14 : (0 : Int) ≤ a0_14.toInt := ba0_14_l
      have u17k1_a0_14 : a0_14.toInt ≤ (0 : Int) := ba0_14_u
      refine lv_istore_n (lv' := [(2, .int 1), (0, .ref a0), (1, .int a1)]) hx hb dX8_turnOf_20 rfl hl (by decide) rfl (fun ls hl => ?_)
      refine lv_iload_n hx hb dX8_turnOf_21 rfl (lv_at hl 0 rfl) ?_
      refine lv_if_eq (tgt := 31) hx hb dX8_turnOf_22 (by decide) (fun c22 => absurd c22 (by decide +kernel)) (fun _ => ?_)
      refine lv_aload_n hx hb dX8_turnOf_25 rfl (lv_at hl 1 rfl) ?_
      refine lv_iload_n hx hb dX8_turnOf_26 rfl (lv_at hl 0 rfl) ?_
      refine va_calli (va_runV (As := [.int 1]) (rest := []) ⟨hx, hb, hml, hown, hts⟩ (c_X8_no l dC dI H.size a0 1 (Value.int v1na0_0) a0g_1 a0g_2 a0g_3 a0g_4 a0g_5 a0g_6 a0g_7 a0g_8 a0g_9 a0g_10 a0g_12 a0g_13 (Value.int a0_14) a0g_15 a0g_16 a0g_17 a0g_18 a0g_19 a0g_20 a0g_21 a0g_22 a0g_23 a0g_24 a0g_25 a0g_26 a0g_27 a0g_28 a0g_29 a0g_30 a0g_31 a0g_32 a0g_33 a0g_34 a0g_35 a0g_36 a0g_37 a0g_38 a0g_39 v1na0_11 ) (cwV 1 hts gX8_turnOf_X8_no rfl rfl rfl zd_X8_no ⟨Nat.le_of_ble_eq_true rfl, Nat.le_of_ble_eq_true rfl⟩) ⟨ax_blind (fun _ _ _ _ _ => trivial), zr_8 (zp_K hK) (zp_P1 hP) (q0 := 0) rfl, ax_pre (zp_P1 hP) (zp_K hK) (zp_D1 hD) (fun _ _ => trivial)⟩ rfl rfl hl.1 rfl (lv_room (Nat.le_of_ble_eq_true rfl)) dX8_turnOf_27 ⟨Nat.le_of_ble_eq_true rfl, Nat.le_of_ble_eq_true rfl⟩) hS (fun q _ h => zp_F1 hD hS hA q h) (zp_F1 hD hS hA) (fun r27 u t H locs ht hvm hw => zx_1 (fun v27na0_11 hB hz1 hk1 hS1 => zo1 hB ht hP hD hk1 (zp_F1 hD hS hA) hS1 (fun hP hK1 hD hS => ?_)))
      have hw : r27 = (-1) := hw
      have hw := hw.symm
      subst hw
      exact W.iret (v := (-1)) hx hb hr (fun t ht hW => ⟨⟨(-1), (), rfl, rfl, v1na0_0, v27na0_11, by rw [ht]; exact hP, va_K.moved hW.alike hK, hD⟩, hS.F ht⟩) hS.2.2 dX8_turnOf_30
    · obtain ⟨hw, h17_0, h17_1, h17_2, h17_3⟩ := hw
      subst hw
      have l17k2_a0_14 : (1 : Int) ≤ a0_14.toInt := h17_0
      have u17k2_a0_14 : a0_14.toInt ≤ (0 : Int) := ba0_14_u
      exact absurd (Int.le_trans l17k2_a0_14 u17k2_a0_14) (by decide)
  · obtain ⟨hw, h14⟩ := hw
    subst hw
    refine va_calli (va_runV (As := [.int a0_14, .int 0]) (rest := []) ⟨hx, hb, hml, hown, hts⟩ (c_X8_whyB l dC dI H.size a0 a0_14 0 (Value.int v1na0_0) a0g_1 a0g_2 a0g_3 a0g_4 a0g_5 a0g_6 a0g_7 a0g_8 a0g_9 a0g_10 (Value.int v1na0_11) a0g_12 a0g_13 (Value.int a0_14) a0g_15 a0g_16 a0g_17 a0g_18 a0g_19 a0g_20 a0g_21 a0g_22 a0g_23 a0g_24 a0g_25 a0g_26 a0g_27 a0g_28 a0g_29 a0g_30 a0g_31 a0g_32 a0g_33 a0g_34 a0g_35 a0g_36 a0g_37 a0g_38 a0g_39 ba0_14_l (Int.le_trans ba0_14_u zq4) zq5 (Int.le_trans zq6 zq4)) (cwV 2 hts gX8_turnOf_X8_why rfl rfl rfl zd_X8_why ⟨Nat.le_of_ble_eq_true rfl, Nat.le_of_ble_eq_true rfl⟩) ⟨ax_blind (fun _ _ _ _ _ => trivial), zr_8 (zp_K hK) (zp_P1 hP) (q0 := 0) rfl, ax_pre (zp_P1 hP) (zp_K hK) (zp_D1 hD) (fun _ _ => trivial)⟩ rfl rfl hl.1 rfl (lv_room (Nat.le_of_ble_eq_true rfl)) dX8_turnOf_17 ⟨Nat.le_of_ble_eq_true rfl, Nat.le_of_ble_eq_true rfl⟩) hS (fun q _ h => zp_F1 hD hS hA q h) (zp_F1 hD hS hA) (fun r17 u t H locs ht hvm hw hB hz1 hk1 hS1 => zo1 hB ht hP hD hk1 (zp_F1 hD hS hA) hS1 (fun hP hK1 hD hS => ?_))
    rcases hw with hw | hw | hw
    · obtain ⟨hw, h17_0, h17_1, h17_2, h17_3⟩ := hw
      subst hw
      have l17k0_a0_14 : (1 : Int) ≤ a0_14.toInt := h17_0
      have u17k0_a0_14 : a0_14.toInt ≤ (0 : Int) := ba0_14_u
      exact absurd (Int.le_trans l17k0_a0_14 u17k0_a0_14) (by decide)
    · obtain ⟨hw, h17_0, h17_1⟩ := hw
      subst hw
      have l17k1_a0_14 : (0 : Int) ≤ a0_14.toInt := ba0_14_l
      have u17k1_a0_14 : a0_14.toInt ≤ (0 : Int) := ba0_14_u
      refine lv_istore_n (lv' := [(2, .int 1), (0, .ref a0), (1, .int a1)]) hx hb dX8_turnOf_20 rfl hl (by decide) rfl (fun ls hl => ?_)
      refine lv_iload_n hx hb dX8_turnOf_21 rfl (lv_at hl 0 rfl) ?_
      refine lv_if_eq (tgt := 31) hx hb dX8_turnOf_22 (by decide) (fun c22 => absurd c22 (by decide +kernel)) (fun _ => ?_)
      refine lv_aload_n hx hb dX8_turnOf_25 rfl (lv_at hl 1 rfl) ?_
      refine lv_iload_n hx hb dX8_turnOf_26 rfl (lv_at hl 0 rfl) ?_
      refine va_calli (va_runV (As := [.int 1]) (rest := []) ⟨hx, hb, hml, hown, hts⟩ (c_X8_no l dC dI H.size a0 1 (Value.int v1na0_0) a0g_1 a0g_2 a0g_3 a0g_4 a0g_5 a0g_6 a0g_7 a0g_8 a0g_9 a0g_10 a0g_12 a0g_13 (Value.int a0_14) a0g_15 a0g_16 a0g_17 a0g_18 a0g_19 a0g_20 a0g_21 a0g_22 a0g_23 a0g_24 a0g_25 a0g_26 a0g_27 a0g_28 a0g_29 a0g_30 a0g_31 a0g_32 a0g_33 a0g_34 a0g_35 a0g_36 a0g_37 a0g_38 a0g_39 v1na0_11 ) (cwV 1 hts gX8_turnOf_X8_no rfl rfl rfl zd_X8_no ⟨Nat.le_of_ble_eq_true rfl, Nat.le_of_ble_eq_true rfl⟩) ⟨ax_blind (fun _ _ _ _ _ => trivial), zr_8 (zp_K hK) (zp_P1 hP) (q0 := 0) rfl, ax_pre (zp_P1 hP) (zp_K hK) (zp_D1 hD) (fun _ _ => trivial)⟩ rfl rfl hl.1 rfl (lv_room (Nat.le_of_ble_eq_true rfl)) dX8_turnOf_27 ⟨Nat.le_of_ble_eq_true rfl, Nat.le_of_ble_eq_true rfl⟩) hS (fun q _ h => zp_F1 hD hS hA q h) (zp_F1 hD hS hA) (fun r27 u t H locs ht hvm hw => zx_1 (fun v27na0_11 hB hz1 hk1 hS1 => zo1 hB ht hP hD hk1 (zp_F1 hD hS hA) hS1 (fun hP hK1 hD hS => ?_)))
      have hw : r27 = (-1) := hw
      have hw := hw.symm
      subst hw
      exact W.iret (v := (-1)) hx hb hr (fun t ht hW => ⟨⟨(-1), (), rfl, rfl, v1na0_0, v27na0_11, by rw [ht]; exact hP, va_K.moved hW.alike hK, hD⟩, hS.F ht⟩) hS.2.2 dX8_turnOf_30
    · obtain ⟨hw, h17_0, h17_1, h17_2, h17_3⟩ := hw
      subst hw
      have l17k2_a0_14 : (1 : Int) ≤ a0_14.toInt := h17_0
      have u17k2_a0_14 : a0_14.toInt ≤ (0 : Int) := ba0_14_u
      exact absurd (Int.le_trans l17k2_a0_14 u17k2_a0_14) (by decide)
end P280_00_safe
section P280_01_safe
set_option maxHeartbeats 4000000 in
set_option maxRecDepth 100000 in
theorem c0_X8_turnIn (l : Launch) (dC : Nat → ClassId) (dI : Nat → Nat → Nat) (sz : Nat) (a0 : Nat) (a1 : Int32) (a0_0 : Int32) (a0g_1 a0g_2 a0g_3 a0g_4 a0g_5 a0g_6 a0g_7 a0g_8 a0g_9 a0g_10 a0g_12 a0g_13 a0g_15 a0g_16 a0g_17 a0g_18 a0g_19 a0g_20 a0g_21 a0g_22 a0g_23 a0g_24 a0g_25 a0g_26 a0g_27 a0g_28 a0g_29 a0g_30 a0g_31 a0g_32 a0g_33 a0g_34 a0g_35 a0g_36 a0g_37 a0g_38 a0g_39 : Value) (a0_11 : Int32) (a0_14 : Int32) (ba0_14_l : (0 : Int) ≤ a0_14.toInt) (ba0_14_u : a0_14.toInt ≤ (0 : Int)) : zm l yX8_turnIn wsX8_turnIn ({ frames := 1, cells := 0, slots := 0, locals := 21 }) [.ref a0, .int a1] dC dI sz [(a0, .inr (8, [Value.int a0_0, a0g_1, a0g_2, a0g_3, a0g_4, a0g_5, a0g_6, a0g_7, a0g_8, a0g_9, a0g_10, Value.int a0_11, a0g_12, a0g_13, Value.int a0_14, a0g_15, a0g_16, a0g_17, a0g_18, a0g_19, a0g_20, a0g_21, a0g_22, a0g_23, a0g_24, a0g_25, a0g_26, a0g_27, a0g_28, a0g_29, a0g_30, a0g_31, a0g_32, a0g_33, a0g_34, a0g_35, a0g_36, a0g_37, a0g_38, a0g_39]))] [] (fun A _ => True) (fun A => va_Qi (fun (r : Int32) (_ : Unit) => r = (-1)) (fun (_ : Unit) (t : State) => ∃ na0_0 : Int32, ∃ na0_11 : Int32, ax_B dC dI A [(a0, .inr (8, [Value.int na0_0, a0g_1, a0g_2, a0g_3, a0g_4, a0g_5, a0g_6, a0g_7, a0g_8, a0g_9, a0g_10, Value.int na0_11, a0g_12, a0g_13, Value.int a0_14, a0g_15, a0g_16, a0g_17, a0g_18, a0g_19, a0g_20, a0g_21, a0g_22, a0g_23, a0g_24, a0g_25, a0g_26, a0g_27, a0g_28, a0g_29, a0g_30, a0g_31, a0g_32, a0g_33, a0g_34, a0g_35, a0g_36, a0g_37, a0g_38, a0g_39]))] [] t) A) := by
  refine zh (cc := cX8_turnIn) (maxL := 3) (ret := (some .int)) zn_RX8 rfl (Nat.le_of_ble_eq_true rfl) (fun p e s m below meth c A ls hx hb hml hr hts (hown : s.vm.findClass RX8 = some m.cls) hlocks hA hS hP hK hD hE (hl : lv_has ls 3 [(0, .ref a0), (1, .int a1)]) => ?_)
  refine ai_open (fun K hK0 => ?_)
  refine (hK0 _ _ _).mpr ?_
  refine lv_aload_n hx hb dX8_turnIn_0 rfl (lv_at hl 0 rfl) ?_
  refine va_callv (va_runV (As := []) (rest := []) ⟨hx, hb, hml, hown, hts⟩ (c_X8_good l dC dI s.heap.size a0 a0_0 a0g_1 a0g_2 a0g_3 a0g_4 a0g_5 a0g_6 a0g_7 a0g_8 a0g_9 a0g_10 a0g_12 a0g_13 (Value.int a0_14) a0g_15 a0g_16 a0g_17 a0g_18 a0g_19 a0g_20 a0g_21 a0g_22 a0g_23 a0g_24 a0g_25 a0g_26 a0g_27 a0g_28 a0g_29 a0g_30 a0g_31 a0g_32 a0g_33 a0g_34 a0g_35 a0g_36 a0g_37 a0g_38 a0g_39 a0_11 ) (cwV 0 hts gX8_turnIn_X8_good rfl rfl rfl zd_X8_good ⟨Nat.le_of_ble_eq_true rfl, Nat.le_of_ble_eq_true rfl⟩) ⟨ax_blind (fun _ _ _ _ _ => trivial), zr_8 (zp_K hK) (zp_P1 hP) (q0 := 0) rfl, ax_pre (zp_P1 hP) (zp_K hK) (zp_D1 hD) (fun _ _ => trivial)⟩ rfl rfl hl.1 rfl (lv_room (Nat.le_of_ble_eq_true rfl)) dX8_turnIn_1 ⟨Nat.le_of_ble_eq_true rfl, Nat.le_of_ble_eq_true rfl⟩) hS (fun q _ h => zp_F1 hD hS hA q h) (zp_F1 hD hS hA) (fun u t H locs ht hvm hw => zx_2 (fun v1na0_0 v1na0_11 hB hz1 hk1 hS1 => zo1 hB ht hP hD hk1 (zp_F1 hD hS hA) hS1 (fun hP hK1 hD hS => ?_)))
  refine lv_aload_n hx hb dX8_turnIn_4 rfl (lv_at hl 0 rfl) ?_
  refine lv_iload_n hx hb dX8_turnIn_5 rfl (lv_at hl 1 rfl) ?_
  refine va_calli (va_runV (As := [.int a1]) (rest := []) ⟨hx, hb, hml, hown, hts⟩ (c0_X8_isFigure l dC dI H.size a0 a1 (Value.int v1na0_0) a0g_1 a0g_2 a0g_3 a0g_4 a0g_5 a0g_6 a0g_7 a0g_8 a0g_9 a0g_10 (Value.int v1na0_11) a0g_12 a0g_13 a0g_15 a0g_16 a0g_17 a0g_18 a0g_19 a0g_20 a0g_21 a0g_22 a0g_23 a0g_24 a0g_25 a0g_26 a0g_27 a0g_28 a0g_29 a0g_30 a0g_31 a0g_32 a0g_33 a0g_34 a0g_35 a0g_36 a0g_37 a0g_38 a0g_39 a0_14 ba0_14_l ba0_14_u) (cwV 1 hts gX8_turnIn_X8_isFigure rfl rfl rfl zd_X8_isFigure ⟨Nat.le_of_ble_eq_true rfl, Nat.le_of_ble_eq_true rfl⟩) ⟨ax_blind (fun _ _ _ _ _ => trivial), zr_8 (zp_K hK) (zp_P1 hP) (q0 := 0) rfl, ax_pre (zp_P1 hP) (zp_K hK) (zp_D1 hD) (fun _ _ => trivial)⟩ rfl rfl hl.1 rfl (lv_room (Nat.le_of_ble_eq_true rfl)) dX8_turnIn_6 ⟨Nat.le_of_ble_eq_true rfl, Nat.le_of_ble_eq_true rfl⟩) hS (fun q _ h => zp_F1 hD hS hA q h) (zp_F1 hD hS hA) (fun r6 u t H locs ht hvm hw hB hz1 hk1 hS1 => zo1 hB ht hP hD hk1 (zp_F1 hD hS hA) hS1 (fun hP hK1 hD hS => ?_))
  have hw : r6 = 0 := hw
  have hw := hw.symm
  subst hw
  refine lv_if_ne (tgt := 18) hx hb dX8_turnIn_9 (by decide) (fun c9 => absurd (by decide +kernel) c9) (fun _ => ?_)
  refine lv_aload_n hx hb dX8_turnIn_12 rfl (lv_at hl 0 rfl) ?_
  refine lv_iconst (v := 1) hx hb dX8_turnIn_13 zk_iconst_1 ?_
  refine va_calli (va_runV (As := [.int 1]) (rest := []) ⟨hx, hb, hml, hown, hts⟩ (c_X8_no l dC dI H.size a0 1 (Value.int v1na0_0) a0g_1 a0g_2 a0g_3 a0g_4 a0g_5 a0g_6 a0g_7 a0g_8 a0g_9 a0g_10 a0g_12 a0g_13 (Value.int a0_14) a0g_15 a0g_16 a0g_17 a0g_18 a0g_19 a0g_20 a0g_21 a0g_22 a0g_23 a0g_24 a0g_25 a0g_26 a0g_27 a0g_28 a0g_29 a0g_30 a0g_31 a0g_32 a0g_33 a0g_34 a0g_35 a0g_36 a0g_37 a0g_38 a0g_39 v1na0_11 ) (cwV 1 hts gX8_turnIn_X8_no rfl rfl rfl zd_X8_no ⟨Nat.le_of_ble_eq_true rfl, Nat.le_of_ble_eq_true rfl⟩) ⟨ax_blind (fun _ _ _ _ _ => trivial), zr_8 (zp_K hK) (zp_P1 hP) (q0 := 0) rfl, ax_pre (zp_P1 hP) (zp_K hK) (zp_D1 hD) (fun _ _ => trivial)⟩ rfl rfl hl.1 rfl (lv_room (Nat.le_of_ble_eq_true rfl)) dX8_turnIn_14 ⟨Nat.le_of_ble_eq_true rfl, Nat.le_of_ble_eq_true rfl⟩) hS (fun q _ h => zp_F1 hD hS hA q h) (zp_F1 hD hS hA) (fun r14 u t H locs ht hvm hw => zx_1 (fun v14na0_11 hB hz1 hk1 hS1 => zo1 hB ht hP hD hk1 (zp_F1 hD hS hA) hS1 (fun hP hK1 hD hS => ?_)))
  have hw : r14 = (-1) := hw
  have hw := hw.symm
  subst hw
  exact W.iret (v := (-1)) hx hb hr (fun t ht hW => ⟨⟨(-1), (), rfl, rfl, v1na0_0, v14na0_11, by rw [ht]; exact hP, va_K.moved hW.alike hK, hD⟩, hS.F ht⟩) hS.2.2 dX8_turnIn_17

set_option maxHeartbeats 4000000 in
set_option maxRecDepth 100000 in
theorem c0_X8_settles (l : Launch) (dC : Nat → ClassId) (dI : Nat → Nat → Nat) (sz : Nat) (a0 : Nat) (a0_0 : Int32) (a0g_1 a0g_2 a0g_3 a0g_4 a0g_5 a0g_6 a0g_7 a0g_8 a0g_9 a0g_10 a0g_12 a0g_13 a0g_15 a0g_16 a0g_17 a0g_18 a0g_19 a0g_20 a0g_21 a0g_22 a0g_23 a0g_24 a0g_25 a0g_26 a0g_27 a0g_28 a0g_29 a0g_30 a0g_31 a0g_32 a0g_33 a0g_34 a0g_35 a0g_36 a0g_37 a0g_38 a0g_39 : Value) (a0_11 : Int32) (a0_14 : Int32) (ba0_14_l : (0 : Int) ≤ a0_14.toInt) (ba0_14_u : a0_14.toInt ≤ (0 : Int)) : zm l yX8_settles wsX8_settles ({ frames := 1, cells := 0, slots := 0, locals := 21 }) [.ref a0] dC dI sz [(a0, .inr (8, [Value.int a0_0, a0g_1, a0g_2, a0g_3, a0g_4, a0g_5, a0g_6, a0g_7, a0g_8, a0g_9, a0g_10, Value.int a0_11, a0g_12, a0g_13, Value.int a0_14, a0g_15, a0g_16, a0g_17, a0g_18, a0g_19, a0g_20, a0g_21, a0g_22, a0g_23, a0g_24, a0g_25, a0g_26, a0g_27, a0g_28, a0g_29, a0g_30, a0g_31, a0g_32, a0g_33, a0g_34, a0g_35, a0g_36, a0g_37, a0g_38, a0g_39]))] [] (fun A _ => True) (fun A => va_Qi (fun (r : Int32) (_ : Unit) => r = (-1)) (fun (_ : Unit) (t : State) => ∃ na0_0 : Int32, ∃ na0_11 : Int32, ax_B dC dI A [(a0, .inr (8, [Value.int na0_0, a0g_1, a0g_2, a0g_3, a0g_4, a0g_5, a0g_6, a0g_7, a0g_8, a0g_9, a0g_10, Value.int na0_11, a0g_12, a0g_13, Value.int a0_14, a0g_15, a0g_16, a0g_17, a0g_18, a0g_19, a0g_20, a0g_21, a0g_22, a0g_23, a0g_24, a0g_25, a0g_26, a0g_27, a0g_28, a0g_29, a0g_30, a0g_31, a0g_32, a0g_33, a0g_34, a0g_35, a0g_36, a0g_37, a0g_38, a0g_39]))] [] t) A) := by
  refine zh (cc := cX8_settles) (maxL := 1) (ret := (some .int)) zn_RX8 rfl (Nat.le_of_ble_eq_true rfl) (fun p e s m below meth c A ls hx hb hml hr hts (hown : s.vm.findClass RX8 = some m.cls) hlocks hA hS hP hK hD hE (hl : lv_has ls 1 [(0, .ref a0)]) => ?_)
  refine lv_aload_n hx hb dX8_settles_0 rfl (lv_at hl 0 rfl) ?_
  refine va_callv (va_runV (As := []) (rest := []) ⟨hx, hb, hml, hown, hts⟩ (c_X8_good l dC dI s.heap.size a0 a0_0 a0g_1 a0g_2 a0g_3 a0g_4 a0g_5 a0g_6 a0g_7 a0g_8 a0g_9 a0g_10 a0g_12 a0g_13 (Value.int a0_14) a0g_15 a0g_16 a0g_17 a0g_18 a0g_19 a0g_20 a0g_21 a0g_22 a0g_23 a0g_24 a0g_25 a0g_26 a0g_27 a0g_28 a0g_29 a0g_30 a0g_31 a0g_32 a0g_33 a0g_34 a0g_35 a0g_36 a0g_37 a0g_38 a0g_39 a0_11 ) (cwV 0 hts gX8_settles_X8_good rfl rfl rfl zd_X8_good ⟨Nat.le_of_ble_eq_true rfl, Nat.le_of_ble_eq_true rfl⟩) ⟨ax_blind (fun _ _ _ _ _ => trivial), zr_8 (zp_K hK) (zp_P1 hP) (q0 := 0) rfl, ax_pre (zp_P1 hP) (zp_K hK) (zp_D1 hD) (fun _ _ => trivial)⟩ rfl rfl hl.1 rfl (lv_room (Nat.le_of_ble_eq_true rfl)) dX8_settles_1 ⟨Nat.le_of_ble_eq_true rfl, Nat.le_of_ble_eq_true rfl⟩) hS (fun q _ h => zp_F1 hD hS hA q h) (zp_F1 hD hS hA) (fun u t H locs ht hvm hw => zx_2 (fun v1na0_0 v1na0_11 hB hz1 hk1 hS1 => zo1 hB ht hP hD hk1 (zp_F1 hD hS hA) hS1 (fun hP hK1 hD hS => ?_)))
  refine lv_aload_n hx hb dX8_settles_4 rfl (lv_at hl 0 rfl) ?_
  refine va_get (D := (dC, dI)) (ci := 8) (v := .int a0_14) (C := RX8) (T := TX8) (N := 40) hx hb hts zi_X8_settles_8 hown hK hP 0 rfl rfl 14 (by decide) (hts (.fieldLink RX8 173 "WaxTurnsModel" "hasGallery" "Z") (zm_X8_settles_r1 (List.mem_of_getElem? (i := 0) rfl))) (fun _ h9 => h9) rfl dX8_settles_5 ?_
  refine lv_if_ne (tgt := 17) hx hb dX8_settles_8 (by decide) (fun c8 => ?_) (fun c8 => ?_)
  · have gc8 := ai_ne c8
    have l8t_a0_14 : (1 : Int) ≤ a0_14.toInt := (by first | exact zg_l ba0_14_l gc8 (by decide) (by decide) | (have h1 := ba0_14_l; have h2 : (0 : Int32).toInt = 0 := (by decide); rw [h2] at gc8; omega))
    have u8t_a0_14 : a0_14.toInt ≤ (-1 : Int) := (by first | exact zg_u ba0_14_u gc8 (by decide) (by decide) | (have h1 := ba0_14_u; have h2 : (0 : Int32).toInt = 0 := (by decide); rw [h2] at gc8; omega))
    exact absurd (Int.le_trans l8t_a0_14 u8t_a0_14) (by decide)
  · have gc8 := ai_eq c8
    have u8f_a0_14 : a0_14.toInt ≤ (0 : Int) := ba0_14_u
    have l8f_a0_14 : (0 : Int) ≤ a0_14.toInt := ba0_14_l
    refine lv_aload_n hx hb dX8_settles_11 rfl (lv_at hl 0 rfl) ?_
    refine lv_iconst (v := 1) hx hb dX8_settles_12 zk_iconst_1 ?_
    refine va_calli (va_runV (As := [.int 1]) (rest := []) ⟨hx, hb, hml, hown, hts⟩ (c_X8_no l dC dI H.size a0 1 (Value.int v1na0_0) a0g_1 a0g_2 a0g_3 a0g_4 a0g_5 a0g_6 a0g_7 a0g_8 a0g_9 a0g_10 a0g_12 a0g_13 (Value.int a0_14) a0g_15 a0g_16 a0g_17 a0g_18 a0g_19 a0g_20 a0g_21 a0g_22 a0g_23 a0g_24 a0g_25 a0g_26 a0g_27 a0g_28 a0g_29 a0g_30 a0g_31 a0g_32 a0g_33 a0g_34 a0g_35 a0g_36 a0g_37 a0g_38 a0g_39 v1na0_11 ) (cwV 1 hts gX8_settles_X8_no rfl rfl rfl zd_X8_no ⟨Nat.le_of_ble_eq_true rfl, Nat.le_of_ble_eq_true rfl⟩) ⟨ax_blind (fun _ _ _ _ _ => trivial), zr_8 (zp_K hK) (zp_P1 hP) (q0 := 0) rfl, ax_pre (zp_P1 hP) (zp_K hK) (zp_D1 hD) (fun _ _ => trivial)⟩ rfl rfl hl.1 rfl (lv_room (Nat.le_of_ble_eq_true rfl)) dX8_settles_13 ⟨Nat.le_of_ble_eq_true rfl, Nat.le_of_ble_eq_true rfl⟩) hS (fun q _ h => zp_F1 hD hS hA q h) (zp_F1 hD hS hA) (fun r13 u t H locs ht hvm hw => zx_1 (fun v13na0_11 hB hz1 hk1 hS1 => zo1 hB ht hP hD hk1 (zp_F1 hD hS hA) hS1 (fun hP hK1 hD hS => ?_)))
    have hw : r13 = (-1) := hw
    have hw := hw.symm
    subst hw
    exact W.iret (v := (-1)) hx hb hr (fun t ht hW => ⟨⟨(-1), (), rfl, rfl, v1na0_0, v13na0_11, by rw [ht]; exact hP, va_K.moved hW.alike hK, hD⟩, hS.F ht⟩) hS.2.2 dX8_settles_16

set_option maxHeartbeats 4000000 in
set_option maxRecDepth 100000 in
theorem c0_X8_round (l : Launch) (dC : Nat → ClassId) (dI : Nat → Nat → Nat) (sz : Nat) (a0 : Nat) (a0_0 : Int32) (a0g_1 a0g_2 a0g_3 a0g_4 a0g_5 a0g_6 a0g_7 a0g_8 a0g_9 a0g_10 a0g_12 a0g_13 a0g_15 a0g_16 a0g_17 a0g_18 a0g_19 a0g_20 a0g_21 a0g_22 a0g_23 a0g_24 a0g_25 a0g_26 a0g_27 a0g_28 a0g_29 a0g_30 a0g_31 a0g_32 a0g_33 a0g_34 a0g_35 a0g_36 a0g_37 a0g_38 a0g_39 : Value) (a0_11 : Int32) (a0_14 : Int32) (ba0_14_l : (0 : Int) ≤ a0_14.toInt) (ba0_14_u : a0_14.toInt ≤ (0 : Int)) : zm l yX8_round wsX8_round ({ frames := 1, cells := 0, slots := 0, locals := 21 }) [.ref a0] dC dI sz [(a0, .inr (8, [Value.int a0_0, a0g_1, a0g_2, a0g_3, a0g_4, a0g_5, a0g_6, a0g_7, a0g_8, a0g_9, a0g_10, Value.int a0_11, a0g_12, a0g_13, Value.int a0_14, a0g_15, a0g_16, a0g_17, a0g_18, a0g_19, a0g_20, a0g_21, a0g_22, a0g_23, a0g_24, a0g_25, a0g_26, a0g_27, a0g_28, a0g_29, a0g_30, a0g_31, a0g_32, a0g_33, a0g_34, a0g_35, a0g_36, a0g_37, a0g_38, a0g_39]))] [] (fun A _ => True) (fun A => va_Qi (fun (r : Int32) (_ : Unit) => r = (-1)) (fun (_ : Unit) (t : State) => ∃ na0_0 : Int32, ∃ na0_11 : Int32, ax_B dC dI A [(a0, .inr (8, [Value.int na0_0, a0g_1, a0g_2, a0g_3, a0g_4, a0g_5, a0g_6, a0g_7, a0g_8, a0g_9, a0g_10, Value.int na0_11, a0g_12, a0g_13, Value.int a0_14, a0g_15, a0g_16, a0g_17, a0g_18, a0g_19, a0g_20, a0g_21, a0g_22, a0g_23, a0g_24, a0g_25, a0g_26, a0g_27, a0g_28, a0g_29, a0g_30, a0g_31, a0g_32, a0g_33, a0g_34, a0g_35, a0g_36, a0g_37, a0g_38, a0g_39]))] [] t) A) := by
  refine zh (cc := cX8_round) (maxL := 1) (ret := (some .int)) zn_RX8 rfl (Nat.le_of_ble_eq_true rfl) (fun p e s m below meth c A ls hx hb hml hr hts (hown : s.vm.findClass RX8 = some m.cls) hlocks hA hS hP hK hD hE (hl : lv_has ls 1 [(0, .ref a0)]) => ?_)
  refine lv_aload_n hx hb dX8_round_0 rfl (lv_at hl 0 rfl) ?_
  refine va_callv (va_runV (As := []) (rest := []) ⟨hx, hb, hml, hown, hts⟩ (c_X8_good l dC dI s.heap.size a0 a0_0 a0g_1 a0g_2 a0g_3 a0g_4 a0g_5 a0g_6 a0g_7 a0g_8 a0g_9 a0g_10 a0g_12 a0g_13 (Value.int a0_14) a0g_15 a0g_16 a0g_17 a0g_18 a0g_19 a0g_20 a0g_21 a0g_22 a0g_23 a0g_24 a0g_25 a0g_26 a0g_27 a0g_28 a0g_29 a0g_30 a0g_31 a0g_32 a0g_33 a0g_34 a0g_35 a0g_36 a0g_37 a0g_38 a0g_39 a0_11 ) (cwV 0 hts gX8_round_X8_good rfl rfl rfl zd_X8_good ⟨Nat.le_of_ble_eq_true rfl, Nat.le_of_ble_eq_true rfl⟩) ⟨ax_blind (fun _ _ _ _ _ => trivial), zr_8 (zp_K hK) (zp_P1 hP) (q0 := 0) rfl, ax_pre (zp_P1 hP) (zp_K hK) (zp_D1 hD) (fun _ _ => trivial)⟩ rfl rfl hl.1 rfl (lv_room (Nat.le_of_ble_eq_true rfl)) dX8_round_1 ⟨Nat.le_of_ble_eq_true rfl, Nat.le_of_ble_eq_true rfl⟩) hS (fun q _ h => zp_F1 hD hS hA q h) (zp_F1 hD hS hA) (fun u t H locs ht hvm hw => zx_2 (fun v1na0_0 v1na0_11 hB hz1 hk1 hS1 => zo1 hB ht hP hD hk1 (zp_F1 hD hS hA) hS1 (fun hP hK1 hD hS => ?_)))
  refine lv_aload_n hx hb dX8_round_4 rfl (lv_at hl 0 rfl) ?_
  refine va_get (D := (dC, dI)) (ci := 8) (v := .int a0_14) (C := RX8) (T := TX8) (N := 40) hx hb hts zi_X8_round_8 hown hK hP 0 rfl rfl 14 (by decide) (hts (.fieldLink RX8 173 "WaxTurnsModel" "hasGallery" "Z") (zm_X8_round_r1 (List.mem_of_getElem? (i := 0) rfl))) (fun _ h9 => h9) rfl dX8_round_5 ?_
  refine lv_if_ne (tgt := 17) hx hb dX8_round_8 (by decide) (fun c8 => ?_) (fun c8 => ?_)
  · have gc8 := ai_ne c8
    have l8t_a0_14 : (1 : Int) ≤ a0_14.toInt := (by first | exact zg_l ba0_14_l gc8 (by decide) (by decide) | (have h1 := ba0_14_l; have h2 : (0 : Int32).toInt = 0 := (by decide); rw [h2] at gc8; omega))
    have u8t_a0_14 : a0_14.toInt ≤ (-1 : Int) := (by first | exact zg_u ba0_14_u gc8 (by decide) (by decide) | (have h1 := ba0_14_u; have h2 : (0 : Int32).toInt = 0 := (by decide); rw [h2] at gc8; omega))
    exact absurd (Int.le_trans l8t_a0_14 u8t_a0_14) (by decide)
  · have gc8 := ai_eq c8
    have u8f_a0_14 : a0_14.toInt ≤ (0 : Int) := ba0_14_u
    have l8f_a0_14 : (0 : Int) ≤ a0_14.toInt := ba0_14_l
    refine lv_aload_n hx hb dX8_round_11 rfl (lv_at hl 0 rfl) ?_
    refine lv_iconst (v := 1) hx hb dX8_round_12 zk_iconst_1 ?_
    refine va_calli (va_runV (As := [.int 1]) (rest := []) ⟨hx, hb, hml, hown, hts⟩ (c_X8_no l dC dI H.size a0 1 (Value.int v1na0_0) a0g_1 a0g_2 a0g_3 a0g_4 a0g_5 a0g_6 a0g_7 a0g_8 a0g_9 a0g_10 a0g_12 a0g_13 (Value.int a0_14) a0g_15 a0g_16 a0g_17 a0g_18 a0g_19 a0g_20 a0g_21 a0g_22 a0g_23 a0g_24 a0g_25 a0g_26 a0g_27 a0g_28 a0g_29 a0g_30 a0g_31 a0g_32 a0g_33 a0g_34 a0g_35 a0g_36 a0g_37 a0g_38 a0g_39 v1na0_11 ) (cwV 1 hts gX8_round_X8_no rfl rfl rfl zd_X8_no ⟨Nat.le_of_ble_eq_true rfl, Nat.le_of_ble_eq_true rfl⟩) ⟨ax_blind (fun _ _ _ _ _ => trivial), zr_8 (zp_K hK) (zp_P1 hP) (q0 := 0) rfl, ax_pre (zp_P1 hP) (zp_K hK) (zp_D1 hD) (fun _ _ => trivial)⟩ rfl rfl hl.1 rfl (lv_room (Nat.le_of_ble_eq_true rfl)) dX8_round_13 ⟨Nat.le_of_ble_eq_true rfl, Nat.le_of_ble_eq_true rfl⟩) hS (fun q _ h => zp_F1 hD hS hA q h) (zp_F1 hD hS hA) (fun r13 u t H locs ht hvm hw => zx_1 (fun v13na0_11 hB hz1 hk1 hS1 => zo1 hB ht hP hD hk1 (zp_F1 hD hS hA) hS1 (fun hP hK1 hD hS => ?_)))
    have hw : r13 = (-1) := hw
    have hw := hw.symm
    subst hw
    exact W.iret (v := (-1)) hx hb hr (fun t ht hW => ⟨⟨(-1), (), rfl, rfl, v1na0_0, v13na0_11, by rw [ht]; exact hP, va_K.moved hW.alike hK, hD⟩, hS.F ht⟩) hS.2.2 dX8_round_16

set_option maxHeartbeats 4000000 in
set_option maxRecDepth 100000 in
theorem c0_X8_called (l : Launch) (dC : Nat → ClassId) (dI : Nat → Nat → Nat) (sz : Nat) (a0 : Nat) (a0_0 : Int32) (a0g_1 a0g_2 a0g_3 a0g_4 a0g_5 a0g_6 a0g_7 a0g_8 a0g_9 a0g_10 a0g_12 a0g_13 a0g_15 a0g_16 a0g_17 a0g_18 a0g_19 a0g_20 a0g_21 a0g_22 a0g_23 a0g_24 a0g_25 a0g_26 a0g_27 a0g_28 a0g_29 a0g_30 a0g_31 a0g_32 a0g_33 a0g_34 a0g_35 a0g_36 a0g_37 a0g_38 a0g_39 : Value) (a0_11 : Int32) (a0_14 : Int32) (ba0_14_l : (0 : Int) ≤ a0_14.toInt) (ba0_14_u : a0_14.toInt ≤ (0 : Int)) : zm l yX8_called wsX8_called ({ frames := 1, cells := 0, slots := 0, locals := 21 }) [.ref a0] dC dI sz [(a0, .inr (8, [Value.int a0_0, a0g_1, a0g_2, a0g_3, a0g_4, a0g_5, a0g_6, a0g_7, a0g_8, a0g_9, a0g_10, Value.int a0_11, a0g_12, a0g_13, Value.int a0_14, a0g_15, a0g_16, a0g_17, a0g_18, a0g_19, a0g_20, a0g_21, a0g_22, a0g_23, a0g_24, a0g_25, a0g_26, a0g_27, a0g_28, a0g_29, a0g_30, a0g_31, a0g_32, a0g_33, a0g_34, a0g_35, a0g_36, a0g_37, a0g_38, a0g_39]))] [] (fun A _ => True) (fun A => va_Qi (fun (r : Int32) (_ : Unit) => r = (-1)) (fun (_ : Unit) (t : State) => ∃ na0_0 : Int32, ∃ na0_11 : Int32, ax_B dC dI A [(a0, .inr (8, [Value.int na0_0, a0g_1, a0g_2, a0g_3, a0g_4, a0g_5, a0g_6, a0g_7, a0g_8, a0g_9, a0g_10, Value.int na0_11, a0g_12, a0g_13, Value.int a0_14, a0g_15, a0g_16, a0g_17, a0g_18, a0g_19, a0g_20, a0g_21, a0g_22, a0g_23, a0g_24, a0g_25, a0g_26, a0g_27, a0g_28, a0g_29, a0g_30, a0g_31, a0g_32, a0g_33, a0g_34, a0g_35, a0g_36, a0g_37, a0g_38, a0g_39]))] [] t) A) := by
  refine zh (cc := cX8_called) (maxL := 3) (ret := (some .int)) zn_RX8 rfl (Nat.le_of_ble_eq_true rfl) (fun p e s m below meth c A ls hx hb hml hr hts (hown : s.vm.findClass RX8 = some m.cls) hlocks hA hS hP hK hD hE (hl : lv_has ls 3 [(0, .ref a0)]) => ?_)
  refine ai_open (fun K hK0 => ?_)
  refine (hK0 _ _ _).mpr ?_
  refine lv_aload_n hx hb dX8_called_0 rfl (lv_at hl 0 rfl) ?_
  refine va_callv (va_runV (As := []) (rest := []) ⟨hx, hb, hml, hown, hts⟩ (c_X8_good l dC dI s.heap.size a0 a0_0 a0g_1 a0g_2 a0g_3 a0g_4 a0g_5 a0g_6 a0g_7 a0g_8 a0g_9 a0g_10 a0g_12 a0g_13 (Value.int a0_14) a0g_15 a0g_16 a0g_17 a0g_18 a0g_19 a0g_20 a0g_21 a0g_22 a0g_23 a0g_24 a0g_25 a0g_26 a0g_27 a0g_28 a0g_29 a0g_30 a0g_31 a0g_32 a0g_33 a0g_34 a0g_35 a0g_36 a0g_37 a0g_38 a0g_39 a0_11 ) (cwV 0 hts gX8_called_X8_good rfl rfl rfl zd_X8_good ⟨Nat.le_of_ble_eq_true rfl, Nat.le_of_ble_eq_true rfl⟩) ⟨ax_blind (fun _ _ _ _ _ => trivial), zr_8 (zp_K hK) (zp_P1 hP) (q0 := 0) rfl, ax_pre (zp_P1 hP) (zp_K hK) (zp_D1 hD) (fun _ _ => trivial)⟩ rfl rfl hl.1 rfl (lv_room (Nat.le_of_ble_eq_true rfl)) dX8_called_1 ⟨Nat.le_of_ble_eq_true rfl, Nat.le_of_ble_eq_true rfl⟩) hS (fun q _ h => zp_F1 hD hS hA q h) (zp_F1 hD hS hA) (fun u t H locs ht hvm hw => zx_2 (fun v1na0_0 v1na0_11 hB hz1 hk1 hS1 => zo1 hB ht hP hD hk1 (zp_F1 hD hS hA) hS1 (fun hP hK1 hD hS => ?_)))
  refine lv_aload_n hx hb dX8_called_4 rfl (lv_at hl 0 rfl) ?_
  refine va_get (D := (dC, dI)) (ci := 8) (v := .int a0_14) (C := RX8) (T := TX8) (N := 40) hx hb hts zi_X8_called_8 hown hK hP 0 rfl rfl 14 (by decide) (hts (.fieldLink RX8 173 "WaxTurnsModel" "hasGallery" "Z") (zm_X8_called_r1 (List.mem_of_getElem? (i := 0) rfl))) (fun _ h9 => h9) rfl dX8_called_5 ?_
  refine lv_if_ne (tgt := 17) hx hb dX8_called_8 (by decide) (fun c8 => ?_) (fun c8 => ?_)
  · have gc8 := ai_ne c8
    have l8t_a0_14 : (1 : Int) ≤ a0_14.toInt := (by first | exact zg_l ba0_14_l gc8 (by decide) (by decide) | (have h1 := ba0_14_l; have h2 : (0 : Int32).toInt = 0 := (by decide); rw [h2] at gc8; omega))
    have u8t_a0_14 : a0_14.toInt ≤ (-1 : Int) := (by first | exact zg_u ba0_14_u gc8 (by decide) (by decide) | (have h1 := ba0_14_u; have h2 : (0 : Int32).toInt = 0 := (by decide); rw [h2] at gc8; omega))
    exact absurd (Int.le_trans l8t_a0_14 u8t_a0_14) (by decide)
  · have gc8 := ai_eq c8
    have u8f_a0_14 : a0_14.toInt ≤ (0 : Int) := ba0_14_u
    have l8f_a0_14 : (0 : Int) ≤ a0_14.toInt := ba0_14_l
    refine lv_aload_n hx hb dX8_called_11 rfl (lv_at hl 0 rfl) ?_
    refine lv_iconst (v := 1) hx hb dX8_called_12 zk_iconst_1 ?_
    refine va_calli (va_runV (As := [.int 1]) (rest := []) ⟨hx, hb, hml, hown, hts⟩ (c_X8_no l dC dI H.size a0 1 (Value.int v1na0_0) a0g_1 a0g_2 a0g_3 a0g_4 a0g_5 a0g_6 a0g_7 a0g_8 a0g_9 a0g_10 a0g_12 a0g_13 (Value.int a0_14) a0g_15 a0g_16 a0g_17 a0g_18 a0g_19 a0g_20 a0g_21 a0g_22 a0g_23 a0g_24 a0g_25 a0g_26 a0g_27 a0g_28 a0g_29 a0g_30 a0g_31 a0g_32 a0g_33 a0g_34 a0g_35 a0g_36 a0g_37 a0g_38 a0g_39 v1na0_11 ) (cwV 1 hts gX8_called_X8_no rfl rfl rfl zd_X8_no ⟨Nat.le_of_ble_eq_true rfl, Nat.le_of_ble_eq_true rfl⟩) ⟨ax_blind (fun _ _ _ _ _ => trivial), zr_8 (zp_K hK) (zp_P1 hP) (q0 := 0) rfl, ax_pre (zp_P1 hP) (zp_K hK) (zp_D1 hD) (fun _ _ => trivial)⟩ rfl rfl hl.1 rfl (lv_room (Nat.le_of_ble_eq_true rfl)) dX8_called_13 ⟨Nat.le_of_ble_eq_true rfl, Nat.le_of_ble_eq_true rfl⟩) hS (fun q _ h => zp_F1 hD hS hA q h) (zp_F1 hD hS hA) (fun r13 u t H locs ht hvm hw => zx_1 (fun v13na0_11 hB hz1 hk1 hS1 => zo1 hB ht hP hD hk1 (zp_F1 hD hS hA) hS1 (fun hP hK1 hD hS => ?_)))
    have hw : r13 = (-1) := hw
    have hw := hw.symm
    subst hw
    exact W.iret (v := (-1)) hx hb hr (fun t ht hW => ⟨⟨(-1), (), rfl, rfl, v1na0_0, v13na0_11, by rw [ht]; exact hP, va_K.moved hW.alike hK, hD⟩, hS.F ht⟩) hS.2.2 dX8_called_16

set_option maxHeartbeats 4000000 in
set_option maxRecDepth 100000 in
theorem c0_X8_minutesOf (l : Launch) (dC : Nat → ClassId) (dI : Nat → Nat → Nat) (sz : Nat) (a0 : Nat) (a1 : Int32) (a2 : Int32) (a0_0 : Int32) (a0g_1 a0g_2 a0g_3 a0g_4 a0g_5 a0g_6 a0g_7 a0g_8 a0g_9 a0g_10 a0g_12 a0g_13 a0g_15 a0g_16 a0g_17 a0g_18 a0g_19 a0g_20 a0g_21 a0g_22 a0g_23 a0g_24 a0g_25 a0g_26 a0g_27 a0g_28 a0g_29 a0g_30 a0g_31 a0g_32 a0g_33 a0g_34 a0g_35 a0g_36 a0g_37 a0g_38 a0g_39 : Value) (a0_11 : Int32) (a0_14 : Int32) (ba0_14_l : (0 : Int) ≤ a0_14.toInt) (ba0_14_u : a0_14.toInt ≤ (0 : Int)) : zm l yX8_minutesOf wsX8_minutesOf ({ frames := 1, cells := 0, slots := 0, locals := 22 }) [.ref a0, .int a1, .int a2] dC dI sz [(a0, .inr (8, [Value.int a0_0, a0g_1, a0g_2, a0g_3, a0g_4, a0g_5, a0g_6, a0g_7, a0g_8, a0g_9, a0g_10, Value.int a0_11, a0g_12, a0g_13, Value.int a0_14, a0g_15, a0g_16, a0g_17, a0g_18, a0g_19, a0g_20, a0g_21, a0g_22, a0g_23, a0g_24, a0g_25, a0g_26, a0g_27, a0g_28, a0g_29, a0g_30, a0g_31, a0g_32, a0g_33, a0g_34, a0g_35, a0g_36, a0g_37, a0g_38, a0g_39]))] [] (fun A _ => True) (fun A => va_Qi (fun (r : Int32) (_ : Unit) => r = (-1)) (fun (_ : Unit) (t : State) => ∃ na0_0 : Int32, ∃ na0_11 : Int32, ax_B dC dI A [(a0, .inr (8, [Value.int na0_0, a0g_1, a0g_2, a0g_3, a0g_4, a0g_5, a0g_6, a0g_7, a0g_8, a0g_9, a0g_10, Value.int na0_11, a0g_12, a0g_13, Value.int a0_14, a0g_15, a0g_16, a0g_17, a0g_18, a0g_19, a0g_20, a0g_21, a0g_22, a0g_23, a0g_24, a0g_25, a0g_26, a0g_27, a0g_28, a0g_29, a0g_30, a0g_31, a0g_32, a0g_33, a0g_34, a0g_35, a0g_36, a0g_37, a0g_38, a0g_39]))] [] t) A) := by
  refine zh (cc := cX8_minutesOf) (maxL := 6) (ret := (some .int)) zn_RX8 rfl (Nat.le_of_ble_eq_true rfl) (fun p e s m below meth c A ls hx hb hml hr hts (hown : s.vm.findClass RX8 = some m.cls) hlocks hA hS hP hK hD hE (hl : lv_has ls 6 [(0, .ref a0), (1, .int a1), (2, .int a2)]) => ?_)
  refine ai_open (fun K hK0 => ?_)
  refine (hK0 _ _ _).mpr ?_
  refine lv_aload_n hx hb dX8_minutesOf_0 rfl (lv_at hl 0 rfl) ?_
  refine va_callv (va_runV (As := []) (rest := []) ⟨hx, hb, hml, hown, hts⟩ (c_X8_good l dC dI s.heap.size a0 a0_0 a0g_1 a0g_2 a0g_3 a0g_4 a0g_5 a0g_6 a0g_7 a0g_8 a0g_9 a0g_10 a0g_12 a0g_13 (Value.int a0_14) a0g_15 a0g_16 a0g_17 a0g_18 a0g_19 a0g_20 a0g_21 a0g_22 a0g_23 a0g_24 a0g_25 a0g_26 a0g_27 a0g_28 a0g_29 a0g_30 a0g_31 a0g_32 a0g_33 a0g_34 a0g_35 a0g_36 a0g_37 a0g_38 a0g_39 a0_11 ) (cwV 0 hts gX8_minutesOf_X8_good rfl rfl rfl zd_X8_good ⟨Nat.le_of_ble_eq_true rfl, Nat.le_of_ble_eq_true rfl⟩) ⟨ax_blind (fun _ _ _ _ _ => trivial), zr_8 (zp_K hK) (zp_P1 hP) (q0 := 0) rfl, ax_pre (zp_P1 hP) (zp_K hK) (zp_D1 hD) (fun _ _ => trivial)⟩ rfl rfl hl.1 rfl (lv_room (Nat.le_of_ble_eq_true rfl)) dX8_minutesOf_1 ⟨Nat.le_of_ble_eq_true rfl, Nat.le_of_ble_eq_true rfl⟩) hS (fun q _ h => zp_F1 hD hS hA q h) (zp_F1 hD hS hA) (fun u t H locs ht hvm hw => zx_2 (fun v1na0_0 v1na0_11 hB hz1 hk1 hS1 => zo1 hB ht hP hD hk1 (zp_F1 hD hS hA) hS1 (fun hP hK1 hD hS => ?_)))
  refine lv_aload_n hx hb dX8_minutesOf_4 rfl (lv_at hl 0 rfl) ?_
  refine lv_aload_n hx hb dX8_minutesOf_5 rfl (lv_at hl 0 rfl) ?_
  refine lv_iload_n hx hb dX8_minutesOf_6 rfl (lv_at hl 1 rfl) ?_
  refine va_calli (va_runV (As := [.int a1]) (rest := [.ref a0]) ⟨hx, hb, hml, hown, hts⟩ (c0_X8_isFigure l dC dI H.size a0 a1 (Value.int v1na0_0) a0g_1 a0g_2 a0g_3 a0g_4 a0g_5 a0g_6 a0g_7 a0g_8 a0g_9 a0g_10 (Value.int v1na0_11) a0g_12 a0g_13 a0g_15 a0g_16 a0g_17 a0g_18 a0g_19 a0g_20 a0g_21 a0g_22 a0g_23 a0g_24 a0g_25 a0g_26 a0g_27 a0g_28 a0g_29 a0g_30 a0g_31 a0g_32 a0g_33 a0g_34 a0g_35 a0g_36 a0g_37 a0g_38 a0g_39 a0_14 ba0_14_l ba0_14_u) (cwV 1 hts gX8_minutesOf_X8_isFigure rfl rfl rfl zd_X8_isFigure ⟨Nat.le_of_ble_eq_true rfl, Nat.le_of_ble_eq_true rfl⟩) ⟨ax_blind (fun _ _ _ _ _ => trivial), zr_8 (zp_K hK) (zp_P1 hP) (q0 := 0) rfl, ax_pre (zp_P1 hP) (zp_K hK) (zp_D1 hD) (fun _ _ => trivial)⟩ rfl rfl hl.1 rfl (lv_room (Nat.le_of_ble_eq_true rfl)) dX8_minutesOf_7 ⟨Nat.le_of_ble_eq_true rfl, Nat.le_of_ble_eq_true rfl⟩) hS (fun q _ h => zp_F1 hD hS hA q h) (zp_F1 hD hS hA) (fun r7 u t H locs ht hvm hw hB hz1 hk1 hS1 => zo1 hB ht hP hD hk1 (zp_F1 hD hS hA) hS1 (fun hP hK1 hD hS => ?_))
  have hw : r7 = 0 := hw
  have hw := hw.symm
  subst hw
  refine lv_iload_n hx hb dX8_minutesOf_10 rfl (lv_at hl 2 rfl) ?_
  refine lv_iconst (v := 0) hx hb dX8_minutesOf_11 zk_iconst_0 ?_
  refine lv_sipush (v := 999) hx hb dX8_minutesOf_12 zk_sipush_999 ?_
  refine va_calli (va_runS (As := [.int a2, .int 0, .int 999]) (rest := [.int 0, .ref a0]) ⟨hx, hb, hml, hown, hts⟩ (c_X8_in l dC dI H.size a2 0 999 ) (va_cwS 3 hts gX8_minutesOf_X8_in rfl rfl rfl zd_X8_in.2 ⟨Nat.le_of_ble_eq_true rfl, Nat.le_of_ble_eq_true rfl⟩) ⟨ax_blind (fun _ _ _ _ _ => trivial), ax_pre (zp_P0 hP) (zp_K hK) (zp_D0 hD) (fun _ _ => trivial)⟩ rfl rfl hl.1 rfl (lv_room (Nat.le_of_ble_eq_true rfl)) dX8_minutesOf_15 ⟨Nat.le_of_ble_eq_true rfl, Nat.le_of_ble_eq_true rfl⟩) hS (fun q _ h => zp_F0 hD hS hA q h) (zp_F0 hD hS hA) (fun r15 u t H locs ht hvm hw hB hz1 hk1 hS1 => zo0 hB ht hP hD hk1 (zp_F0 hD hS hA) hS1 (fun hP hK1 hD hS => ?_))
  rcases hw with hw | hw
  · obtain ⟨hw, h15⟩ := hw
    subst hw
    have l15k0_a2 : (0 : Int) ≤ a2.toInt := Int.le_trans zq5 h15.1
    have u15k0_a2 : a2.toInt ≤ (999 : Int) := Int.le_trans h15.2 zq79
    refine va_calli (va_runV (As := [.int 0, .int 1]) (rest := []) ⟨hx, hb, hml, hown, hts⟩ (c_X8_whyB l dC dI H.size a0 0 1 (Value.int v1na0_0) a0g_1 a0g_2 a0g_3 a0g_4 a0g_5 a0g_6 a0g_7 a0g_8 a0g_9 a0g_10 (Value.int v1na0_11) a0g_12 a0g_13 (Value.int a0_14) a0g_15 a0g_16 a0g_17 a0g_18 a0g_19 a0g_20 a0g_21 a0g_22 a0g_23 a0g_24 a0g_25 a0g_26 a0g_27 a0g_28 a0g_29 a0g_30 a0g_31 a0g_32 a0g_33 a0g_34 a0g_35 a0g_36 a0g_37 a0g_38 a0g_39 zq5 (Int.le_trans zq6 zq4) (Int.le_trans zq4 zq1) zq0) (cwV 2 hts gX8_minutesOf_X8_why rfl rfl rfl zd_X8_why ⟨Nat.le_of_ble_eq_true rfl, Nat.le_of_ble_eq_true rfl⟩) ⟨ax_blind (fun _ _ _ _ _ => trivial), zr_8 (zp_K hK) (zp_P1 hP) (q0 := 0) rfl, ax_pre (zp_P1 hP) (zp_K hK) (zp_D1 hD) (fun _ _ => trivial)⟩ rfl rfl hl.1 rfl (lv_room (Nat.le_of_ble_eq_true rfl)) dX8_minutesOf_18 ⟨Nat.le_of_ble_eq_true rfl, Nat.le_of_ble_eq_true rfl⟩) hS (fun q _ h => zp_F1 hD hS hA q h) (zp_F1 hD hS hA) (fun r18 u t H locs ht hvm hw hB hz1 hk1 hS1 => zo1 hB ht hP hD hk1 (zp_F1 hD hS hA) hS1 (fun hP hK1 hD hS => ?_))
    rcases hw with hw | hw | hw
    · obtain ⟨hw, h18_0, h18_1, h18_2, h18_3⟩ := hw
      subst hw
      exact absurd h18_0 (by decide)
    · obtain ⟨hw, h18_0, h18_1⟩ := hw
      subst hw
      refine lv_istore_n (lv' := [(3, .int 1), (0, .ref a0), (1, .int a1), (2, .int a2)]) hx hb dX8_minutesOf_21 rfl hl (by decide) rfl (fun ls hl => ?_)
      refine lv_iload_n hx hb dX8_minutesOf_22 rfl (lv_at hl 0 rfl) ?_
      refine lv_if_eq (tgt := 32) hx hb dX8_minutesOf_23 (by decide) (fun c23 => absurd c23 (by decide +kernel)) (fun _ => ?_)
      refine lv_aload_n hx hb dX8_minutesOf_26 rfl (lv_at hl 1 rfl) ?_
      refine lv_iload_n hx hb dX8_minutesOf_27 rfl (lv_at hl 0 rfl) ?_
      refine va_calli (va_runV (As := [.int 1]) (rest := []) ⟨hx, hb, hml, hown, hts⟩ (c_X8_no l dC dI H.size a0 1 (Value.int v1na0_0) a0g_1 a0g_2 a0g_3 a0g_4 a0g_5 a0g_6 a0g_7 a0g_8 a0g_9 a0g_10 a0g_12 a0g_13 (Value.int a0_14) a0g_15 a0g_16 a0g_17 a0g_18 a0g_19 a0g_20 a0g_21 a0g_22 a0g_23 a0g_24 a0g_25 a0g_26 a0g_27 a0g_28 a0g_29 a0g_30 a0g_31 a0g_32 a0g_33 a0g_34 a0g_35 a0g_36 a0g_37 a0g_38 a0g_39 v1na0_11 ) (cwV 1 hts gX8_minutesOf_X8_no rfl rfl rfl zd_X8_no ⟨Nat.le_of_ble_eq_true rfl, Nat.le_of_ble_eq_true rfl⟩) ⟨ax_blind (fun _ _ _ _ _ => trivial), zr_8 (zp_K hK) (zp_P1 hP) (q0 := 0) rfl, ax_pre (zp_P1 hP) (zp_K hK) (zp_D1 hD) (fun _ _ => trivial)⟩ rfl rfl hl.1 rfl (lv_room (Nat.le_of_ble_eq_true rfl)) dX8_minutesOf_28 ⟨Nat.le_of_ble_eq_true rfl, Nat.le_of_ble_eq_true rfl⟩) hS (fun q _ h => zp_F1 hD hS hA q h) (zp_F1 hD hS hA) (fun r28 u t H locs ht hvm hw => zx_1 (fun v28na0_11 hB hz1 hk1 hS1 => zo1 hB ht hP hD hk1 (zp_F1 hD hS hA) hS1 (fun hP hK1 hD hS => ?_)))
      have hw : r28 = (-1) := hw
      have hw := hw.symm
      subst hw
      exact W.iret (v := (-1)) hx hb hr (fun t ht hW => ⟨⟨(-1), (), rfl, rfl, v1na0_0, v28na0_11, by rw [ht]; exact hP, va_K.moved hW.alike hK, hD⟩, hS.F ht⟩) hS.2.2 dX8_minutesOf_31
    · obtain ⟨hw, h18_0, h18_1, h18_2, h18_3⟩ := hw
      subst hw
      exact absurd h18_0 (by decide)
  · obtain ⟨hw, h15⟩ := hw
    subst hw
    refine va_calli (va_runV (As := [.int 0, .int 0]) (rest := []) ⟨hx, hb, hml, hown, hts⟩ (c_X8_whyB l dC dI H.size a0 0 0 (Value.int v1na0_0) a0g_1 a0g_2 a0g_3 a0g_4 a0g_5 a0g_6 a0g_7 a0g_8 a0g_9 a0g_10 (Value.int v1na0_11) a0g_12 a0g_13 (Value.int a0_14) a0g_15 a0g_16 a0g_17 a0g_18 a0g_19 a0g_20 a0g_21 a0g_22 a0g_23 a0g_24 a0g_25 a0g_26 a0g_27 a0g_28 a0g_29 a0g_30 a0g_31 a0g_32 a0g_33 a0g_34 a0g_35 a0g_36 a0g_37 a0g_38 a0g_39 zq5 (Int.le_trans zq6 zq4) zq5 (Int.le_trans zq6 zq4)) (cwV 2 hts gX8_minutesOf_X8_why rfl rfl rfl zd_X8_why ⟨Nat.le_of_ble_eq_true rfl, Nat.le_of_ble_eq_true rfl⟩) ⟨ax_blind (fun _ _ _ _ _ => trivial), zr_8 (zp_K hK) (zp_P1 hP) (q0 := 0) rfl, ax_pre (zp_P1 hP) (zp_K hK) (zp_D1 hD) (fun _ _ => trivial)⟩ rfl rfl hl.1 rfl (lv_room (Nat.le_of_ble_eq_true rfl)) dX8_minutesOf_18 ⟨Nat.le_of_ble_eq_true rfl, Nat.le_of_ble_eq_true rfl⟩) hS (fun q _ h => zp_F1 hD hS hA q h) (zp_F1 hD hS hA) (fun r18 u t H locs ht hvm hw hB hz1 hk1 hS1 => zo1 hB ht hP hD hk1 (zp_F1 hD hS hA) hS1 (fun hP hK1 hD hS => ?_))
    rcases hw with hw | hw | hw
    · obtain ⟨hw, h18_0, h18_1, h18_2, h18_3⟩ := hw
      subst hw
      exact absurd h18_0 (by decide)
    · obtain ⟨hw, h18_0, h18_1⟩ := hw
      subst hw
      refine lv_istore_n (lv' := [(3, .int 1), (0, .ref a0), (1, .int a1), (2, .int a2)]) hx hb dX8_minutesOf_21 rfl hl (by decide) rfl (fun ls hl => ?_)
      refine lv_iload_n hx hb dX8_minutesOf_22 rfl (lv_at hl 0 rfl) ?_
      refine lv_if_eq (tgt := 32) hx hb dX8_minutesOf_23 (by decide) (fun c23 => absurd c23 (by decide +kernel)) (fun _ => ?_)
      refine lv_aload_n hx hb dX8_minutesOf_26 rfl (lv_at hl 1 rfl) ?_
      refine lv_iload_n hx hb dX8_minutesOf_27 rfl (lv_at hl 0 rfl) ?_
      refine va_calli (va_runV (As := [.int 1]) (rest := []) ⟨hx, hb, hml, hown, hts⟩ (c_X8_no l dC dI H.size a0 1 (Value.int v1na0_0) a0g_1 a0g_2 a0g_3 a0g_4 a0g_5 a0g_6 a0g_7 a0g_8 a0g_9 a0g_10 a0g_12 a0g_13 (Value.int a0_14) a0g_15 a0g_16 a0g_17 a0g_18 a0g_19 a0g_20 a0g_21 a0g_22 a0g_23 a0g_24 a0g_25 a0g_26 a0g_27 a0g_28 a0g_29 a0g_30 a0g_31 a0g_32 a0g_33 a0g_34 a0g_35 a0g_36 a0g_37 a0g_38 a0g_39 v1na0_11 ) (cwV 1 hts gX8_minutesOf_X8_no rfl rfl rfl zd_X8_no ⟨Nat.le_of_ble_eq_true rfl, Nat.le_of_ble_eq_true rfl⟩) ⟨ax_blind (fun _ _ _ _ _ => trivial), zr_8 (zp_K hK) (zp_P1 hP) (q0 := 0) rfl, ax_pre (zp_P1 hP) (zp_K hK) (zp_D1 hD) (fun _ _ => trivial)⟩ rfl rfl hl.1 rfl (lv_room (Nat.le_of_ble_eq_true rfl)) dX8_minutesOf_28 ⟨Nat.le_of_ble_eq_true rfl, Nat.le_of_ble_eq_true rfl⟩) hS (fun q _ h => zp_F1 hD hS hA q h) (zp_F1 hD hS hA) (fun r28 u t H locs ht hvm hw => zx_1 (fun v28na0_11 hB hz1 hk1 hS1 => zo1 hB ht hP hD hk1 (zp_F1 hD hS hA) hS1 (fun hP hK1 hD hS => ?_)))
      have hw : r28 = (-1) := hw
      have hw := hw.symm
      subst hw
      exact W.iret (v := (-1)) hx hb hr (fun t ht hW => ⟨⟨(-1), (), rfl, rfl, v1na0_0, v28na0_11, by rw [ht]; exact hP, va_K.moved hW.alike hK, hD⟩, hS.F ht⟩) hS.2.2 dX8_minutesOf_31
    · obtain ⟨hw, h18_0, h18_1, h18_2, h18_3⟩ := hw
      subst hw
      exact absurd h18_0 (by decide)

set_option maxHeartbeats 4000000 in
set_option maxRecDepth 100000 in
theorem c0_X8_place (l : Launch) (dC : Nat → ClassId) (dI : Nat → Nat → Nat) (sz : Nat) (a0 : Nat) (a1 : Int32) (a2 : Int32) (a0_0 : Int32) (a0g_1 a0g_2 a0g_3 a0g_4 a0g_5 a0g_6 a0g_7 a0g_8 a0g_9 a0g_10 a0g_12 a0g_13 a0g_15 a0g_16 a0g_17 a0g_18 a0g_19 a0g_20 a0g_21 a0g_22 a0g_23 a0g_24 a0g_25 a0g_26 a0g_27 a0g_28 a0g_29 a0g_30 a0g_31 a0g_32 a0g_33 a0g_34 a0g_35 a0g_36 a0g_37 a0g_38 a0g_39 : Value) (a0_11 : Int32) (a0_14 : Int32) (ba0_14_l : (0 : Int) ≤ a0_14.toInt) (ba0_14_u : a0_14.toInt ≤ (0 : Int)) : zm l yX8_place wsX8_place ({ frames := 2, cells := 0, slots := 0, locals := 45 }) [.ref a0, .int a1, .int a2] dC dI sz [(a0, .inr (8, [Value.int a0_0, a0g_1, a0g_2, a0g_3, a0g_4, a0g_5, a0g_6, a0g_7, a0g_8, a0g_9, a0g_10, Value.int a0_11, a0g_12, a0g_13, Value.int a0_14, a0g_15, a0g_16, a0g_17, a0g_18, a0g_19, a0g_20, a0g_21, a0g_22, a0g_23, a0g_24, a0g_25, a0g_26, a0g_27, a0g_28, a0g_29, a0g_30, a0g_31, a0g_32, a0g_33, a0g_34, a0g_35, a0g_36, a0g_37, a0g_38, a0g_39]))] [] (fun A _ => True) (fun A => va_Qi (fun (r : Int32) (_ : Unit) => r = (-1)) (fun (_ : Unit) (t : State) => ∃ na0_0 : Int32, ∃ na0_11 : Int32, ax_B dC dI A [(a0, .inr (8, [Value.int na0_0, a0g_1, a0g_2, a0g_3, a0g_4, a0g_5, a0g_6, a0g_7, a0g_8, a0g_9, a0g_10, Value.int na0_11, a0g_12, a0g_13, Value.int a0_14, a0g_15, a0g_16, a0g_17, a0g_18, a0g_19, a0g_20, a0g_21, a0g_22, a0g_23, a0g_24, a0g_25, a0g_26, a0g_27, a0g_28, a0g_29, a0g_30, a0g_31, a0g_32, a0g_33, a0g_34, a0g_35, a0g_36, a0g_37, a0g_38, a0g_39]))] [] t) A) := by
  refine zh (cc := cX8_place) (maxL := 4) (ret := (some .int)) zn_RX8 rfl (Nat.le_of_ble_eq_true rfl) (fun p e s m below meth c A ls hx hb hml hr hts (hown : s.vm.findClass RX8 = some m.cls) hlocks hA hS hP hK hD hE (hl : lv_has ls 4 [(0, .ref a0), (1, .int a1), (2, .int a2)]) => ?_)
  refine lv_aload_n hx hb dX8_place_0 rfl (lv_at hl 0 rfl) ?_
  refine va_callv (va_runV (As := []) (rest := []) ⟨hx, hb, hml, hown, hts⟩ (c_X8_good l dC dI s.heap.size a0 a0_0 a0g_1 a0g_2 a0g_3 a0g_4 a0g_5 a0g_6 a0g_7 a0g_8 a0g_9 a0g_10 a0g_12 a0g_13 (Value.int a0_14) a0g_15 a0g_16 a0g_17 a0g_18 a0g_19 a0g_20 a0g_21 a0g_22 a0g_23 a0g_24 a0g_25 a0g_26 a0g_27 a0g_28 a0g_29 a0g_30 a0g_31 a0g_32 a0g_33 a0g_34 a0g_35 a0g_36 a0g_37 a0g_38 a0g_39 a0_11 ) (cwV 0 hts gX8_place_X8_good rfl rfl rfl zd_X8_good ⟨Nat.le_of_ble_eq_true rfl, Nat.le_of_ble_eq_true rfl⟩) ⟨ax_blind (fun _ _ _ _ _ => trivial), zr_8 (zp_K hK) (zp_P1 hP) (q0 := 0) rfl, ax_pre (zp_P1 hP) (zp_K hK) (zp_D1 hD) (fun _ _ => trivial)⟩ rfl rfl hl.1 rfl (lv_room (Nat.le_of_ble_eq_true rfl)) dX8_place_1 ⟨Nat.le_of_ble_eq_true rfl, Nat.le_of_ble_eq_true rfl⟩) hS (fun q _ h => zp_F1 hD hS hA q h) (zp_F1 hD hS hA) (fun u t H locs ht hvm hw => zx_2 (fun v1na0_0 v1na0_11 hB hz1 hk1 hS1 => zo1 hB ht hP hD hk1 (zp_F1 hD hS hA) hS1 (fun hP hK1 hD hS => ?_)))
  refine lv_aload_n hx hb dX8_place_4 rfl (lv_at hl 0 rfl) ?_
  refine lv_aload_n hx hb dX8_place_5 rfl (lv_at hl 0 rfl) ?_
  refine lv_iload_n hx hb dX8_place_6 rfl (lv_at hl 1 rfl) ?_
  refine va_calli (va_runV (As := [.int a1]) (rest := [.ref a0]) ⟨hx, hb, hml, hown, hts⟩ (c0_X8_isFigure l dC dI H.size a0 a1 (Value.int v1na0_0) a0g_1 a0g_2 a0g_3 a0g_4 a0g_5 a0g_6 a0g_7 a0g_8 a0g_9 a0g_10 (Value.int v1na0_11) a0g_12 a0g_13 a0g_15 a0g_16 a0g_17 a0g_18 a0g_19 a0g_20 a0g_21 a0g_22 a0g_23 a0g_24 a0g_25 a0g_26 a0g_27 a0g_28 a0g_29 a0g_30 a0g_31 a0g_32 a0g_33 a0g_34 a0g_35 a0g_36 a0g_37 a0g_38 a0g_39 a0_14 ba0_14_l ba0_14_u) (cwV 1 hts gX8_place_X8_isFigure rfl rfl rfl zd_X8_isFigure ⟨Nat.le_of_ble_eq_true rfl, Nat.le_of_ble_eq_true rfl⟩) ⟨ax_blind (fun _ _ _ _ _ => trivial), zr_8 (zp_K hK) (zp_P1 hP) (q0 := 0) rfl, ax_pre (zp_P1 hP) (zp_K hK) (zp_D1 hD) (fun _ _ => trivial)⟩ rfl rfl hl.1 rfl (lv_room (Nat.le_of_ble_eq_true rfl)) dX8_place_7 ⟨Nat.le_of_ble_eq_true rfl, Nat.le_of_ble_eq_true rfl⟩) hS (fun q _ h => zp_F1 hD hS hA q h) (zp_F1 hD hS hA) (fun r7 u t H locs ht hvm hw hB hz1 hk1 hS1 => zo1 hB ht hP hD hk1 (zp_F1 hD hS hA) hS1 (fun hP hK1 hD hS => ?_))
  have hw : r7 = 0 := hw
  have hw := hw.symm
  subst hw
  refine lv_iconst (v := 0) hx hb dX8_place_10 zk_iconst_0 ?_
  refine lv_iload_n hx hb dX8_place_11 rfl (lv_at hl 2 rfl) ?_
  refine va_calli (va_runV (As := [.int 0, .int 0, .int a2]) (rest := []) ⟨hx, hb, hml, hown, hts⟩ (c_X8_aheadWhy l dC dI H.size a0 0 0 a2 (Value.int v1na0_0) a0g_1 a0g_2 a0g_3 a0g_4 a0g_5 a0g_6 a0g_7 a0g_8 a0g_9 a0g_10 (Value.int v1na0_11) a0g_12 a0g_13 (Value.int a0_14) a0g_15 a0g_16 a0g_17 a0g_18 a0g_19 a0g_20 a0g_21 a0g_22 a0g_23 a0g_24 a0g_25 a0g_26 a0g_27 a0g_28 a0g_29 a0g_30 a0g_31 a0g_32 a0g_33 a0g_34 a0g_35 a0g_36 a0g_37 a0g_38 a0g_39 zq5 (Int.le_trans zq6 zq4) zq5 (Int.le_trans zq6 zq4)) (cwV 3 hts gX8_place_X8_aheadWhy rfl rfl rfl zd_X8_aheadWhy ⟨Nat.le_of_ble_eq_true rfl, Nat.le_of_ble_eq_true rfl⟩) ⟨ax_blind (fun _ _ _ _ _ => trivial), zr_8 (zp_K hK) (zp_P1 hP) (q0 := 0) rfl, ax_pre (zp_P1 hP) (zp_K hK) (zp_D1 hD) (fun _ _ => trivial)⟩ rfl rfl hl.1 rfl (lv_room (Nat.le_of_ble_eq_true rfl)) dX8_place_12 ⟨Nat.le_of_ble_eq_true rfl, Nat.le_of_ble_eq_true rfl⟩) hS (fun q _ h => zp_F1 hD hS hA q h) (zp_F1 hD hS hA) (fun r12 u t H locs ht hvm hw hB hz1 hk1 hS1 => zo1 hB ht hP hD hk1 (zp_F1 hD hS hA) hS1 (fun hP hK1 hD hS => ?_))
  rcases hw with hw | hw | hw
  · obtain ⟨hw, h12_0, h12_1⟩ := hw
    subst hw
    exact absurd h12_0 (by decide)
  · obtain ⟨hw, h12_0, h12_1⟩ := hw
    subst hw
    refine lv_istore_n (lv' := [(3, .int 1), (0, .ref a0), (1, .int a1), (2, .int a2)]) hx hb dX8_place_15 rfl hl (by decide) rfl (fun ls hl => ?_)
    refine lv_iload_n hx hb dX8_place_16 rfl (lv_at hl 0 rfl) ?_
    refine lv_if_eq (tgt := 26) hx hb dX8_place_17 (by decide) (fun c17 => absurd c17 (by decide +kernel)) (fun _ => ?_)
    refine lv_aload_n hx hb dX8_place_20 rfl (lv_at hl 1 rfl) ?_
    refine lv_iload_n hx hb dX8_place_21 rfl (lv_at hl 0 rfl) ?_
    refine va_calli (va_runV (As := [.int 1]) (rest := []) ⟨hx, hb, hml, hown, hts⟩ (c_X8_no l dC dI H.size a0 1 (Value.int v1na0_0) a0g_1 a0g_2 a0g_3 a0g_4 a0g_5 a0g_6 a0g_7 a0g_8 a0g_9 a0g_10 a0g_12 a0g_13 (Value.int a0_14) a0g_15 a0g_16 a0g_17 a0g_18 a0g_19 a0g_20 a0g_21 a0g_22 a0g_23 a0g_24 a0g_25 a0g_26 a0g_27 a0g_28 a0g_29 a0g_30 a0g_31 a0g_32 a0g_33 a0g_34 a0g_35 a0g_36 a0g_37 a0g_38 a0g_39 v1na0_11 ) (cwV 1 hts gX8_place_X8_no rfl rfl rfl zd_X8_no ⟨Nat.le_of_ble_eq_true rfl, Nat.le_of_ble_eq_true rfl⟩) ⟨ax_blind (fun _ _ _ _ _ => trivial), zr_8 (zp_K hK) (zp_P1 hP) (q0 := 0) rfl, ax_pre (zp_P1 hP) (zp_K hK) (zp_D1 hD) (fun _ _ => trivial)⟩ rfl rfl hl.1 rfl (lv_room (Nat.le_of_ble_eq_true rfl)) dX8_place_22 ⟨Nat.le_of_ble_eq_true rfl, Nat.le_of_ble_eq_true rfl⟩) hS (fun q _ h => zp_F1 hD hS hA q h) (zp_F1 hD hS hA) (fun r22 u t H locs ht hvm hw => zx_1 (fun v22na0_11 hB hz1 hk1 hS1 => zo1 hB ht hP hD hk1 (zp_F1 hD hS hA) hS1 (fun hP hK1 hD hS => ?_)))
    have hw : r22 = (-1) := hw
    have hw := hw.symm
    subst hw
    exact W.iret (v := (-1)) hx hb hr (fun t ht hW => ⟨⟨(-1), (), rfl, rfl, v1na0_0, v22na0_11, by rw [ht]; exact hP, va_K.moved hW.alike hK, hD⟩, hS.F ht⟩) hS.2.2 dX8_place_25
  · obtain ⟨hw, h12_0, h12_1, h12_2, h12_3⟩ := hw
    subst hw
    exact absurd h12_0 (by decide)

set_option maxHeartbeats 4000000 in
set_option maxRecDepth 100000 in
theorem c0_X8_gone (l : Launch) (dC : Nat → ClassId) (dI : Nat → Nat → Nat) (sz : Nat) (a0 : Nat) (a1 : Int32) (a0_0 : Int32) (a0g_1 a0g_2 a0g_3 a0g_4 a0g_5 a0g_6 a0g_7 a0g_8 a0g_9 a0g_10 a0g_12 a0g_13 a0g_15 a0g_16 a0g_17 a0g_18 a0g_19 a0g_20 a0g_21 a0g_22 a0g_23 a0g_24 a0g_25 a0g_26 a0g_27 a0g_28 a0g_29 a0g_30 a0g_31 a0g_32 a0g_33 a0g_34 a0g_35 a0g_36 a0g_37 a0g_38 a0g_39 : Value) (a0_11 : Int32) (a0_14 : Int32) (ba0_14_l : (0 : Int) ≤ a0_14.toInt) (ba0_14_u : a0_14.toInt ≤ (0 : Int)) : zm l yX8_gone wsX8_gone ({ frames := 2, cells := 0, slots := 0, locals := 45 }) [.ref a0, .int a1] dC dI sz [(a0, .inr (8, [Value.int a0_0, a0g_1, a0g_2, a0g_3, a0g_4, a0g_5, a0g_6, a0g_7, a0g_8, a0g_9, a0g_10, Value.int a0_11, a0g_12, a0g_13, Value.int a0_14, a0g_15, a0g_16, a0g_17, a0g_18, a0g_19, a0g_20, a0g_21, a0g_22, a0g_23, a0g_24, a0g_25, a0g_26, a0g_27, a0g_28, a0g_29, a0g_30, a0g_31, a0g_32, a0g_33, a0g_34, a0g_35, a0g_36, a0g_37, a0g_38, a0g_39]))] [] (fun A _ => True) (fun A => va_Qi (fun (r : Int32) (_ : Unit) => r = (-1)) (fun (_ : Unit) (t : State) => ∃ na0_0 : Int32, ∃ na0_11 : Int32, ax_B dC dI A [(a0, .inr (8, [Value.int na0_0, a0g_1, a0g_2, a0g_3, a0g_4, a0g_5, a0g_6, a0g_7, a0g_8, a0g_9, a0g_10, Value.int na0_11, a0g_12, a0g_13, Value.int a0_14, a0g_15, a0g_16, a0g_17, a0g_18, a0g_19, a0g_20, a0g_21, a0g_22, a0g_23, a0g_24, a0g_25, a0g_26, a0g_27, a0g_28, a0g_29, a0g_30, a0g_31, a0g_32, a0g_33, a0g_34, a0g_35, a0g_36, a0g_37, a0g_38, a0g_39]))] [] t) A) := by
  refine zh (cc := cX8_gone) (maxL := 3) (ret := (some .int)) zn_RX8 rfl (Nat.le_of_ble_eq_true rfl) (fun p e s m below meth c A ls hx hb hml hr hts (hown : s.vm.findClass RX8 = some m.cls) hlocks hA hS hP hK hD hE (hl : lv_has ls 3 [(0, .ref a0), (1, .int a1)]) => ?_)
  refine lv_aload_n hx hb dX8_gone_0 rfl (lv_at hl 0 rfl) ?_
  refine va_callv (va_runV (As := []) (rest := []) ⟨hx, hb, hml, hown, hts⟩ (c_X8_good l dC dI s.heap.size a0 a0_0 a0g_1 a0g_2 a0g_3 a0g_4 a0g_5 a0g_6 a0g_7 a0g_8 a0g_9 a0g_10 a0g_12 a0g_13 (Value.int a0_14) a0g_15 a0g_16 a0g_17 a0g_18 a0g_19 a0g_20 a0g_21 a0g_22 a0g_23 a0g_24 a0g_25 a0g_26 a0g_27 a0g_28 a0g_29 a0g_30 a0g_31 a0g_32 a0g_33 a0g_34 a0g_35 a0g_36 a0g_37 a0g_38 a0g_39 a0_11 ) (cwV 0 hts gX8_gone_X8_good rfl rfl rfl zd_X8_good ⟨Nat.le_of_ble_eq_true rfl, Nat.le_of_ble_eq_true rfl⟩) ⟨ax_blind (fun _ _ _ _ _ => trivial), zr_8 (zp_K hK) (zp_P1 hP) (q0 := 0) rfl, ax_pre (zp_P1 hP) (zp_K hK) (zp_D1 hD) (fun _ _ => trivial)⟩ rfl rfl hl.1 rfl (lv_room (Nat.le_of_ble_eq_true rfl)) dX8_gone_1 ⟨Nat.le_of_ble_eq_true rfl, Nat.le_of_ble_eq_true rfl⟩) hS (fun q _ h => zp_F1 hD hS hA q h) (zp_F1 hD hS hA) (fun u t H locs ht hvm hw => zx_2 (fun v1na0_0 v1na0_11 hB hz1 hk1 hS1 => zo1 hB ht hP hD hk1 (zp_F1 hD hS hA) hS1 (fun hP hK1 hD hS => ?_)))
  refine lv_aload_n hx hb dX8_gone_4 rfl (lv_at hl 0 rfl) ?_
  refine lv_aload_n hx hb dX8_gone_5 rfl (lv_at hl 0 rfl) ?_
  refine va_get (D := (dC, dI)) (ci := 8) (v := .int a0_14) (C := RX8) (T := TX8) (N := 40) hx hb hts zi_X8_gone_8 hown hK hP 0 rfl rfl 14 (by decide) (hts (.fieldLink RX8 173 "WaxTurnsModel" "hasGallery" "Z") (zm_X8_gone_r1 (List.mem_of_getElem? (i := 0) rfl))) (fun _ h9 => h9) rfl dX8_gone_6 ?_
  refine lv_iconst (v := 0) hx hb dX8_gone_9 zk_iconst_0 ?_
  refine lv_iload_n hx hb dX8_gone_10 rfl (lv_at hl 1 rfl) ?_
  refine va_calli (va_runV (As := [.int a0_14, .int 0, .int a1]) (rest := []) ⟨hx, hb, hml, hown, hts⟩ (c_X8_aheadWhy l dC dI H.size a0 a0_14 0 a1 (Value.int v1na0_0) a0g_1 a0g_2 a0g_3 a0g_4 a0g_5 a0g_6 a0g_7 a0g_8 a0g_9 a0g_10 (Value.int v1na0_11) a0g_12 a0g_13 (Value.int a0_14) a0g_15 a0g_16 a0g_17 a0g_18 a0g_19 a0g_20 a0g_21 a0g_22 a0g_23 a0g_24 a0g_25 a0g_26 a0g_27 a0g_28 a0g_29 a0g_30 a0g_31 a0g_32 a0g_33 a0g_34 a0g_35 a0g_36 a0g_37 a0g_38 a0g_39 ba0_14_l (Int.le_trans ba0_14_u zq4) zq5 (Int.le_trans zq6 zq4)) (cwV 3 hts gX8_gone_X8_aheadWhy rfl rfl rfl zd_X8_aheadWhy ⟨Nat.le_of_ble_eq_true rfl, Nat.le_of_ble_eq_true rfl⟩) ⟨ax_blind (fun _ _ _ _ _ => trivial), zr_8 (zp_K hK) (zp_P1 hP) (q0 := 0) rfl, ax_pre (zp_P1 hP) (zp_K hK) (zp_D1 hD) (fun _ _ => trivial)⟩ rfl rfl hl.1 rfl (lv_room (Nat.le_of_ble_eq_true rfl)) dX8_gone_11 ⟨Nat.le_of_ble_eq_true rfl, Nat.le_of_ble_eq_true rfl⟩) hS (fun q _ h => zp_F1 hD hS hA q h) (zp_F1 hD hS hA) (fun r11 u t H locs ht hvm hw hB hz1 hk1 hS1 => zo1 hB ht hP hD hk1 (zp_F1 hD hS hA) hS1 (fun hP hK1 hD hS => ?_))
  rcases hw with hw | hw | hw
  · obtain ⟨hw, h11_0, h11_1⟩ := hw
    subst hw
    have l11k0_a0_14 : (1 : Int) ≤ a0_14.toInt := h11_0
    have u11k0_a0_14 : a0_14.toInt ≤ (0 : Int) := ba0_14_u
    exact absurd (Int.le_trans l11k0_a0_14 u11k0_a0_14) (by decide)
  · obtain ⟨hw, h11_0, h11_1⟩ := hw
    subst hw
    have l11k1_a0_14 : (0 : Int) ≤ a0_14.toInt := ba0_14_l
    have u11k1_a0_14 : a0_14.toInt ≤ (0 : Int) := ba0_14_u
    refine lv_istore_n (lv' := [(2, .int 1), (0, .ref a0), (1, .int a1)]) hx hb dX8_gone_14 rfl hl (by decide) rfl (fun ls hl => ?_)
    refine lv_iload_n hx hb dX8_gone_15 rfl (lv_at hl 0 rfl) ?_
    refine lv_if_eq (tgt := 25) hx hb dX8_gone_16 (by decide) (fun c16 => absurd c16 (by decide +kernel)) (fun _ => ?_)
    refine lv_aload_n hx hb dX8_gone_19 rfl (lv_at hl 1 rfl) ?_
    refine lv_iload_n hx hb dX8_gone_20 rfl (lv_at hl 0 rfl) ?_
    refine va_calli (va_runV (As := [.int 1]) (rest := []) ⟨hx, hb, hml, hown, hts⟩ (c_X8_no l dC dI H.size a0 1 (Value.int v1na0_0) a0g_1 a0g_2 a0g_3 a0g_4 a0g_5 a0g_6 a0g_7 a0g_8 a0g_9 a0g_10 a0g_12 a0g_13 (Value.int a0_14) a0g_15 a0g_16 a0g_17 a0g_18 a0g_19 a0g_20 a0g_21 a0g_22 a0g_23 a0g_24 a0g_25 a0g_26 a0g_27 a0g_28 a0g_29 a0g_30 a0g_31 a0g_32 a0g_33 a0g_34 a0g_35 a0g_36 a0g_37 a0g_38 a0g_39 v1na0_11 ) (cwV 1 hts gX8_gone_X8_no rfl rfl rfl zd_X8_no ⟨Nat.le_of_ble_eq_true rfl, Nat.le_of_ble_eq_true rfl⟩) ⟨ax_blind (fun _ _ _ _ _ => trivial), zr_8 (zp_K hK) (zp_P1 hP) (q0 := 0) rfl, ax_pre (zp_P1 hP) (zp_K hK) (zp_D1 hD) (fun _ _ => trivial)⟩ rfl rfl hl.1 rfl (lv_room (Nat.le_of_ble_eq_true rfl)) dX8_gone_21 ⟨Nat.le_of_ble_eq_true rfl, Nat.le_of_ble_eq_true rfl⟩) hS (fun q _ h => zp_F1 hD hS hA q h) (zp_F1 hD hS hA) (fun r21 u t H locs ht hvm hw => zx_1 (fun v21na0_11 hB hz1 hk1 hS1 => zo1 hB ht hP hD hk1 (zp_F1 hD hS hA) hS1 (fun hP hK1 hD hS => ?_)))
    have hw : r21 = (-1) := hw
    have hw := hw.symm
    subst hw
    exact W.iret (v := (-1)) hx hb hr (fun t ht hW => ⟨⟨(-1), (), rfl, rfl, v1na0_0, v21na0_11, by rw [ht]; exact hP, va_K.moved hW.alike hK, hD⟩, hS.F ht⟩) hS.2.2 dX8_gone_24
  · obtain ⟨hw, h11_0, h11_1, h11_2, h11_3⟩ := hw
    subst hw
    have l11k2_a0_14 : (1 : Int) ≤ a0_14.toInt := h11_0
    have u11k2_a0_14 : a0_14.toInt ≤ (0 : Int) := ba0_14_u
    exact absurd (Int.le_trans l11k2_a0_14 u11k2_a0_14) (by decide)
end P280_01_safe
section P280_02_safe
set_option maxHeartbeats 4000000 in
set_option maxRecDepth 100000 in
theorem c0_X8_stairs (l : Launch) (dC : Nat → ClassId) (dI : Nat → Nat → Nat) (sz : Nat) (a0 : Nat) (a0_0 : Int32) (a0g_1 a0g_2 a0g_3 a0g_4 a0g_5 a0g_6 a0g_7 a0g_8 a0g_9 a0g_10 a0g_12 a0g_13 a0g_15 a0g_16 a0g_17 a0g_18 a0g_19 a0g_20 a0g_21 a0g_22 a0g_23 a0g_24 a0g_25 a0g_26 a0g_27 a0g_28 a0g_29 a0g_30 a0g_31 a0g_32 a0g_33 a0g_34 a0g_35 a0g_36 a0g_37 a0g_38 a0g_39 : Value) (a0_11 : Int32) (a0_14 : Int32) (ba0_14_l : (0 : Int) ≤ a0_14.toInt) (ba0_14_u : a0_14.toInt ≤ (0 : Int)) : zm l yX8_stairs wsX8_stairs ({ frames := 1, cells := 0, slots := 0, locals := 21 }) [.ref a0] dC dI sz [(a0, .inr (8, [Value.int a0_0, a0g_1, a0g_2, a0g_3, a0g_4, a0g_5, a0g_6, a0g_7, a0g_8, a0g_9, a0g_10, Value.int a0_11, a0g_12, a0g_13, Value.int a0_14, a0g_15, a0g_16, a0g_17, a0g_18, a0g_19, a0g_20, a0g_21, a0g_22, a0g_23, a0g_24, a0g_25, a0g_26, a0g_27, a0g_28, a0g_29, a0g_30, a0g_31, a0g_32, a0g_33, a0g_34, a0g_35, a0g_36, a0g_37, a0g_38, a0g_39]))] [] (fun A _ => True) (fun A => va_Qi (fun (r : Int32) (_ : Unit) => r = (-1)) (fun (_ : Unit) (t : State) => ∃ na0_0 : Int32, ∃ na0_11 : Int32, ax_B dC dI A [(a0, .inr (8, [Value.int na0_0, a0g_1, a0g_2, a0g_3, a0g_4, a0g_5, a0g_6, a0g_7, a0g_8, a0g_9, a0g_10, Value.int na0_11, a0g_12, a0g_13, Value.int a0_14, a0g_15, a0g_16, a0g_17, a0g_18, a0g_19, a0g_20, a0g_21, a0g_22, a0g_23, a0g_24, a0g_25, a0g_26, a0g_27, a0g_28, a0g_29, a0g_30, a0g_31, a0g_32, a0g_33, a0g_34, a0g_35, a0g_36, a0g_37, a0g_38, a0g_39]))] [] t) A) := by
  refine zh (cc := cX8_stairs) (maxL := 1) (ret := (some .int)) zn_RX8 rfl (Nat.le_of_ble_eq_true rfl) (fun p e s m below meth c A ls hx hb hml hr hts (hown : s.vm.findClass RX8 = some m.cls) hlocks hA hS hP hK hD hE (hl : lv_has ls 1 [(0, .ref a0)]) => ?_)
  refine lv_aload_n hx hb dX8_stairs_0 rfl (lv_at hl 0 rfl) ?_
  refine va_callv (va_runV (As := []) (rest := []) ⟨hx, hb, hml, hown, hts⟩ (c_X8_good l dC dI s.heap.size a0 a0_0 a0g_1 a0g_2 a0g_3 a0g_4 a0g_5 a0g_6 a0g_7 a0g_8 a0g_9 a0g_10 a0g_12 a0g_13 (Value.int a0_14) a0g_15 a0g_16 a0g_17 a0g_18 a0g_19 a0g_20 a0g_21 a0g_22 a0g_23 a0g_24 a0g_25 a0g_26 a0g_27 a0g_28 a0g_29 a0g_30 a0g_31 a0g_32 a0g_33 a0g_34 a0g_35 a0g_36 a0g_37 a0g_38 a0g_39 a0_11 ) (cwV 0 hts gX8_stairs_X8_good rfl rfl rfl zd_X8_good ⟨Nat.le_of_ble_eq_true rfl, Nat.le_of_ble_eq_true rfl⟩) ⟨ax_blind (fun _ _ _ _ _ => trivial), zr_8 (zp_K hK) (zp_P1 hP) (q0 := 0) rfl, ax_pre (zp_P1 hP) (zp_K hK) (zp_D1 hD) (fun _ _ => trivial)⟩ rfl rfl hl.1 rfl (lv_room (Nat.le_of_ble_eq_true rfl)) dX8_stairs_1 ⟨Nat.le_of_ble_eq_true rfl, Nat.le_of_ble_eq_true rfl⟩) hS (fun q _ h => zp_F1 hD hS hA q h) (zp_F1 hD hS hA) (fun u t H locs ht hvm hw => zx_2 (fun v1na0_0 v1na0_11 hB hz1 hk1 hS1 => zo1 hB ht hP hD hk1 (zp_F1 hD hS hA) hS1 (fun hP hK1 hD hS => ?_)))
  refine lv_aload_n hx hb dX8_stairs_4 rfl (lv_at hl 0 rfl) ?_
  refine va_get (D := (dC, dI)) (ci := 8) (v := .int a0_14) (C := RX8) (T := TX8) (N := 40) hx hb hts zi_X8_stairs_8 hown hK hP 0 rfl rfl 14 (by decide) (hts (.fieldLink RX8 173 "WaxTurnsModel" "hasGallery" "Z") (zm_X8_stairs_r1 (List.mem_of_getElem? (i := 0) rfl))) (fun _ h9 => h9) rfl dX8_stairs_5 ?_
  refine lv_if_ne (tgt := 17) hx hb dX8_stairs_8 (by decide) (fun c8 => ?_) (fun c8 => ?_)
  · have gc8 := ai_ne c8
    have l8t_a0_14 : (1 : Int) ≤ a0_14.toInt := (by first | exact zg_l ba0_14_l gc8 (by decide) (by decide) | (have h1 := ba0_14_l; have h2 : (0 : Int32).toInt = 0 := (by decide); rw [h2] at gc8; omega))
    have u8t_a0_14 : a0_14.toInt ≤ (-1 : Int) := (by first | exact zg_u ba0_14_u gc8 (by decide) (by decide) | (have h1 := ba0_14_u; have h2 : (0 : Int32).toInt = 0 := (by decide); rw [h2] at gc8; omega))
    exact absurd (Int.le_trans l8t_a0_14 u8t_a0_14) (by decide)
  · have gc8 := ai_eq c8
    have u8f_a0_14 : a0_14.toInt ≤ (0 : Int) := ba0_14_u
    have l8f_a0_14 : (0 : Int) ≤ a0_14.toInt := ba0_14_l
    refine lv_aload_n hx hb dX8_stairs_11 rfl (lv_at hl 0 rfl) ?_
    refine lv_iconst (v := 1) hx hb dX8_stairs_12 zk_iconst_1 ?_
    refine va_calli (va_runV (As := [.int 1]) (rest := []) ⟨hx, hb, hml, hown, hts⟩ (c_X8_no l dC dI H.size a0 1 (Value.int v1na0_0) a0g_1 a0g_2 a0g_3 a0g_4 a0g_5 a0g_6 a0g_7 a0g_8 a0g_9 a0g_10 a0g_12 a0g_13 (Value.int a0_14) a0g_15 a0g_16 a0g_17 a0g_18 a0g_19 a0g_20 a0g_21 a0g_22 a0g_23 a0g_24 a0g_25 a0g_26 a0g_27 a0g_28 a0g_29 a0g_30 a0g_31 a0g_32 a0g_33 a0g_34 a0g_35 a0g_36 a0g_37 a0g_38 a0g_39 v1na0_11 ) (cwV 1 hts gX8_stairs_X8_no rfl rfl rfl zd_X8_no ⟨Nat.le_of_ble_eq_true rfl, Nat.le_of_ble_eq_true rfl⟩) ⟨ax_blind (fun _ _ _ _ _ => trivial), zr_8 (zp_K hK) (zp_P1 hP) (q0 := 0) rfl, ax_pre (zp_P1 hP) (zp_K hK) (zp_D1 hD) (fun _ _ => trivial)⟩ rfl rfl hl.1 rfl (lv_room (Nat.le_of_ble_eq_true rfl)) dX8_stairs_13 ⟨Nat.le_of_ble_eq_true rfl, Nat.le_of_ble_eq_true rfl⟩) hS (fun q _ h => zp_F1 hD hS hA q h) (zp_F1 hD hS hA) (fun r13 u t H locs ht hvm hw => zx_1 (fun v13na0_11 hB hz1 hk1 hS1 => zo1 hB ht hP hD hk1 (zp_F1 hD hS hA) hS1 (fun hP hK1 hD hS => ?_)))
    have hw : r13 = (-1) := hw
    have hw := hw.symm
    subst hw
    exact W.iret (v := (-1)) hx hb hr (fun t ht hW => ⟨⟨(-1), (), rfl, rfl, v1na0_0, v13na0_11, by rw [ht]; exact hP, va_K.moved hW.alike hK, hD⟩, hS.F ht⟩) hS.2.2 dX8_stairs_16

set_option maxHeartbeats 4000000 in
set_option maxRecDepth 100000 in
theorem c0_X8_catches (l : Launch) (dC : Nat → ClassId) (dI : Nat → Nat → Nat) (sz : Nat) (a0 : Nat) (a1 : Int32) (a0_0 : Int32) (a0g_1 a0g_2 a0g_3 a0g_4 a0g_5 a0g_6 a0g_7 a0g_8 a0g_9 a0g_10 a0g_12 a0g_13 a0g_15 a0g_16 a0g_17 a0g_18 a0g_19 a0g_20 a0g_21 a0g_22 a0g_23 a0g_24 a0g_25 a0g_26 a0g_27 a0g_28 a0g_29 a0g_30 a0g_31 a0g_32 a0g_33 a0g_34 a0g_35 a0g_36 a0g_37 a0g_38 a0g_39 : Value) (a0_11 : Int32) (a0_14 : Int32) (ba0_14_l : (0 : Int) ≤ a0_14.toInt) (ba0_14_u : a0_14.toInt ≤ (0 : Int)) : zm l yX8_catches wsX8_catches ({ frames := 2, cells := 0, slots := 0, locals := 45 }) [.ref a0, .int a1] dC dI sz [(a0, .inr (8, [Value.int a0_0, a0g_1, a0g_2, a0g_3, a0g_4, a0g_5, a0g_6, a0g_7, a0g_8, a0g_9, a0g_10, Value.int a0_11, a0g_12, a0g_13, Value.int a0_14, a0g_15, a0g_16, a0g_17, a0g_18, a0g_19, a0g_20, a0g_21, a0g_22, a0g_23, a0g_24, a0g_25, a0g_26, a0g_27, a0g_28, a0g_29, a0g_30, a0g_31, a0g_32, a0g_33, a0g_34, a0g_35, a0g_36, a0g_37, a0g_38, a0g_39]))] [] (fun A _ => True) (fun A => va_Qi (fun (r : Int32) (_ : Unit) => r = (-1)) (fun (_ : Unit) (t : State) => ∃ na0_0 : Int32, ∃ na0_11 : Int32, ax_B dC dI A [(a0, .inr (8, [Value.int na0_0, a0g_1, a0g_2, a0g_3, a0g_4, a0g_5, a0g_6, a0g_7, a0g_8, a0g_9, a0g_10, Value.int na0_11, a0g_12, a0g_13, Value.int a0_14, a0g_15, a0g_16, a0g_17, a0g_18, a0g_19, a0g_20, a0g_21, a0g_22, a0g_23, a0g_24, a0g_25, a0g_26, a0g_27, a0g_28, a0g_29, a0g_30, a0g_31, a0g_32, a0g_33, a0g_34, a0g_35, a0g_36, a0g_37, a0g_38, a0g_39]))] [] t) A) := by
  refine zh (cc := cX8_catches) (maxL := 3) (ret := (some .int)) zn_RX8 rfl (Nat.le_of_ble_eq_true rfl) (fun p e s m below meth c A ls hx hb hml hr hts (hown : s.vm.findClass RX8 = some m.cls) hlocks hA hS hP hK hD hE (hl : lv_has ls 3 [(0, .ref a0), (1, .int a1)]) => ?_)
  refine lv_aload_n hx hb dX8_catches_0 rfl (lv_at hl 0 rfl) ?_
  refine va_callv (va_runV (As := []) (rest := []) ⟨hx, hb, hml, hown, hts⟩ (c_X8_good l dC dI s.heap.size a0 a0_0 a0g_1 a0g_2 a0g_3 a0g_4 a0g_5 a0g_6 a0g_7 a0g_8 a0g_9 a0g_10 a0g_12 a0g_13 (Value.int a0_14) a0g_15 a0g_16 a0g_17 a0g_18 a0g_19 a0g_20 a0g_21 a0g_22 a0g_23 a0g_24 a0g_25 a0g_26 a0g_27 a0g_28 a0g_29 a0g_30 a0g_31 a0g_32 a0g_33 a0g_34 a0g_35 a0g_36 a0g_37 a0g_38 a0g_39 a0_11 ) (cwV 0 hts gX8_catches_X8_good rfl rfl rfl zd_X8_good ⟨Nat.le_of_ble_eq_true rfl, Nat.le_of_ble_eq_true rfl⟩) ⟨ax_blind (fun _ _ _ _ _ => trivial), zr_8 (zp_K hK) (zp_P1 hP) (q0 := 0) rfl, ax_pre (zp_P1 hP) (zp_K hK) (zp_D1 hD) (fun _ _ => trivial)⟩ rfl rfl hl.1 rfl (lv_room (Nat.le_of_ble_eq_true rfl)) dX8_catches_1 ⟨Nat.le_of_ble_eq_true rfl, Nat.le_of_ble_eq_true rfl⟩) hS (fun q _ h => zp_F1 hD hS hA q h) (zp_F1 hD hS hA) (fun u t H locs ht hvm hw => zx_2 (fun v1na0_0 v1na0_11 hB hz1 hk1 hS1 => zo1 hB ht hP hD hk1 (zp_F1 hD hS hA) hS1 (fun hP hK1 hD hS => ?_)))
  refine lv_aload_n hx hb dX8_catches_4 rfl (lv_at hl 0 rfl) ?_
  refine lv_aload_n hx hb dX8_catches_5 rfl (lv_at hl 0 rfl) ?_
  refine va_get (D := (dC, dI)) (ci := 8) (v := .int a0_14) (C := RX8) (T := TX8) (N := 40) hx hb hts zi_X8_catches_8 hown hK hP 0 rfl rfl 14 (by decide) (hts (.fieldLink RX8 173 "WaxTurnsModel" "hasGallery" "Z") (zm_X8_catches_r1 (List.mem_of_getElem? (i := 0) rfl))) (fun _ h9 => h9) rfl dX8_catches_6 ?_
  refine lv_iconst (v := 0) hx hb dX8_catches_9 zk_iconst_0 ?_
  refine lv_iload_n hx hb dX8_catches_10 rfl (lv_at hl 1 rfl) ?_
  refine va_calli (va_runV (As := [.int a0_14, .int 0, .int a1]) (rest := []) ⟨hx, hb, hml, hown, hts⟩ (c_X8_aheadWhy l dC dI H.size a0 a0_14 0 a1 (Value.int v1na0_0) a0g_1 a0g_2 a0g_3 a0g_4 a0g_5 a0g_6 a0g_7 a0g_8 a0g_9 a0g_10 (Value.int v1na0_11) a0g_12 a0g_13 (Value.int a0_14) a0g_15 a0g_16 a0g_17 a0g_18 a0g_19 a0g_20 a0g_21 a0g_22 a0g_23 a0g_24 a0g_25 a0g_26 a0g_27 a0g_28 a0g_29 a0g_30 a0g_31 a0g_32 a0g_33 a0g_34 a0g_35 a0g_36 a0g_37 a0g_38 a0g_39 ba0_14_l (Int.le_trans ba0_14_u zq4) zq5 (Int.le_trans zq6 zq4)) (cwV 3 hts gX8_catches_X8_aheadWhy rfl rfl rfl zd_X8_aheadWhy ⟨Nat.le_of_ble_eq_true rfl, Nat.le_of_ble_eq_true rfl⟩) ⟨ax_blind (fun _ _ _ _ _ => trivial), zr_8 (zp_K hK) (zp_P1 hP) (q0 := 0) rfl, ax_pre (zp_P1 hP) (zp_K hK) (zp_D1 hD) (fun _ _ => trivial)⟩ rfl rfl hl.1 rfl (lv_room (Nat.le_of_ble_eq_true rfl)) dX8_catches_11 ⟨Nat.le_of_ble_eq_true rfl, Nat.le_of_ble_eq_true rfl⟩) hS (fun q _ h => zp_F1 hD hS hA q h) (zp_F1 hD hS hA) (fun r11 u t H locs ht hvm hw hB hz1 hk1 hS1 => zo1 hB ht hP hD hk1 (zp_F1 hD hS hA) hS1 (fun hP hK1 hD hS => ?_))
  rcases hw with hw | hw | hw
  · obtain ⟨hw, h11_0, h11_1⟩ := hw
    subst hw
    have l11k0_a0_14 : (1 : Int) ≤ a0_14.toInt := h11_0
    have u11k0_a0_14 : a0_14.toInt ≤ (0 : Int) := ba0_14_u
    exact absurd (Int.le_trans l11k0_a0_14 u11k0_a0_14) (by decide)
  · obtain ⟨hw, h11_0, h11_1⟩ := hw
    subst hw
    have l11k1_a0_14 : (0 : Int) ≤ a0_14.toInt := ba0_14_l
    have u11k1_a0_14 : a0_14.toInt ≤ (0 : Int) := ba0_14_u
    refine lv_istore_n (lv' := [(2, .int 1), (0, .ref a0), (1, .int a1)]) hx hb dX8_catches_14 rfl hl (by decide) rfl (fun ls hl => ?_)
    refine lv_iload_n hx hb dX8_catches_15 rfl (lv_at hl 0 rfl) ?_
    refine lv_if_eq (tgt := 25) hx hb dX8_catches_16 (by decide) (fun c16 => absurd c16 (by decide +kernel)) (fun _ => ?_)
    refine lv_aload_n hx hb dX8_catches_19 rfl (lv_at hl 1 rfl) ?_
    refine lv_iload_n hx hb dX8_catches_20 rfl (lv_at hl 0 rfl) ?_
    refine va_calli (va_runV (As := [.int 1]) (rest := []) ⟨hx, hb, hml, hown, hts⟩ (c_X8_no l dC dI H.size a0 1 (Value.int v1na0_0) a0g_1 a0g_2 a0g_3 a0g_4 a0g_5 a0g_6 a0g_7 a0g_8 a0g_9 a0g_10 a0g_12 a0g_13 (Value.int a0_14) a0g_15 a0g_16 a0g_17 a0g_18 a0g_19 a0g_20 a0g_21 a0g_22 a0g_23 a0g_24 a0g_25 a0g_26 a0g_27 a0g_28 a0g_29 a0g_30 a0g_31 a0g_32 a0g_33 a0g_34 a0g_35 a0g_36 a0g_37 a0g_38 a0g_39 v1na0_11 ) (cwV 1 hts gX8_catches_X8_no rfl rfl rfl zd_X8_no ⟨Nat.le_of_ble_eq_true rfl, Nat.le_of_ble_eq_true rfl⟩) ⟨ax_blind (fun _ _ _ _ _ => trivial), zr_8 (zp_K hK) (zp_P1 hP) (q0 := 0) rfl, ax_pre (zp_P1 hP) (zp_K hK) (zp_D1 hD) (fun _ _ => trivial)⟩ rfl rfl hl.1 rfl (lv_room (Nat.le_of_ble_eq_true rfl)) dX8_catches_21 ⟨Nat.le_of_ble_eq_true rfl, Nat.le_of_ble_eq_true rfl⟩) hS (fun q _ h => zp_F1 hD hS hA q h) (zp_F1 hD hS hA) (fun r21 u t H locs ht hvm hw => zx_1 (fun v21na0_11 hB hz1 hk1 hS1 => zo1 hB ht hP hD hk1 (zp_F1 hD hS hA) hS1 (fun hP hK1 hD hS => ?_)))
    have hw : r21 = (-1) := hw
    have hw := hw.symm
    subst hw
    exact W.iret (v := (-1)) hx hb hr (fun t ht hW => ⟨⟨(-1), (), rfl, rfl, v1na0_0, v21na0_11, by rw [ht]; exact hP, va_K.moved hW.alike hK, hD⟩, hS.F ht⟩) hS.2.2 dX8_catches_24
  · obtain ⟨hw, h11_0, h11_1, h11_2, h11_3⟩ := hw
    subst hw
    have l11k2_a0_14 : (1 : Int) ≤ a0_14.toInt := h11_0
    have u11k2_a0_14 : a0_14.toInt ≤ (0 : Int) := ba0_14_u
    exact absurd (Int.le_trans l11k2_a0_14 u11k2_a0_14) (by decide)

set_option maxHeartbeats 4000000 in
set_option maxRecDepth 100000 in
theorem c0_X8_heard (l : Launch) (dC : Nat → ClassId) (dI : Nat → Nat → Nat) (sz : Nat) (a0 : Nat) (a1 : Int32) (a2 : Int32) (a0_0 : Int32) (a0g_1 a0g_2 a0g_3 a0g_4 a0g_5 a0g_6 a0g_7 a0g_8 a0g_9 a0g_10 a0g_12 a0g_13 a0g_15 a0g_16 a0g_17 a0g_18 a0g_19 a0g_20 a0g_21 a0g_22 a0g_23 a0g_24 a0g_25 a0g_26 a0g_27 a0g_28 a0g_29 a0g_30 a0g_31 a0g_32 a0g_33 a0g_34 a0g_35 a0g_36 a0g_37 a0g_38 a0g_39 : Value) (a0_11 : Int32) (a0_14 : Int32) (ba0_14_l : (0 : Int) ≤ a0_14.toInt) (ba0_14_u : a0_14.toInt ≤ (0 : Int)) : zm l yX8_heard wsX8_heard ({ frames := 2, cells := 0, slots := 0, locals := 45 }) [.ref a0, .int a1, .int a2] dC dI sz [(a0, .inr (8, [Value.int a0_0, a0g_1, a0g_2, a0g_3, a0g_4, a0g_5, a0g_6, a0g_7, a0g_8, a0g_9, a0g_10, Value.int a0_11, a0g_12, a0g_13, Value.int a0_14, a0g_15, a0g_16, a0g_17, a0g_18, a0g_19, a0g_20, a0g_21, a0g_22, a0g_23, a0g_24, a0g_25, a0g_26, a0g_27, a0g_28, a0g_29, a0g_30, a0g_31, a0g_32, a0g_33, a0g_34, a0g_35, a0g_36, a0g_37, a0g_38, a0g_39]))] [] (fun A _ => True) (fun A => va_Qi (fun (r : Int32) (_ : Unit) => r = (-1)) (fun (_ : Unit) (t : State) => ∃ na0_0 : Int32, ∃ na0_11 : Int32, ax_B dC dI A [(a0, .inr (8, [Value.int na0_0, a0g_1, a0g_2, a0g_3, a0g_4, a0g_5, a0g_6, a0g_7, a0g_8, a0g_9, a0g_10, Value.int na0_11, a0g_12, a0g_13, Value.int a0_14, a0g_15, a0g_16, a0g_17, a0g_18, a0g_19, a0g_20, a0g_21, a0g_22, a0g_23, a0g_24, a0g_25, a0g_26, a0g_27, a0g_28, a0g_29, a0g_30, a0g_31, a0g_32, a0g_33, a0g_34, a0g_35, a0g_36, a0g_37, a0g_38, a0g_39]))] [] t) A) := by
  refine zh (cc := cX8_heard) (maxL := 5) (ret := (some .int)) zn_RX8 rfl (Nat.le_of_ble_eq_true rfl) (fun p e s m below meth c A ls hx hb hml hr hts (hown : s.vm.findClass RX8 = some m.cls) hlocks hA hS hP hK hD hE (hl : lv_has ls 5 [(0, .ref a0), (1, .int a1), (2, .int a2)]) => ?_)
  refine ai_open (fun K hK0 => ?_)
  refine (hK0 _ _ _).mpr ?_
  refine lv_aload_n hx hb dX8_heard_0 rfl (lv_at hl 0 rfl) ?_
  refine va_callv (va_runV (As := []) (rest := []) ⟨hx, hb, hml, hown, hts⟩ (c_X8_good l dC dI s.heap.size a0 a0_0 a0g_1 a0g_2 a0g_3 a0g_4 a0g_5 a0g_6 a0g_7 a0g_8 a0g_9 a0g_10 a0g_12 a0g_13 (Value.int a0_14) a0g_15 a0g_16 a0g_17 a0g_18 a0g_19 a0g_20 a0g_21 a0g_22 a0g_23 a0g_24 a0g_25 a0g_26 a0g_27 a0g_28 a0g_29 a0g_30 a0g_31 a0g_32 a0g_33 a0g_34 a0g_35 a0g_36 a0g_37 a0g_38 a0g_39 a0_11 ) (cwV 0 hts gX8_heard_X8_good rfl rfl rfl zd_X8_good ⟨Nat.le_of_ble_eq_true rfl, Nat.le_of_ble_eq_true rfl⟩) ⟨ax_blind (fun _ _ _ _ _ => trivial), zr_8 (zp_K hK) (zp_P1 hP) (q0 := 0) rfl, ax_pre (zp_P1 hP) (zp_K hK) (zp_D1 hD) (fun _ _ => trivial)⟩ rfl rfl hl.1 rfl (lv_room (Nat.le_of_ble_eq_true rfl)) dX8_heard_1 ⟨Nat.le_of_ble_eq_true rfl, Nat.le_of_ble_eq_true rfl⟩) hS (fun q _ h => zp_F1 hD hS hA q h) (zp_F1 hD hS hA) (fun u t H locs ht hvm hw => zx_2 (fun v1na0_0 v1na0_11 hB hz1 hk1 hS1 => zo1 hB ht hP hD hk1 (zp_F1 hD hS hA) hS1 (fun hP hK1 hD hS => ?_)))
  refine lv_aload_n hx hb dX8_heard_4 rfl (lv_at hl 0 rfl) ?_
  refine lv_aload_n hx hb dX8_heard_5 rfl (lv_at hl 0 rfl) ?_
  refine lv_iload_n hx hb dX8_heard_6 rfl (lv_at hl 1 rfl) ?_
  refine va_calli (va_runV (As := [.int a1]) (rest := [.ref a0]) ⟨hx, hb, hml, hown, hts⟩ (c0_X8_isFigure l dC dI H.size a0 a1 (Value.int v1na0_0) a0g_1 a0g_2 a0g_3 a0g_4 a0g_5 a0g_6 a0g_7 a0g_8 a0g_9 a0g_10 (Value.int v1na0_11) a0g_12 a0g_13 a0g_15 a0g_16 a0g_17 a0g_18 a0g_19 a0g_20 a0g_21 a0g_22 a0g_23 a0g_24 a0g_25 a0g_26 a0g_27 a0g_28 a0g_29 a0g_30 a0g_31 a0g_32 a0g_33 a0g_34 a0g_35 a0g_36 a0g_37 a0g_38 a0g_39 a0_14 ba0_14_l ba0_14_u) (cwV 1 hts gX8_heard_X8_isFigure rfl rfl rfl zd_X8_isFigure ⟨Nat.le_of_ble_eq_true rfl, Nat.le_of_ble_eq_true rfl⟩) ⟨ax_blind (fun _ _ _ _ _ => trivial), zr_8 (zp_K hK) (zp_P1 hP) (q0 := 0) rfl, ax_pre (zp_P1 hP) (zp_K hK) (zp_D1 hD) (fun _ _ => trivial)⟩ rfl rfl hl.1 rfl (lv_room (Nat.le_of_ble_eq_true rfl)) dX8_heard_7 ⟨Nat.le_of_ble_eq_true rfl, Nat.le_of_ble_eq_true rfl⟩) hS (fun q _ h => zp_F1 hD hS hA q h) (zp_F1 hD hS hA) (fun r7 u t H locs ht hvm hw hB hz1 hk1 hS1 => zo1 hB ht hP hD hk1 (zp_F1 hD hS hA) hS1 (fun hP hK1 hD hS => ?_))
  have hw : r7 = 0 := hw
  have hw := hw.symm
  subst hw
  refine lv_iconst (v := 0) hx hb dX8_heard_10 zk_iconst_0 ?_
  refine lv_iload_n hx hb dX8_heard_11 rfl (lv_at hl 2 rfl) ?_
  refine va_calli (va_runV (As := [.int 0, .int 0, .int a2]) (rest := []) ⟨hx, hb, hml, hown, hts⟩ (c_X8_aheadWhy l dC dI H.size a0 0 0 a2 (Value.int v1na0_0) a0g_1 a0g_2 a0g_3 a0g_4 a0g_5 a0g_6 a0g_7 a0g_8 a0g_9 a0g_10 (Value.int v1na0_11) a0g_12 a0g_13 (Value.int a0_14) a0g_15 a0g_16 a0g_17 a0g_18 a0g_19 a0g_20 a0g_21 a0g_22 a0g_23 a0g_24 a0g_25 a0g_26 a0g_27 a0g_28 a0g_29 a0g_30 a0g_31 a0g_32 a0g_33 a0g_34 a0g_35 a0g_36 a0g_37 a0g_38 a0g_39 zq5 (Int.le_trans zq6 zq4) zq5 (Int.le_trans zq6 zq4)) (cwV 3 hts gX8_heard_X8_aheadWhy rfl rfl rfl zd_X8_aheadWhy ⟨Nat.le_of_ble_eq_true rfl, Nat.le_of_ble_eq_true rfl⟩) ⟨ax_blind (fun _ _ _ _ _ => trivial), zr_8 (zp_K hK) (zp_P1 hP) (q0 := 0) rfl, ax_pre (zp_P1 hP) (zp_K hK) (zp_D1 hD) (fun _ _ => trivial)⟩ rfl rfl hl.1 rfl (lv_room (Nat.le_of_ble_eq_true rfl)) dX8_heard_12 ⟨Nat.le_of_ble_eq_true rfl, Nat.le_of_ble_eq_true rfl⟩) hS (fun q _ h => zp_F1 hD hS hA q h) (zp_F1 hD hS hA) (fun r12 u t H locs ht hvm hw hB hz1 hk1 hS1 => zo1 hB ht hP hD hk1 (zp_F1 hD hS hA) hS1 (fun hP hK1 hD hS => ?_))
  rcases hw with hw | hw | hw
  · obtain ⟨hw, h12_0, h12_1⟩ := hw
    subst hw
    exact absurd h12_0 (by decide)
  · obtain ⟨hw, h12_0, h12_1⟩ := hw
    subst hw
    refine lv_istore_n (lv' := [(3, .int 1), (0, .ref a0), (1, .int a1), (2, .int a2)]) hx hb dX8_heard_15 rfl hl (by decide) rfl (fun ls hl => ?_)
    refine lv_iload_n hx hb dX8_heard_16 rfl (lv_at hl 0 rfl) ?_
    refine lv_if_eq (tgt := 26) hx hb dX8_heard_17 (by decide) (fun c17 => absurd c17 (by decide +kernel)) (fun _ => ?_)
    refine lv_aload_n hx hb dX8_heard_20 rfl (lv_at hl 1 rfl) ?_
    refine lv_iload_n hx hb dX8_heard_21 rfl (lv_at hl 0 rfl) ?_
    refine va_calli (va_runV (As := [.int 1]) (rest := []) ⟨hx, hb, hml, hown, hts⟩ (c_X8_no l dC dI H.size a0 1 (Value.int v1na0_0) a0g_1 a0g_2 a0g_3 a0g_4 a0g_5 a0g_6 a0g_7 a0g_8 a0g_9 a0g_10 a0g_12 a0g_13 (Value.int a0_14) a0g_15 a0g_16 a0g_17 a0g_18 a0g_19 a0g_20 a0g_21 a0g_22 a0g_23 a0g_24 a0g_25 a0g_26 a0g_27 a0g_28 a0g_29 a0g_30 a0g_31 a0g_32 a0g_33 a0g_34 a0g_35 a0g_36 a0g_37 a0g_38 a0g_39 v1na0_11 ) (cwV 1 hts gX8_heard_X8_no rfl rfl rfl zd_X8_no ⟨Nat.le_of_ble_eq_true rfl, Nat.le_of_ble_eq_true rfl⟩) ⟨ax_blind (fun _ _ _ _ _ => trivial), zr_8 (zp_K hK) (zp_P1 hP) (q0 := 0) rfl, ax_pre (zp_P1 hP) (zp_K hK) (zp_D1 hD) (fun _ _ => trivial)⟩ rfl rfl hl.1 rfl (lv_room (Nat.le_of_ble_eq_true rfl)) dX8_heard_22 ⟨Nat.le_of_ble_eq_true rfl, Nat.le_of_ble_eq_true rfl⟩) hS (fun q _ h => zp_F1 hD hS hA q h) (zp_F1 hD hS hA) (fun r22 u t H locs ht hvm hw => zx_1 (fun v22na0_11 hB hz1 hk1 hS1 => zo1 hB ht hP hD hk1 (zp_F1 hD hS hA) hS1 (fun hP hK1 hD hS => ?_)))
    have hw : r22 = (-1) := hw
    have hw := hw.symm
    subst hw
    exact W.iret (v := (-1)) hx hb hr (fun t ht hW => ⟨⟨(-1), (), rfl, rfl, v1na0_0, v22na0_11, by rw [ht]; exact hP, va_K.moved hW.alike hK, hD⟩, hS.F ht⟩) hS.2.2 dX8_heard_25
  · obtain ⟨hw, h12_0, h12_1, h12_2, h12_3⟩ := hw
    subst hw
    exact absurd h12_0 (by decide)

set_option maxHeartbeats 4000000 in
set_option maxRecDepth 100000 in
theorem c0_X8_allIn (l : Launch) (dC : Nat → ClassId) (dI : Nat → Nat → Nat) (sz : Nat) (a0 : Nat) (a1 : Int32) (a0_0 : Int32) (a0g_1 a0g_2 a0g_3 a0g_4 a0g_5 a0g_6 a0g_7 a0g_8 a0g_9 a0g_10 a0g_12 a0g_13 a0g_15 a0g_16 a0g_17 a0g_18 a0g_19 a0g_20 a0g_21 a0g_22 a0g_23 a0g_24 a0g_25 a0g_26 a0g_27 a0g_28 a0g_29 a0g_30 a0g_31 a0g_32 a0g_33 a0g_34 a0g_35 a0g_36 a0g_37 a0g_38 a0g_39 : Value) (a0_11 : Int32) (a0_14 : Int32) (ba0_14_l : (0 : Int) ≤ a0_14.toInt) (ba0_14_u : a0_14.toInt ≤ (0 : Int)) : zm l yX8_allIn wsX8_allIn ({ frames := 1, cells := 0, slots := 0, locals := 21 }) [.ref a0, .int a1] dC dI sz [(a0, .inr (8, [Value.int a0_0, a0g_1, a0g_2, a0g_3, a0g_4, a0g_5, a0g_6, a0g_7, a0g_8, a0g_9, a0g_10, Value.int a0_11, a0g_12, a0g_13, Value.int a0_14, a0g_15, a0g_16, a0g_17, a0g_18, a0g_19, a0g_20, a0g_21, a0g_22, a0g_23, a0g_24, a0g_25, a0g_26, a0g_27, a0g_28, a0g_29, a0g_30, a0g_31, a0g_32, a0g_33, a0g_34, a0g_35, a0g_36, a0g_37, a0g_38, a0g_39]))] [] (fun A _ => True) (fun A => va_Qi (fun (r : Int32) (_ : Unit) => r = (-1)) (fun (_ : Unit) (t : State) => ∃ na0_0 : Int32, ∃ na0_11 : Int32, ax_B dC dI A [(a0, .inr (8, [Value.int na0_0, a0g_1, a0g_2, a0g_3, a0g_4, a0g_5, a0g_6, a0g_7, a0g_8, a0g_9, a0g_10, Value.int na0_11, a0g_12, a0g_13, Value.int a0_14, a0g_15, a0g_16, a0g_17, a0g_18, a0g_19, a0g_20, a0g_21, a0g_22, a0g_23, a0g_24, a0g_25, a0g_26, a0g_27, a0g_28, a0g_29, a0g_30, a0g_31, a0g_32, a0g_33, a0g_34, a0g_35, a0g_36, a0g_37, a0g_38, a0g_39]))] [] t) A) := by
  refine zh (cc := cX8_allIn) (maxL := 4) (ret := (some .int)) zn_RX8 rfl (Nat.le_of_ble_eq_true rfl) (fun p e s m below meth c A ls hx hb hml hr hts (hown : s.vm.findClass RX8 = some m.cls) hlocks hA hS hP hK hD hE (hl : lv_has ls 4 [(0, .ref a0), (1, .int a1)]) => ?_)
  refine ai_open (fun K hK0 => ?_)
  refine (hK0 _ _ _).mpr ?_
  refine lv_aload_n hx hb dX8_allIn_0 rfl (lv_at hl 0 rfl) ?_
  refine va_callv (va_runV (As := []) (rest := []) ⟨hx, hb, hml, hown, hts⟩ (c_X8_good l dC dI s.heap.size a0 a0_0 a0g_1 a0g_2 a0g_3 a0g_4 a0g_5 a0g_6 a0g_7 a0g_8 a0g_9 a0g_10 a0g_12 a0g_13 (Value.int a0_14) a0g_15 a0g_16 a0g_17 a0g_18 a0g_19 a0g_20 a0g_21 a0g_22 a0g_23 a0g_24 a0g_25 a0g_26 a0g_27 a0g_28 a0g_29 a0g_30 a0g_31 a0g_32 a0g_33 a0g_34 a0g_35 a0g_36 a0g_37 a0g_38 a0g_39 a0_11 ) (cwV 0 hts gX8_allIn_X8_good rfl rfl rfl zd_X8_good ⟨Nat.le_of_ble_eq_true rfl, Nat.le_of_ble_eq_true rfl⟩) ⟨ax_blind (fun _ _ _ _ _ => trivial), zr_8 (zp_K hK) (zp_P1 hP) (q0 := 0) rfl, ax_pre (zp_P1 hP) (zp_K hK) (zp_D1 hD) (fun _ _ => trivial)⟩ rfl rfl hl.1 rfl (lv_room (Nat.le_of_ble_eq_true rfl)) dX8_allIn_1 ⟨Nat.le_of_ble_eq_true rfl, Nat.le_of_ble_eq_true rfl⟩) hS (fun q _ h => zp_F1 hD hS hA q h) (zp_F1 hD hS hA) (fun u t H locs ht hvm hw => zx_2 (fun v1na0_0 v1na0_11 hB hz1 hk1 hS1 => zo1 hB ht hP hD hk1 (zp_F1 hD hS hA) hS1 (fun hP hK1 hD hS => ?_)))
  refine lv_aload_n hx hb dX8_allIn_4 rfl (lv_at hl 0 rfl) ?_
  refine lv_iload_n hx hb dX8_allIn_5 rfl (lv_at hl 1 rfl) ?_
  refine va_calli (va_runV (As := [.int a1]) (rest := []) ⟨hx, hb, hml, hown, hts⟩ (c0_X8_isFigure l dC dI H.size a0 a1 (Value.int v1na0_0) a0g_1 a0g_2 a0g_3 a0g_4 a0g_5 a0g_6 a0g_7 a0g_8 a0g_9 a0g_10 (Value.int v1na0_11) a0g_12 a0g_13 a0g_15 a0g_16 a0g_17 a0g_18 a0g_19 a0g_20 a0g_21 a0g_22 a0g_23 a0g_24 a0g_25 a0g_26 a0g_27 a0g_28 a0g_29 a0g_30 a0g_31 a0g_32 a0g_33 a0g_34 a0g_35 a0g_36 a0g_37 a0g_38 a0g_39 a0_14 ba0_14_l ba0_14_u) (cwV 1 hts gX8_allIn_X8_isFigure rfl rfl rfl zd_X8_isFigure ⟨Nat.le_of_ble_eq_true rfl, Nat.le_of_ble_eq_true rfl⟩) ⟨ax_blind (fun _ _ _ _ _ => trivial), zr_8 (zp_K hK) (zp_P1 hP) (q0 := 0) rfl, ax_pre (zp_P1 hP) (zp_K hK) (zp_D1 hD) (fun _ _ => trivial)⟩ rfl rfl hl.1 rfl (lv_room (Nat.le_of_ble_eq_true rfl)) dX8_allIn_6 ⟨Nat.le_of_ble_eq_true rfl, Nat.le_of_ble_eq_true rfl⟩) hS (fun q _ h => zp_F1 hD hS hA q h) (zp_F1 hD hS hA) (fun r6 u t H locs ht hvm hw hB hz1 hk1 hS1 => zo1 hB ht hP hD hk1 (zp_F1 hD hS hA) hS1 (fun hP hK1 hD hS => ?_))
  have hw : r6 = 0 := hw
  have hw := hw.symm
  subst hw
  refine lv_if_ne (tgt := 18) hx hb dX8_allIn_9 (by decide) (fun c9 => absurd (by decide +kernel) c9) (fun _ => ?_)
  refine lv_aload_n hx hb dX8_allIn_12 rfl (lv_at hl 0 rfl) ?_
  refine lv_iconst (v := 1) hx hb dX8_allIn_13 zk_iconst_1 ?_
  refine va_calli (va_runV (As := [.int 1]) (rest := []) ⟨hx, hb, hml, hown, hts⟩ (c_X8_no l dC dI H.size a0 1 (Value.int v1na0_0) a0g_1 a0g_2 a0g_3 a0g_4 a0g_5 a0g_6 a0g_7 a0g_8 a0g_9 a0g_10 a0g_12 a0g_13 (Value.int a0_14) a0g_15 a0g_16 a0g_17 a0g_18 a0g_19 a0g_20 a0g_21 a0g_22 a0g_23 a0g_24 a0g_25 a0g_26 a0g_27 a0g_28 a0g_29 a0g_30 a0g_31 a0g_32 a0g_33 a0g_34 a0g_35 a0g_36 a0g_37 a0g_38 a0g_39 v1na0_11 ) (cwV 1 hts gX8_allIn_X8_no rfl rfl rfl zd_X8_no ⟨Nat.le_of_ble_eq_true rfl, Nat.le_of_ble_eq_true rfl⟩) ⟨ax_blind (fun _ _ _ _ _ => trivial), zr_8 (zp_K hK) (zp_P1 hP) (q0 := 0) rfl, ax_pre (zp_P1 hP) (zp_K hK) (zp_D1 hD) (fun _ _ => trivial)⟩ rfl rfl hl.1 rfl (lv_room (Nat.le_of_ble_eq_true rfl)) dX8_allIn_14 ⟨Nat.le_of_ble_eq_true rfl, Nat.le_of_ble_eq_true rfl⟩) hS (fun q _ h => zp_F1 hD hS hA q h) (zp_F1 hD hS hA) (fun r14 u t H locs ht hvm hw => zx_1 (fun v14na0_11 hB hz1 hk1 hS1 => zo1 hB ht hP hD hk1 (zp_F1 hD hS hA) hS1 (fun hP hK1 hD hS => ?_)))
  have hw : r14 = (-1) := hw
  have hw := hw.symm
  subst hw
  exact W.iret (v := (-1)) hx hb hr (fun t ht hW => ⟨⟨(-1), (), rfl, rfl, v1na0_0, v14na0_11, by rw [ht]; exact hP, va_K.moved hW.alike hK, hD⟩, hS.F ht⟩) hS.2.2 dX8_allIn_17

set_option maxHeartbeats 4000000 in
set_option maxRecDepth 100000 in
theorem c0_X8_crowd (l : Launch) (dC : Nat → ClassId) (dI : Nat → Nat → Nat) (sz : Nat) (a0 : Nat) (a1 : Int32) (a0_0 : Int32) (a0g_1 a0g_2 a0g_3 a0g_4 a0g_5 a0g_6 a0g_7 a0g_8 a0g_9 a0g_10 a0g_12 a0g_13 a0g_15 a0g_16 a0g_17 a0g_18 a0g_19 a0g_20 a0g_21 a0g_22 a0g_23 a0g_24 a0g_25 a0g_26 a0g_27 a0g_28 a0g_29 a0g_30 a0g_31 a0g_32 a0g_33 a0g_34 a0g_35 a0g_36 a0g_37 a0g_38 a0g_39 : Value) (a0_11 : Int32) (a0_14 : Int32) (ba0_14_l : (0 : Int) ≤ a0_14.toInt) (ba0_14_u : a0_14.toInt ≤ (0 : Int)) : zm l yX8_crowd wsX8_crowd ({ frames := 2, cells := 0, slots := 0, locals := 45 }) [.ref a0, .int a1] dC dI sz [(a0, .inr (8, [Value.int a0_0, a0g_1, a0g_2, a0g_3, a0g_4, a0g_5, a0g_6, a0g_7, a0g_8, a0g_9, a0g_10, Value.int a0_11, a0g_12, a0g_13, Value.int a0_14, a0g_15, a0g_16, a0g_17, a0g_18, a0g_19, a0g_20, a0g_21, a0g_22, a0g_23, a0g_24, a0g_25, a0g_26, a0g_27, a0g_28, a0g_29, a0g_30, a0g_31, a0g_32, a0g_33, a0g_34, a0g_35, a0g_36, a0g_37, a0g_38, a0g_39]))] [] (fun A _ => True) (fun A => va_Qi (fun (r : Int32) (_ : Unit) => r = (-1)) (fun (_ : Unit) (t : State) => ∃ na0_0 : Int32, ∃ na0_11 : Int32, ax_B dC dI A [(a0, .inr (8, [Value.int na0_0, a0g_1, a0g_2, a0g_3, a0g_4, a0g_5, a0g_6, a0g_7, a0g_8, a0g_9, a0g_10, Value.int na0_11, a0g_12, a0g_13, Value.int a0_14, a0g_15, a0g_16, a0g_17, a0g_18, a0g_19, a0g_20, a0g_21, a0g_22, a0g_23, a0g_24, a0g_25, a0g_26, a0g_27, a0g_28, a0g_29, a0g_30, a0g_31, a0g_32, a0g_33, a0g_34, a0g_35, a0g_36, a0g_37, a0g_38, a0g_39]))] [] t) A) := by
  refine zh (cc := cX8_crowd) (maxL := 8) (ret := (some .int)) zn_RX8 rfl (Nat.le_of_ble_eq_true rfl) (fun p e s m below meth c A ls hx hb hml hr hts (hown : s.vm.findClass RX8 = some m.cls) hlocks hA hS hP hK hD hE (hl : lv_has ls 8 [(0, .ref a0), (1, .int a1)]) => ?_)
  refine ai_open (fun K hK0 => ?_)
  refine (hK0 _ _ _).mpr ?_
  refine lv_aload_n hx hb dX8_crowd_0 rfl (lv_at hl 0 rfl) ?_
  refine va_callv (va_runV (As := []) (rest := []) ⟨hx, hb, hml, hown, hts⟩ (c_X8_good l dC dI s.heap.size a0 a0_0 a0g_1 a0g_2 a0g_3 a0g_4 a0g_5 a0g_6 a0g_7 a0g_8 a0g_9 a0g_10 a0g_12 a0g_13 (Value.int a0_14) a0g_15 a0g_16 a0g_17 a0g_18 a0g_19 a0g_20 a0g_21 a0g_22 a0g_23 a0g_24 a0g_25 a0g_26 a0g_27 a0g_28 a0g_29 a0g_30 a0g_31 a0g_32 a0g_33 a0g_34 a0g_35 a0g_36 a0g_37 a0g_38 a0g_39 a0_11 ) (cwV 0 hts gX8_crowd_X8_good rfl rfl rfl zd_X8_good ⟨Nat.le_of_ble_eq_true rfl, Nat.le_of_ble_eq_true rfl⟩) ⟨ax_blind (fun _ _ _ _ _ => trivial), zr_8 (zp_K hK) (zp_P1 hP) (q0 := 0) rfl, ax_pre (zp_P1 hP) (zp_K hK) (zp_D1 hD) (fun _ _ => trivial)⟩ rfl rfl hl.1 rfl (lv_room (Nat.le_of_ble_eq_true rfl)) dX8_crowd_1 ⟨Nat.le_of_ble_eq_true rfl, Nat.le_of_ble_eq_true rfl⟩) hS (fun q _ h => zp_F1 hD hS hA q h) (zp_F1 hD hS hA) (fun u t H locs ht hvm hw => zx_2 (fun v1na0_0 v1na0_11 hB hz1 hk1 hS1 => zo1 hB ht hP hD hk1 (zp_F1 hD hS hA) hS1 (fun hP hK1 hD hS => ?_)))
  refine lv_aload_n hx hb dX8_crowd_4 rfl (lv_at hl 0 rfl) ?_
  refine lv_aload_n hx hb dX8_crowd_5 rfl (lv_at hl 0 rfl) ?_
  refine va_get (D := (dC, dI)) (ci := 8) (v := .int a0_14) (C := RX8) (T := TX8) (N := 40) hx hb hts zi_X8_crowd_8 hown hK hP 0 rfl rfl 14 (by decide) (hts (.fieldLink RX8 173 "WaxTurnsModel" "hasGallery" "Z") (zm_X8_crowd_r1 (List.mem_of_getElem? (i := 0) rfl))) (fun _ h9 => h9) rfl dX8_crowd_6 ?_
  refine lv_iconst (v := 0) hx hb dX8_crowd_9 zk_iconst_0 ?_
  refine lv_iload_n hx hb dX8_crowd_10 rfl (lv_at hl 1 rfl) ?_
  refine va_calli (va_runV (As := [.int a0_14, .int 0, .int a1]) (rest := []) ⟨hx, hb, hml, hown, hts⟩ (c_X8_aheadWhy l dC dI H.size a0 a0_14 0 a1 (Value.int v1na0_0) a0g_1 a0g_2 a0g_3 a0g_4 a0g_5 a0g_6 a0g_7 a0g_8 a0g_9 a0g_10 (Value.int v1na0_11) a0g_12 a0g_13 (Value.int a0_14) a0g_15 a0g_16 a0g_17 a0g_18 a0g_19 a0g_20 a0g_21 a0g_22 a0g_23 a0g_24 a0g_25 a0g_26 a0g_27 a0g_28 a0g_29 a0g_30 a0g_31 a0g_32 a0g_33 a0g_34 a0g_35 a0g_36 a0g_37 a0g_38 a0g_39 ba0_14_l (Int.le_trans ba0_14_u zq4) zq5 (Int.le_trans zq6 zq4)) (cwV 3 hts gX8_crowd_X8_aheadWhy rfl rfl rfl zd_X8_aheadWhy ⟨Nat.le_of_ble_eq_true rfl, Nat.le_of_ble_eq_true rfl⟩) ⟨ax_blind (fun _ _ _ _ _ => trivial), zr_8 (zp_K hK) (zp_P1 hP) (q0 := 0) rfl, ax_pre (zp_P1 hP) (zp_K hK) (zp_D1 hD) (fun _ _ => trivial)⟩ rfl rfl hl.1 rfl (lv_room (Nat.le_of_ble_eq_true rfl)) dX8_crowd_11 ⟨Nat.le_of_ble_eq_true rfl, Nat.le_of_ble_eq_true rfl⟩) hS (fun q _ h => zp_F1 hD hS hA q h) (zp_F1 hD hS hA) (fun r11 u t H locs ht hvm hw hB hz1 hk1 hS1 => zo1 hB ht hP hD hk1 (zp_F1 hD hS hA) hS1 (fun hP hK1 hD hS => ?_))
  rcases hw with hw | hw | hw
  · obtain ⟨hw, h11_0, h11_1⟩ := hw
    subst hw
    have l11k0_a0_14 : (1 : Int) ≤ a0_14.toInt := h11_0
    have u11k0_a0_14 : a0_14.toInt ≤ (0 : Int) := ba0_14_u
    exact absurd (Int.le_trans l11k0_a0_14 u11k0_a0_14) (by decide)
  · obtain ⟨hw, h11_0, h11_1⟩ := hw
    subst hw
    have l11k1_a0_14 : (0 : Int) ≤ a0_14.toInt := ba0_14_l
    have u11k1_a0_14 : a0_14.toInt ≤ (0 : Int) := ba0_14_u
    refine lv_istore_n (lv' := [(2, .int 1), (0, .ref a0), (1, .int a1)]) hx hb dX8_crowd_14 rfl hl (by decide) rfl (fun ls hl => ?_)
    refine lv_iload_n hx hb dX8_crowd_15 rfl (lv_at hl 0 rfl) ?_
    refine lv_if_eq (tgt := 25) hx hb dX8_crowd_16 (by decide) (fun c16 => absurd c16 (by decide +kernel)) (fun _ => ?_)
    refine lv_aload_n hx hb dX8_crowd_19 rfl (lv_at hl 1 rfl) ?_
    refine lv_iload_n hx hb dX8_crowd_20 rfl (lv_at hl 0 rfl) ?_
    refine va_calli (va_runV (As := [.int 1]) (rest := []) ⟨hx, hb, hml, hown, hts⟩ (c_X8_no l dC dI H.size a0 1 (Value.int v1na0_0) a0g_1 a0g_2 a0g_3 a0g_4 a0g_5 a0g_6 a0g_7 a0g_8 a0g_9 a0g_10 a0g_12 a0g_13 (Value.int a0_14) a0g_15 a0g_16 a0g_17 a0g_18 a0g_19 a0g_20 a0g_21 a0g_22 a0g_23 a0g_24 a0g_25 a0g_26 a0g_27 a0g_28 a0g_29 a0g_30 a0g_31 a0g_32 a0g_33 a0g_34 a0g_35 a0g_36 a0g_37 a0g_38 a0g_39 v1na0_11 ) (cwV 1 hts gX8_crowd_X8_no rfl rfl rfl zd_X8_no ⟨Nat.le_of_ble_eq_true rfl, Nat.le_of_ble_eq_true rfl⟩) ⟨ax_blind (fun _ _ _ _ _ => trivial), zr_8 (zp_K hK) (zp_P1 hP) (q0 := 0) rfl, ax_pre (zp_P1 hP) (zp_K hK) (zp_D1 hD) (fun _ _ => trivial)⟩ rfl rfl hl.1 rfl (lv_room (Nat.le_of_ble_eq_true rfl)) dX8_crowd_21 ⟨Nat.le_of_ble_eq_true rfl, Nat.le_of_ble_eq_true rfl⟩) hS (fun q _ h => zp_F1 hD hS hA q h) (zp_F1 hD hS hA) (fun r21 u t H locs ht hvm hw => zx_1 (fun v21na0_11 hB hz1 hk1 hS1 => zo1 hB ht hP hD hk1 (zp_F1 hD hS hA) hS1 (fun hP hK1 hD hS => ?_)))
    have hw : r21 = (-1) := hw
    have hw := hw.symm
    subst hw
    exact W.iret (v := (-1)) hx hb hr (fun t ht hW => ⟨⟨(-1), (), rfl, rfl, v1na0_0, v21na0_11, by rw [ht]; exact hP, va_K.moved hW.alike hK, hD⟩, hS.F ht⟩) hS.2.2 dX8_crowd_24
  · obtain ⟨hw, h11_0, h11_1, h11_2, h11_3⟩ := hw
    subst hw
    have l11k2_a0_14 : (1 : Int) ≤ a0_14.toInt := h11_0
    have u11k2_a0_14 : a0_14.toInt ≤ (0 : Int) := ba0_14_u
    exact absurd (Int.le_trans l11k2_a0_14 u11k2_a0_14) (by decide)

set_option maxHeartbeats 4000000 in
set_option maxRecDepth 100000 in
theorem c0_X8_farthest (l : Launch) (dC : Nat → ClassId) (dI : Nat → Nat → Nat) (sz : Nat) (a0 : Nat) (a1 : Int32) (a0_0 : Int32) (a0g_1 a0g_2 a0g_3 a0g_4 a0g_5 a0g_6 a0g_7 a0g_8 a0g_9 a0g_10 a0g_12 a0g_13 a0g_15 a0g_16 a0g_17 a0g_18 a0g_19 a0g_20 a0g_21 a0g_22 a0g_23 a0g_24 a0g_25 a0g_26 a0g_27 a0g_28 a0g_29 a0g_30 a0g_31 a0g_32 a0g_33 a0g_34 a0g_35 a0g_36 a0g_37 a0g_38 a0g_39 : Value) (a0_11 : Int32) (a0_14 : Int32) (ba0_14_l : (0 : Int) ≤ a0_14.toInt) (ba0_14_u : a0_14.toInt ≤ (0 : Int)) : zm l yX8_farthest wsX8_farthest ({ frames := 2, cells := 0, slots := 0, locals := 45 }) [.ref a0, .int a1] dC dI sz [(a0, .inr (8, [Value.int a0_0, a0g_1, a0g_2, a0g_3, a0g_4, a0g_5, a0g_6, a0g_7, a0g_8, a0g_9, a0g_10, Value.int a0_11, a0g_12, a0g_13, Value.int a0_14, a0g_15, a0g_16, a0g_17, a0g_18, a0g_19, a0g_20, a0g_21, a0g_22, a0g_23, a0g_24, a0g_25, a0g_26, a0g_27, a0g_28, a0g_29, a0g_30, a0g_31, a0g_32, a0g_33, a0g_34, a0g_35, a0g_36, a0g_37, a0g_38, a0g_39]))] [] (fun A _ => True) (fun A => va_Qi (fun (r : Int32) (_ : Unit) => r = (-1)) (fun (_ : Unit) (t : State) => ∃ na0_0 : Int32, ∃ na0_11 : Int32, ax_B dC dI A [(a0, .inr (8, [Value.int na0_0, a0g_1, a0g_2, a0g_3, a0g_4, a0g_5, a0g_6, a0g_7, a0g_8, a0g_9, a0g_10, Value.int na0_11, a0g_12, a0g_13, Value.int a0_14, a0g_15, a0g_16, a0g_17, a0g_18, a0g_19, a0g_20, a0g_21, a0g_22, a0g_23, a0g_24, a0g_25, a0g_26, a0g_27, a0g_28, a0g_29, a0g_30, a0g_31, a0g_32, a0g_33, a0g_34, a0g_35, a0g_36, a0g_37, a0g_38, a0g_39]))] [] t) A) := by
  refine zh (cc := cX8_farthest) (maxL := 5) (ret := (some .int)) zn_RX8 rfl (Nat.le_of_ble_eq_true rfl) (fun p e s m below meth c A ls hx hb hml hr hts (hown : s.vm.findClass RX8 = some m.cls) hlocks hA hS hP hK hD hE (hl : lv_has ls 5 [(0, .ref a0), (1, .int a1)]) => ?_)
  refine ai_open (fun K hK0 => ?_)
  refine (hK0 _ _ _).mpr ?_
  refine lv_aload_n hx hb dX8_farthest_0 rfl (lv_at hl 0 rfl) ?_
  refine va_callv (va_runV (As := []) (rest := []) ⟨hx, hb, hml, hown, hts⟩ (c_X8_good l dC dI s.heap.size a0 a0_0 a0g_1 a0g_2 a0g_3 a0g_4 a0g_5 a0g_6 a0g_7 a0g_8 a0g_9 a0g_10 a0g_12 a0g_13 (Value.int a0_14) a0g_15 a0g_16 a0g_17 a0g_18 a0g_19 a0g_20 a0g_21 a0g_22 a0g_23 a0g_24 a0g_25 a0g_26 a0g_27 a0g_28 a0g_29 a0g_30 a0g_31 a0g_32 a0g_33 a0g_34 a0g_35 a0g_36 a0g_37 a0g_38 a0g_39 a0_11 ) (cwV 0 hts gX8_farthest_X8_good rfl rfl rfl zd_X8_good ⟨Nat.le_of_ble_eq_true rfl, Nat.le_of_ble_eq_true rfl⟩) ⟨ax_blind (fun _ _ _ _ _ => trivial), zr_8 (zp_K hK) (zp_P1 hP) (q0 := 0) rfl, ax_pre (zp_P1 hP) (zp_K hK) (zp_D1 hD) (fun _ _ => trivial)⟩ rfl rfl hl.1 rfl (lv_room (Nat.le_of_ble_eq_true rfl)) dX8_farthest_1 ⟨Nat.le_of_ble_eq_true rfl, Nat.le_of_ble_eq_true rfl⟩) hS (fun q _ h => zp_F1 hD hS hA q h) (zp_F1 hD hS hA) (fun u t H locs ht hvm hw => zx_2 (fun v1na0_0 v1na0_11 hB hz1 hk1 hS1 => zo1 hB ht hP hD hk1 (zp_F1 hD hS hA) hS1 (fun hP hK1 hD hS => ?_)))
  refine lv_aload_n hx hb dX8_farthest_4 rfl (lv_at hl 0 rfl) ?_
  refine lv_aload_n hx hb dX8_farthest_5 rfl (lv_at hl 0 rfl) ?_
  refine va_get (D := (dC, dI)) (ci := 8) (v := .int a0_14) (C := RX8) (T := TX8) (N := 40) hx hb hts zi_X8_farthest_8 hown hK hP 0 rfl rfl 14 (by decide) (hts (.fieldLink RX8 173 "WaxTurnsModel" "hasGallery" "Z") (zm_X8_farthest_r1 (List.mem_of_getElem? (i := 0) rfl))) (fun _ h9 => h9) rfl dX8_farthest_6 ?_
  refine lv_iconst (v := 0) hx hb dX8_farthest_9 zk_iconst_0 ?_
  refine lv_iload_n hx hb dX8_farthest_10 rfl (lv_at hl 1 rfl) ?_
  refine va_calli (va_runV (As := [.int a0_14, .int 0, .int a1]) (rest := []) ⟨hx, hb, hml, hown, hts⟩ (c_X8_aheadWhy l dC dI H.size a0 a0_14 0 a1 (Value.int v1na0_0) a0g_1 a0g_2 a0g_3 a0g_4 a0g_5 a0g_6 a0g_7 a0g_8 a0g_9 a0g_10 (Value.int v1na0_11) a0g_12 a0g_13 (Value.int a0_14) a0g_15 a0g_16 a0g_17 a0g_18 a0g_19 a0g_20 a0g_21 a0g_22 a0g_23 a0g_24 a0g_25 a0g_26 a0g_27 a0g_28 a0g_29 a0g_30 a0g_31 a0g_32 a0g_33 a0g_34 a0g_35 a0g_36 a0g_37 a0g_38 a0g_39 ba0_14_l (Int.le_trans ba0_14_u zq4) zq5 (Int.le_trans zq6 zq4)) (cwV 3 hts gX8_farthest_X8_aheadWhy rfl rfl rfl zd_X8_aheadWhy ⟨Nat.le_of_ble_eq_true rfl, Nat.le_of_ble_eq_true rfl⟩) ⟨ax_blind (fun _ _ _ _ _ => trivial), zr_8 (zp_K hK) (zp_P1 hP) (q0 := 0) rfl, ax_pre (zp_P1 hP) (zp_K hK) (zp_D1 hD) (fun _ _ => trivial)⟩ rfl rfl hl.1 rfl (lv_room (Nat.le_of_ble_eq_true rfl)) dX8_farthest_11 ⟨Nat.le_of_ble_eq_true rfl, Nat.le_of_ble_eq_true rfl⟩) hS (fun q _ h => zp_F1 hD hS hA q h) (zp_F1 hD hS hA) (fun r11 u t H locs ht hvm hw hB hz1 hk1 hS1 => zo1 hB ht hP hD hk1 (zp_F1 hD hS hA) hS1 (fun hP hK1 hD hS => ?_))
  rcases hw with hw | hw | hw
  · obtain ⟨hw, h11_0, h11_1⟩ := hw
    subst hw
    have l11k0_a0_14 : (1 : Int) ≤ a0_14.toInt := h11_0
    have u11k0_a0_14 : a0_14.toInt ≤ (0 : Int) := ba0_14_u
    exact absurd (Int.le_trans l11k0_a0_14 u11k0_a0_14) (by decide)
  · obtain ⟨hw, h11_0, h11_1⟩ := hw
    subst hw
    have l11k1_a0_14 : (0 : Int) ≤ a0_14.toInt := ba0_14_l
    have u11k1_a0_14 : a0_14.toInt ≤ (0 : Int) := ba0_14_u
    refine lv_istore_n (lv' := [(2, .int 1), (0, .ref a0), (1, .int a1)]) hx hb dX8_farthest_14 rfl hl (by decide) rfl (fun ls hl => ?_)
    refine lv_iload_n hx hb dX8_farthest_15 rfl (lv_at hl 0 rfl) ?_
    refine lv_if_eq (tgt := 25) hx hb dX8_farthest_16 (by decide) (fun c16 => absurd c16 (by decide +kernel)) (fun _ => ?_)
    refine lv_aload_n hx hb dX8_farthest_19 rfl (lv_at hl 1 rfl) ?_
    refine lv_iload_n hx hb dX8_farthest_20 rfl (lv_at hl 0 rfl) ?_
    refine va_calli (va_runV (As := [.int 1]) (rest := []) ⟨hx, hb, hml, hown, hts⟩ (c_X8_no l dC dI H.size a0 1 (Value.int v1na0_0) a0g_1 a0g_2 a0g_3 a0g_4 a0g_5 a0g_6 a0g_7 a0g_8 a0g_9 a0g_10 a0g_12 a0g_13 (Value.int a0_14) a0g_15 a0g_16 a0g_17 a0g_18 a0g_19 a0g_20 a0g_21 a0g_22 a0g_23 a0g_24 a0g_25 a0g_26 a0g_27 a0g_28 a0g_29 a0g_30 a0g_31 a0g_32 a0g_33 a0g_34 a0g_35 a0g_36 a0g_37 a0g_38 a0g_39 v1na0_11 ) (cwV 1 hts gX8_farthest_X8_no rfl rfl rfl zd_X8_no ⟨Nat.le_of_ble_eq_true rfl, Nat.le_of_ble_eq_true rfl⟩) ⟨ax_blind (fun _ _ _ _ _ => trivial), zr_8 (zp_K hK) (zp_P1 hP) (q0 := 0) rfl, ax_pre (zp_P1 hP) (zp_K hK) (zp_D1 hD) (fun _ _ => trivial)⟩ rfl rfl hl.1 rfl (lv_room (Nat.le_of_ble_eq_true rfl)) dX8_farthest_21 ⟨Nat.le_of_ble_eq_true rfl, Nat.le_of_ble_eq_true rfl⟩) hS (fun q _ h => zp_F1 hD hS hA q h) (zp_F1 hD hS hA) (fun r21 u t H locs ht hvm hw => zx_1 (fun v21na0_11 hB hz1 hk1 hS1 => zo1 hB ht hP hD hk1 (zp_F1 hD hS hA) hS1 (fun hP hK1 hD hS => ?_)))
    have hw : r21 = (-1) := hw
    have hw := hw.symm
    subst hw
    exact W.iret (v := (-1)) hx hb hr (fun t ht hW => ⟨⟨(-1), (), rfl, rfl, v1na0_0, v21na0_11, by rw [ht]; exact hP, va_K.moved hW.alike hK, hD⟩, hS.F ht⟩) hS.2.2 dX8_farthest_24
  · obtain ⟨hw, h11_0, h11_1, h11_2, h11_3⟩ := hw
    subst hw
    have l11k2_a0_14 : (1 : Int) ≤ a0_14.toInt := h11_0
    have u11k2_a0_14 : a0_14.toInt ≤ (0 : Int) := ba0_14_u
    exact absurd (Int.le_trans l11k2_a0_14 u11k2_a0_14) (by decide)

set_option maxHeartbeats 4000000 in
set_option maxRecDepth 100000 in
theorem c0_X8_nearBy (l : Launch) (dC : Nat → ClassId) (dI : Nat → Nat → Nat) (sz : Nat) (a0 : Nat) (a1 : Int32) (a2 : Int32) (a0_0 : Int32) (a0g_1 a0g_2 a0g_3 a0g_4 a0g_5 a0g_6 a0g_7 a0g_8 a0g_9 a0g_10 a0g_12 a0g_13 a0g_15 a0g_16 a0g_17 a0g_18 a0g_19 a0g_20 a0g_21 a0g_22 a0g_23 a0g_24 a0g_25 a0g_26 a0g_27 a0g_28 a0g_29 a0g_30 a0g_31 a0g_32 a0g_33 a0g_34 a0g_35 a0g_36 a0g_37 a0g_38 a0g_39 : Value) (a0_11 : Int32) (a0_14 : Int32) (ba0_14_l : (0 : Int) ≤ a0_14.toInt) (ba0_14_u : a0_14.toInt ≤ (0 : Int)) : zm l yX8_nearBy wsX8_nearBy ({ frames := 2, cells := 0, slots := 0, locals := 45 }) [.ref a0, .int a1, .int a2] dC dI sz [(a0, .inr (8, [Value.int a0_0, a0g_1, a0g_2, a0g_3, a0g_4, a0g_5, a0g_6, a0g_7, a0g_8, a0g_9, a0g_10, Value.int a0_11, a0g_12, a0g_13, Value.int a0_14, a0g_15, a0g_16, a0g_17, a0g_18, a0g_19, a0g_20, a0g_21, a0g_22, a0g_23, a0g_24, a0g_25, a0g_26, a0g_27, a0g_28, a0g_29, a0g_30, a0g_31, a0g_32, a0g_33, a0g_34, a0g_35, a0g_36, a0g_37, a0g_38, a0g_39]))] [] (fun A _ => True) (fun A => va_Qi (fun (r : Int32) (_ : Unit) => r = (-1)) (fun (_ : Unit) (t : State) => ∃ na0_0 : Int32, ∃ na0_11 : Int32, ax_B dC dI A [(a0, .inr (8, [Value.int na0_0, a0g_1, a0g_2, a0g_3, a0g_4, a0g_5, a0g_6, a0g_7, a0g_8, a0g_9, a0g_10, Value.int na0_11, a0g_12, a0g_13, Value.int a0_14, a0g_15, a0g_16, a0g_17, a0g_18, a0g_19, a0g_20, a0g_21, a0g_22, a0g_23, a0g_24, a0g_25, a0g_26, a0g_27, a0g_28, a0g_29, a0g_30, a0g_31, a0g_32, a0g_33, a0g_34, a0g_35, a0g_36, a0g_37, a0g_38, a0g_39]))] [] t) A) := by
  refine zh (cc := cX8_nearBy) (maxL := 7) (ret := (some .int)) zn_RX8 rfl (Nat.le_of_ble_eq_true rfl) (fun p e s m below meth c A ls hx hb hml hr hts (hown : s.vm.findClass RX8 = some m.cls) hlocks hA hS hP hK hD hE (hl : lv_has ls 7 [(0, .ref a0), (1, .int a1), (2, .int a2)]) => ?_)
  refine ai_open (fun K hK0 => ?_)
  refine (hK0 _ _ _).mpr ?_
  refine lv_aload_n hx hb dX8_nearBy_0 rfl (lv_at hl 0 rfl) ?_
  refine va_callv (va_runV (As := []) (rest := []) ⟨hx, hb, hml, hown, hts⟩ (c_X8_good l dC dI s.heap.size a0 a0_0 a0g_1 a0g_2 a0g_3 a0g_4 a0g_5 a0g_6 a0g_7 a0g_8 a0g_9 a0g_10 a0g_12 a0g_13 (Value.int a0_14) a0g_15 a0g_16 a0g_17 a0g_18 a0g_19 a0g_20 a0g_21 a0g_22 a0g_23 a0g_24 a0g_25 a0g_26 a0g_27 a0g_28 a0g_29 a0g_30 a0g_31 a0g_32 a0g_33 a0g_34 a0g_35 a0g_36 a0g_37 a0g_38 a0g_39 a0_11 ) (cwV 0 hts gX8_nearBy_X8_good rfl rfl rfl zd_X8_good ⟨Nat.le_of_ble_eq_true rfl, Nat.le_of_ble_eq_true rfl⟩) ⟨ax_blind (fun _ _ _ _ _ => trivial), zr_8 (zp_K hK) (zp_P1 hP) (q0 := 0) rfl, ax_pre (zp_P1 hP) (zp_K hK) (zp_D1 hD) (fun _ _ => trivial)⟩ rfl rfl hl.1 rfl (lv_room (Nat.le_of_ble_eq_true rfl)) dX8_nearBy_1 ⟨Nat.le_of_ble_eq_true rfl, Nat.le_of_ble_eq_true rfl⟩) hS (fun q _ h => zp_F1 hD hS hA q h) (zp_F1 hD hS hA) (fun u t H locs ht hvm hw => zx_2 (fun v1na0_0 v1na0_11 hB hz1 hk1 hS1 => zo1 hB ht hP hD hk1 (zp_F1 hD hS hA) hS1 (fun hP hK1 hD hS => ?_)))
  refine lv_aload_n hx hb dX8_nearBy_4 rfl (lv_at hl 0 rfl) ?_
  refine lv_aload_n hx hb dX8_nearBy_5 rfl (lv_at hl 0 rfl) ?_
  refine lv_iload_n hx hb dX8_nearBy_6 rfl (lv_at hl 1 rfl) ?_
  refine va_calli (va_runV (As := [.int a1]) (rest := [.ref a0]) ⟨hx, hb, hml, hown, hts⟩ (c0_X8_isFigure l dC dI H.size a0 a1 (Value.int v1na0_0) a0g_1 a0g_2 a0g_3 a0g_4 a0g_5 a0g_6 a0g_7 a0g_8 a0g_9 a0g_10 (Value.int v1na0_11) a0g_12 a0g_13 a0g_15 a0g_16 a0g_17 a0g_18 a0g_19 a0g_20 a0g_21 a0g_22 a0g_23 a0g_24 a0g_25 a0g_26 a0g_27 a0g_28 a0g_29 a0g_30 a0g_31 a0g_32 a0g_33 a0g_34 a0g_35 a0g_36 a0g_37 a0g_38 a0g_39 a0_14 ba0_14_l ba0_14_u) (cwV 1 hts gX8_nearBy_X8_isFigure rfl rfl rfl zd_X8_isFigure ⟨Nat.le_of_ble_eq_true rfl, Nat.le_of_ble_eq_true rfl⟩) ⟨ax_blind (fun _ _ _ _ _ => trivial), zr_8 (zp_K hK) (zp_P1 hP) (q0 := 0) rfl, ax_pre (zp_P1 hP) (zp_K hK) (zp_D1 hD) (fun _ _ => trivial)⟩ rfl rfl hl.1 rfl (lv_room (Nat.le_of_ble_eq_true rfl)) dX8_nearBy_7 ⟨Nat.le_of_ble_eq_true rfl, Nat.le_of_ble_eq_true rfl⟩) hS (fun q _ h => zp_F1 hD hS hA q h) (zp_F1 hD hS hA) (fun r7 u t H locs ht hvm hw hB hz1 hk1 hS1 => zo1 hB ht hP hD hk1 (zp_F1 hD hS hA) hS1 (fun hP hK1 hD hS => ?_))
  have hw : r7 = 0 := hw
  have hw := hw.symm
  subst hw
  refine lv_iconst (v := 0) hx hb dX8_nearBy_10 zk_iconst_0 ?_
  refine lv_iload_n hx hb dX8_nearBy_11 rfl (lv_at hl 2 rfl) ?_
  refine va_calli (va_runV (As := [.int 0, .int 0, .int a2]) (rest := []) ⟨hx, hb, hml, hown, hts⟩ (c_X8_aheadWhy l dC dI H.size a0 0 0 a2 (Value.int v1na0_0) a0g_1 a0g_2 a0g_3 a0g_4 a0g_5 a0g_6 a0g_7 a0g_8 a0g_9 a0g_10 (Value.int v1na0_11) a0g_12 a0g_13 (Value.int a0_14) a0g_15 a0g_16 a0g_17 a0g_18 a0g_19 a0g_20 a0g_21 a0g_22 a0g_23 a0g_24 a0g_25 a0g_26 a0g_27 a0g_28 a0g_29 a0g_30 a0g_31 a0g_32 a0g_33 a0g_34 a0g_35 a0g_36 a0g_37 a0g_38 a0g_39 zq5 (Int.le_trans zq6 zq4) zq5 (Int.le_trans zq6 zq4)) (cwV 3 hts gX8_nearBy_X8_aheadWhy rfl rfl rfl zd_X8_aheadWhy ⟨Nat.le_of_ble_eq_true rfl, Nat.le_of_ble_eq_true rfl⟩) ⟨ax_blind (fun _ _ _ _ _ => trivial), zr_8 (zp_K hK) (zp_P1 hP) (q0 := 0) rfl, ax_pre (zp_P1 hP) (zp_K hK) (zp_D1 hD) (fun _ _ => trivial)⟩ rfl rfl hl.1 rfl (lv_room (Nat.le_of_ble_eq_true rfl)) dX8_nearBy_12 ⟨Nat.le_of_ble_eq_true rfl, Nat.le_of_ble_eq_true rfl⟩) hS (fun q _ h => zp_F1 hD hS hA q h) (zp_F1 hD hS hA) (fun r12 u t H locs ht hvm hw hB hz1 hk1 hS1 => zo1 hB ht hP hD hk1 (zp_F1 hD hS hA) hS1 (fun hP hK1 hD hS => ?_))
  rcases hw with hw | hw | hw
  · obtain ⟨hw, h12_0, h12_1⟩ := hw
    subst hw
    exact absurd h12_0 (by decide)
  · obtain ⟨hw, h12_0, h12_1⟩ := hw
    subst hw
    refine lv_istore_n (lv' := [(3, .int 1), (0, .ref a0), (1, .int a1), (2, .int a2)]) hx hb dX8_nearBy_15 rfl hl (by decide) rfl (fun ls hl => ?_)
    refine lv_iload_n hx hb dX8_nearBy_16 rfl (lv_at hl 0 rfl) ?_
    refine lv_if_eq (tgt := 26) hx hb dX8_nearBy_17 (by decide) (fun c17 => absurd c17 (by decide +kernel)) (fun _ => ?_)
    refine lv_aload_n hx hb dX8_nearBy_20 rfl (lv_at hl 1 rfl) ?_
    refine lv_iload_n hx hb dX8_nearBy_21 rfl (lv_at hl 0 rfl) ?_
    refine va_calli (va_runV (As := [.int 1]) (rest := []) ⟨hx, hb, hml, hown, hts⟩ (c_X8_no l dC dI H.size a0 1 (Value.int v1na0_0) a0g_1 a0g_2 a0g_3 a0g_4 a0g_5 a0g_6 a0g_7 a0g_8 a0g_9 a0g_10 a0g_12 a0g_13 (Value.int a0_14) a0g_15 a0g_16 a0g_17 a0g_18 a0g_19 a0g_20 a0g_21 a0g_22 a0g_23 a0g_24 a0g_25 a0g_26 a0g_27 a0g_28 a0g_29 a0g_30 a0g_31 a0g_32 a0g_33 a0g_34 a0g_35 a0g_36 a0g_37 a0g_38 a0g_39 v1na0_11 ) (cwV 1 hts gX8_nearBy_X8_no rfl rfl rfl zd_X8_no ⟨Nat.le_of_ble_eq_true rfl, Nat.le_of_ble_eq_true rfl⟩) ⟨ax_blind (fun _ _ _ _ _ => trivial), zr_8 (zp_K hK) (zp_P1 hP) (q0 := 0) rfl, ax_pre (zp_P1 hP) (zp_K hK) (zp_D1 hD) (fun _ _ => trivial)⟩ rfl rfl hl.1 rfl (lv_room (Nat.le_of_ble_eq_true rfl)) dX8_nearBy_22 ⟨Nat.le_of_ble_eq_true rfl, Nat.le_of_ble_eq_true rfl⟩) hS (fun q _ h => zp_F1 hD hS hA q h) (zp_F1 hD hS hA) (fun r22 u t H locs ht hvm hw => zx_1 (fun v22na0_11 hB hz1 hk1 hS1 => zo1 hB ht hP hD hk1 (zp_F1 hD hS hA) hS1 (fun hP hK1 hD hS => ?_)))
    have hw : r22 = (-1) := hw
    have hw := hw.symm
    subst hw
    exact W.iret (v := (-1)) hx hb hr (fun t ht hW => ⟨⟨(-1), (), rfl, rfl, v1na0_0, v22na0_11, by rw [ht]; exact hP, va_K.moved hW.alike hK, hD⟩, hS.F ht⟩) hS.2.2 dX8_nearBy_25
  · obtain ⟨hw, h12_0, h12_1, h12_2, h12_3⟩ := hw
    subst hw
    exact absurd h12_0 (by decide)
end P280_02_safe
section P280_03_safe
set_option maxHeartbeats 4000000 in
set_option maxRecDepth 100000 in
theorem c0_X8_spoken (l : Launch) (dC : Nat → ClassId) (dI : Nat → Nat → Nat) (sz : Nat) (a0 : Nat) (a1 : Int32) (a2 : Int32) (a0_0 : Int32) (a0g_1 a0g_2 a0g_3 a0g_4 a0g_5 a0g_6 a0g_7 a0g_8 a0g_9 a0g_10 a0g_12 a0g_13 a0g_15 a0g_16 a0g_17 a0g_18 a0g_19 a0g_20 a0g_21 a0g_22 a0g_23 a0g_24 a0g_25 a0g_26 a0g_27 a0g_28 a0g_29 a0g_30 a0g_31 a0g_32 a0g_33 a0g_34 a0g_35 a0g_36 a0g_37 a0g_38 a0g_39 : Value) (a0_11 : Int32) (a0_14 : Int32) (ba0_14_l : (0 : Int) ≤ a0_14.toInt) (ba0_14_u : a0_14.toInt ≤ (0 : Int)) : zm l yX8_spoken wsX8_spoken ({ frames := 2, cells := 0, slots := 0, locals := 45 }) [.ref a0, .int a1, .int a2] dC dI sz [(a0, .inr (8, [Value.int a0_0, a0g_1, a0g_2, a0g_3, a0g_4, a0g_5, a0g_6, a0g_7, a0g_8, a0g_9, a0g_10, Value.int a0_11, a0g_12, a0g_13, Value.int a0_14, a0g_15, a0g_16, a0g_17, a0g_18, a0g_19, a0g_20, a0g_21, a0g_22, a0g_23, a0g_24, a0g_25, a0g_26, a0g_27, a0g_28, a0g_29, a0g_30, a0g_31, a0g_32, a0g_33, a0g_34, a0g_35, a0g_36, a0g_37, a0g_38, a0g_39]))] [] (fun A _ => True) (fun A => va_Qi (fun (r : Int32) (_ : Unit) => r = (-1)) (fun (_ : Unit) (t : State) => ∃ na0_0 : Int32, ∃ na0_11 : Int32, ax_B dC dI A [(a0, .inr (8, [Value.int na0_0, a0g_1, a0g_2, a0g_3, a0g_4, a0g_5, a0g_6, a0g_7, a0g_8, a0g_9, a0g_10, Value.int na0_11, a0g_12, a0g_13, Value.int a0_14, a0g_15, a0g_16, a0g_17, a0g_18, a0g_19, a0g_20, a0g_21, a0g_22, a0g_23, a0g_24, a0g_25, a0g_26, a0g_27, a0g_28, a0g_29, a0g_30, a0g_31, a0g_32, a0g_33, a0g_34, a0g_35, a0g_36, a0g_37, a0g_38, a0g_39]))] [] t) A) := by
  refine zh (cc := cX8_spoken) (maxL := 6) (ret := (some .int)) zn_RX8 rfl (Nat.le_of_ble_eq_true rfl) (fun p e s m below meth c A ls hx hb hml hr hts (hown : s.vm.findClass RX8 = some m.cls) hlocks hA hS hP hK hD hE (hl : lv_has ls 6 [(0, .ref a0), (1, .int a1), (2, .int a2)]) => ?_)
  refine ai_open (fun K hK0 => ?_)
  refine (hK0 _ _ _).mpr ?_
  refine lv_aload_n hx hb dX8_spoken_0 rfl (lv_at hl 0 rfl) ?_
  refine va_callv (va_runV (As := []) (rest := []) ⟨hx, hb, hml, hown, hts⟩ (c_X8_good l dC dI s.heap.size a0 a0_0 a0g_1 a0g_2 a0g_3 a0g_4 a0g_5 a0g_6 a0g_7 a0g_8 a0g_9 a0g_10 a0g_12 a0g_13 (Value.int a0_14) a0g_15 a0g_16 a0g_17 a0g_18 a0g_19 a0g_20 a0g_21 a0g_22 a0g_23 a0g_24 a0g_25 a0g_26 a0g_27 a0g_28 a0g_29 a0g_30 a0g_31 a0g_32 a0g_33 a0g_34 a0g_35 a0g_36 a0g_37 a0g_38 a0g_39 a0_11 ) (cwV 0 hts gX8_spoken_X8_good rfl rfl rfl zd_X8_good ⟨Nat.le_of_ble_eq_true rfl, Nat.le_of_ble_eq_true rfl⟩) ⟨ax_blind (fun _ _ _ _ _ => trivial), zr_8 (zp_K hK) (zp_P1 hP) (q0 := 0) rfl, ax_pre (zp_P1 hP) (zp_K hK) (zp_D1 hD) (fun _ _ => trivial)⟩ rfl rfl hl.1 rfl (lv_room (Nat.le_of_ble_eq_true rfl)) dX8_spoken_1 ⟨Nat.le_of_ble_eq_true rfl, Nat.le_of_ble_eq_true rfl⟩) hS (fun q _ h => zp_F1 hD hS hA q h) (zp_F1 hD hS hA) (fun u t H locs ht hvm hw => zx_2 (fun v1na0_0 v1na0_11 hB hz1 hk1 hS1 => zo1 hB ht hP hD hk1 (zp_F1 hD hS hA) hS1 (fun hP hK1 hD hS => ?_)))
  refine lv_aload_n hx hb dX8_spoken_4 rfl (lv_at hl 0 rfl) ?_
  refine lv_aload_n hx hb dX8_spoken_5 rfl (lv_at hl 0 rfl) ?_
  refine lv_iload_n hx hb dX8_spoken_6 rfl (lv_at hl 1 rfl) ?_
  refine va_calli (va_runV (As := [.int a1]) (rest := [.ref a0]) ⟨hx, hb, hml, hown, hts⟩ (c0_X8_isFigure l dC dI H.size a0 a1 (Value.int v1na0_0) a0g_1 a0g_2 a0g_3 a0g_4 a0g_5 a0g_6 a0g_7 a0g_8 a0g_9 a0g_10 (Value.int v1na0_11) a0g_12 a0g_13 a0g_15 a0g_16 a0g_17 a0g_18 a0g_19 a0g_20 a0g_21 a0g_22 a0g_23 a0g_24 a0g_25 a0g_26 a0g_27 a0g_28 a0g_29 a0g_30 a0g_31 a0g_32 a0g_33 a0g_34 a0g_35 a0g_36 a0g_37 a0g_38 a0g_39 a0_14 ba0_14_l ba0_14_u) (cwV 1 hts gX8_spoken_X8_isFigure rfl rfl rfl zd_X8_isFigure ⟨Nat.le_of_ble_eq_true rfl, Nat.le_of_ble_eq_true rfl⟩) ⟨ax_blind (fun _ _ _ _ _ => trivial), zr_8 (zp_K hK) (zp_P1 hP) (q0 := 0) rfl, ax_pre (zp_P1 hP) (zp_K hK) (zp_D1 hD) (fun _ _ => trivial)⟩ rfl rfl hl.1 rfl (lv_room (Nat.le_of_ble_eq_true rfl)) dX8_spoken_7 ⟨Nat.le_of_ble_eq_true rfl, Nat.le_of_ble_eq_true rfl⟩) hS (fun q _ h => zp_F1 hD hS hA q h) (zp_F1 hD hS hA) (fun r7 u t H locs ht hvm hw hB hz1 hk1 hS1 => zo1 hB ht hP hD hk1 (zp_F1 hD hS hA) hS1 (fun hP hK1 hD hS => ?_))
  have hw : r7 = 0 := hw
  have hw := hw.symm
  subst hw
  refine lv_iconst (v := 0) hx hb dX8_spoken_10 zk_iconst_0 ?_
  refine lv_iload_n hx hb dX8_spoken_11 rfl (lv_at hl 2 rfl) ?_
  refine va_calli (va_runV (As := [.int 0, .int 0, .int a2]) (rest := []) ⟨hx, hb, hml, hown, hts⟩ (c_X8_aheadWhy l dC dI H.size a0 0 0 a2 (Value.int v1na0_0) a0g_1 a0g_2 a0g_3 a0g_4 a0g_5 a0g_6 a0g_7 a0g_8 a0g_9 a0g_10 (Value.int v1na0_11) a0g_12 a0g_13 (Value.int a0_14) a0g_15 a0g_16 a0g_17 a0g_18 a0g_19 a0g_20 a0g_21 a0g_22 a0g_23 a0g_24 a0g_25 a0g_26 a0g_27 a0g_28 a0g_29 a0g_30 a0g_31 a0g_32 a0g_33 a0g_34 a0g_35 a0g_36 a0g_37 a0g_38 a0g_39 zq5 (Int.le_trans zq6 zq4) zq5 (Int.le_trans zq6 zq4)) (cwV 3 hts gX8_spoken_X8_aheadWhy rfl rfl rfl zd_X8_aheadWhy ⟨Nat.le_of_ble_eq_true rfl, Nat.le_of_ble_eq_true rfl⟩) ⟨ax_blind (fun _ _ _ _ _ => trivial), zr_8 (zp_K hK) (zp_P1 hP) (q0 := 0) rfl, ax_pre (zp_P1 hP) (zp_K hK) (zp_D1 hD) (fun _ _ => trivial)⟩ rfl rfl hl.1 rfl (lv_room (Nat.le_of_ble_eq_true rfl)) dX8_spoken_12 ⟨Nat.le_of_ble_eq_true rfl, Nat.le_of_ble_eq_true rfl⟩) hS (fun q _ h => zp_F1 hD hS hA q h) (zp_F1 hD hS hA) (fun r12 u t H locs ht hvm hw hB hz1 hk1 hS1 => zo1 hB ht hP hD hk1 (zp_F1 hD hS hA) hS1 (fun hP hK1 hD hS => ?_))
  rcases hw with hw | hw | hw
  · obtain ⟨hw, h12_0, h12_1⟩ := hw
    subst hw
    exact absurd h12_0 (by decide)
  · obtain ⟨hw, h12_0, h12_1⟩ := hw
    subst hw
    refine lv_istore_n (lv' := [(3, .int 1), (0, .ref a0), (1, .int a1), (2, .int a2)]) hx hb dX8_spoken_15 rfl hl (by decide) rfl (fun ls hl => ?_)
    refine lv_iload_n hx hb dX8_spoken_16 rfl (lv_at hl 0 rfl) ?_
    refine lv_if_eq (tgt := 26) hx hb dX8_spoken_17 (by decide) (fun c17 => absurd c17 (by decide +kernel)) (fun _ => ?_)
    refine lv_aload_n hx hb dX8_spoken_20 rfl (lv_at hl 1 rfl) ?_
    refine lv_iload_n hx hb dX8_spoken_21 rfl (lv_at hl 0 rfl) ?_
    refine va_calli (va_runV (As := [.int 1]) (rest := []) ⟨hx, hb, hml, hown, hts⟩ (c_X8_no l dC dI H.size a0 1 (Value.int v1na0_0) a0g_1 a0g_2 a0g_3 a0g_4 a0g_5 a0g_6 a0g_7 a0g_8 a0g_9 a0g_10 a0g_12 a0g_13 (Value.int a0_14) a0g_15 a0g_16 a0g_17 a0g_18 a0g_19 a0g_20 a0g_21 a0g_22 a0g_23 a0g_24 a0g_25 a0g_26 a0g_27 a0g_28 a0g_29 a0g_30 a0g_31 a0g_32 a0g_33 a0g_34 a0g_35 a0g_36 a0g_37 a0g_38 a0g_39 v1na0_11 ) (cwV 1 hts gX8_spoken_X8_no rfl rfl rfl zd_X8_no ⟨Nat.le_of_ble_eq_true rfl, Nat.le_of_ble_eq_true rfl⟩) ⟨ax_blind (fun _ _ _ _ _ => trivial), zr_8 (zp_K hK) (zp_P1 hP) (q0 := 0) rfl, ax_pre (zp_P1 hP) (zp_K hK) (zp_D1 hD) (fun _ _ => trivial)⟩ rfl rfl hl.1 rfl (lv_room (Nat.le_of_ble_eq_true rfl)) dX8_spoken_22 ⟨Nat.le_of_ble_eq_true rfl, Nat.le_of_ble_eq_true rfl⟩) hS (fun q _ h => zp_F1 hD hS hA q h) (zp_F1 hD hS hA) (fun r22 u t H locs ht hvm hw => zx_1 (fun v22na0_11 hB hz1 hk1 hS1 => zo1 hB ht hP hD hk1 (zp_F1 hD hS hA) hS1 (fun hP hK1 hD hS => ?_)))
    have hw : r22 = (-1) := hw
    have hw := hw.symm
    subst hw
    exact W.iret (v := (-1)) hx hb hr (fun t ht hW => ⟨⟨(-1), (), rfl, rfl, v1na0_0, v22na0_11, by rw [ht]; exact hP, va_K.moved hW.alike hK, hD⟩, hS.F ht⟩) hS.2.2 dX8_spoken_25
  · obtain ⟨hw, h12_0, h12_1, h12_2, h12_3⟩ := hw
    subst hw
    exact absurd h12_0 (by decide)

set_option maxHeartbeats 4000000 in
set_option maxRecDepth 100000 in
theorem c0_X8_route (l : Launch) (dC : Nat → ClassId) (dI : Nat → Nat → Nat) (sz : Nat) (a0 : Nat) (a1 : Int32) (a2 : Int32) (a0_0 : Int32) (a0g_1 a0g_2 a0g_3 a0g_4 a0g_5 a0g_6 a0g_7 a0g_8 a0g_9 a0g_10 a0g_12 a0g_13 a0g_15 a0g_16 a0g_17 a0g_18 a0g_19 a0g_20 a0g_21 a0g_22 a0g_23 a0g_24 a0g_25 a0g_26 a0g_27 a0g_28 a0g_29 a0g_30 a0g_31 a0g_32 a0g_33 a0g_34 a0g_35 a0g_36 a0g_37 a0g_38 a0g_39 : Value) (a0_11 : Int32) (a0_14 : Int32) (ba0_14_l : (0 : Int) ≤ a0_14.toInt) (ba0_14_u : a0_14.toInt ≤ (0 : Int)) : zm l yX8_route wsX8_route ({ frames := 2, cells := 0, slots := 0, locals := 44 }) [.ref a0, .int a1, .int a2] dC dI sz [(a0, .inr (8, [Value.int a0_0, a0g_1, a0g_2, a0g_3, a0g_4, a0g_5, a0g_6, a0g_7, a0g_8, a0g_9, a0g_10, Value.int a0_11, a0g_12, a0g_13, Value.int a0_14, a0g_15, a0g_16, a0g_17, a0g_18, a0g_19, a0g_20, a0g_21, a0g_22, a0g_23, a0g_24, a0g_25, a0g_26, a0g_27, a0g_28, a0g_29, a0g_30, a0g_31, a0g_32, a0g_33, a0g_34, a0g_35, a0g_36, a0g_37, a0g_38, a0g_39]))] [] (fun A _ => True) (fun A => va_Qi (fun (r : Int32) (_ : Unit) => r = (-1)) (fun (_ : Unit) (t : State) => ∃ na0_0 : Int32, ∃ na0_11 : Int32, ax_B dC dI A [(a0, .inr (8, [Value.int na0_0, a0g_1, a0g_2, a0g_3, a0g_4, a0g_5, a0g_6, a0g_7, a0g_8, a0g_9, a0g_10, Value.int na0_11, a0g_12, a0g_13, Value.int a0_14, a0g_15, a0g_16, a0g_17, a0g_18, a0g_19, a0g_20, a0g_21, a0g_22, a0g_23, a0g_24, a0g_25, a0g_26, a0g_27, a0g_28, a0g_29, a0g_30, a0g_31, a0g_32, a0g_33, a0g_34, a0g_35, a0g_36, a0g_37, a0g_38, a0g_39]))] [] t) A) := by
  refine zh (cc := cX8_route) (maxL := 4) (ret := (some .int)) zn_RX8 rfl (Nat.le_of_ble_eq_true rfl) (fun p e s m below meth c A ls hx hb hml hr hts (hown : s.vm.findClass RX8 = some m.cls) hlocks hA hS hP hK hD hE (hl : lv_has ls 4 [(0, .ref a0), (1, .int a1), (2, .int a2)]) => ?_)
  refine lv_aload_n hx hb dX8_route_0 rfl (lv_at hl 0 rfl) ?_
  refine va_callv (va_runV (As := []) (rest := []) ⟨hx, hb, hml, hown, hts⟩ (c_X8_good l dC dI s.heap.size a0 a0_0 a0g_1 a0g_2 a0g_3 a0g_4 a0g_5 a0g_6 a0g_7 a0g_8 a0g_9 a0g_10 a0g_12 a0g_13 (Value.int a0_14) a0g_15 a0g_16 a0g_17 a0g_18 a0g_19 a0g_20 a0g_21 a0g_22 a0g_23 a0g_24 a0g_25 a0g_26 a0g_27 a0g_28 a0g_29 a0g_30 a0g_31 a0g_32 a0g_33 a0g_34 a0g_35 a0g_36 a0g_37 a0g_38 a0g_39 a0_11 ) (cwV 0 hts gX8_route_X8_good rfl rfl rfl zd_X8_good ⟨Nat.le_of_ble_eq_true rfl, Nat.le_of_ble_eq_true rfl⟩) ⟨ax_blind (fun _ _ _ _ _ => trivial), zr_8 (zp_K hK) (zp_P1 hP) (q0 := 0) rfl, ax_pre (zp_P1 hP) (zp_K hK) (zp_D1 hD) (fun _ _ => trivial)⟩ rfl rfl hl.1 rfl (lv_room (Nat.le_of_ble_eq_true rfl)) dX8_route_1 ⟨Nat.le_of_ble_eq_true rfl, Nat.le_of_ble_eq_true rfl⟩) hS (fun q _ h => zp_F1 hD hS hA q h) (zp_F1 hD hS hA) (fun u t H locs ht hvm hw => zx_2 (fun v1na0_0 v1na0_11 hB hz1 hk1 hS1 => zo1 hB ht hP hD hk1 (zp_F1 hD hS hA) hS1 (fun hP hK1 hD hS => ?_)))
  refine lv_aload_n hx hb dX8_route_4 rfl (lv_at hl 0 rfl) ?_
  refine lv_iload_n hx hb dX8_route_5 rfl (lv_at hl 1 rfl) ?_
  refine lv_iload_n hx hb dX8_route_6 rfl (lv_at hl 2 rfl) ?_
  refine va_calli (va_runV (As := [.int a1, .int a2]) (rest := []) ⟨hx, hb, hml, hown, hts⟩ (c0_X8_routeWhy l dC dI H.size a0 a1 a2 (Value.int v1na0_0) a0g_1 a0g_2 a0g_3 a0g_4 a0g_5 a0g_6 a0g_7 a0g_8 a0g_9 a0g_10 (Value.int v1na0_11) a0g_12 a0g_13 a0g_15 a0g_16 a0g_17 a0g_18 a0g_19 a0g_20 a0g_21 a0g_22 a0g_23 a0g_24 a0g_25 a0g_26 a0g_27 a0g_28 a0g_29 a0g_30 a0g_31 a0g_32 a0g_33 a0g_34 a0g_35 a0g_36 a0g_37 a0g_38 a0g_39 a0_14 ba0_14_l ba0_14_u) (cwV 2 hts gX8_route_X8_routeWhy rfl rfl rfl zd_X8_routeWhy ⟨Nat.le_of_ble_eq_true rfl, Nat.le_of_ble_eq_true rfl⟩) ⟨ax_blind (fun _ _ _ _ _ => trivial), zr_8 (zp_K hK) (zp_P1 hP) (q0 := 0) rfl, ax_pre (zp_P1 hP) (zp_K hK) (zp_D1 hD) (fun _ _ => trivial)⟩ rfl rfl hl.1 rfl (lv_room (Nat.le_of_ble_eq_true rfl)) dX8_route_7 ⟨Nat.le_of_ble_eq_true rfl, Nat.le_of_ble_eq_true rfl⟩) hS (fun q _ h => zp_F1 hD hS hA q h) (zp_F1 hD hS hA) (fun r7 u t H locs ht hvm hw hB hz1 hk1 hS1 => zo1 hB ht hP hD hk1 (zp_F1 hD hS hA) hS1 (fun hP hK1 hD hS => ?_))
  have hw : r7 = 1 := hw
  have hw := hw.symm
  subst hw
  refine lv_istore_n (lv' := [(3, .int 1), (0, .ref a0), (1, .int a1), (2, .int a2)]) hx hb dX8_route_10 rfl hl (by decide) rfl (fun ls hl => ?_)
  refine lv_iload_n hx hb dX8_route_11 rfl (lv_at hl 0 rfl) ?_
  refine lv_if_eq (tgt := 21) hx hb dX8_route_12 (by decide) (fun c12 => absurd c12 (by decide +kernel)) (fun _ => ?_)
  refine lv_aload_n hx hb dX8_route_15 rfl (lv_at hl 1 rfl) ?_
  refine lv_iload_n hx hb dX8_route_16 rfl (lv_at hl 0 rfl) ?_
  refine va_calli (va_runV (As := [.int 1]) (rest := []) ⟨hx, hb, hml, hown, hts⟩ (c_X8_no l dC dI H.size a0 1 (Value.int v1na0_0) a0g_1 a0g_2 a0g_3 a0g_4 a0g_5 a0g_6 a0g_7 a0g_8 a0g_9 a0g_10 a0g_12 a0g_13 (Value.int a0_14) a0g_15 a0g_16 a0g_17 a0g_18 a0g_19 a0g_20 a0g_21 a0g_22 a0g_23 a0g_24 a0g_25 a0g_26 a0g_27 a0g_28 a0g_29 a0g_30 a0g_31 a0g_32 a0g_33 a0g_34 a0g_35 a0g_36 a0g_37 a0g_38 a0g_39 v1na0_11 ) (cwV 1 hts gX8_route_X8_no rfl rfl rfl zd_X8_no ⟨Nat.le_of_ble_eq_true rfl, Nat.le_of_ble_eq_true rfl⟩) ⟨ax_blind (fun _ _ _ _ _ => trivial), zr_8 (zp_K hK) (zp_P1 hP) (q0 := 0) rfl, ax_pre (zp_P1 hP) (zp_K hK) (zp_D1 hD) (fun _ _ => trivial)⟩ rfl rfl hl.1 rfl (lv_room (Nat.le_of_ble_eq_true rfl)) dX8_route_17 ⟨Nat.le_of_ble_eq_true rfl, Nat.le_of_ble_eq_true rfl⟩) hS (fun q _ h => zp_F1 hD hS hA q h) (zp_F1 hD hS hA) (fun r17 u t H locs ht hvm hw => zx_1 (fun v17na0_11 hB hz1 hk1 hS1 => zo1 hB ht hP hD hk1 (zp_F1 hD hS hA) hS1 (fun hP hK1 hD hS => ?_)))
  have hw : r17 = (-1) := hw
  have hw := hw.symm
  subst hw
  exact W.iret (v := (-1)) hx hb hr (fun t ht hW => ⟨⟨(-1), (), rfl, rfl, v1na0_0, v17na0_11, by rw [ht]; exact hP, va_K.moved hW.alike hK, hD⟩, hS.F ht⟩) hS.2.2 dX8_route_20

set_option maxHeartbeats 4000000 in
set_option maxRecDepth 100000 in
theorem c0_X8_stand (l : Launch) (dC : Nat → ClassId) (dI : Nat → Nat → Nat) (sz : Nat) (a0 : Nat) (a1 : Int32) (a0_0 : Int32) (a0g_1 a0g_2 a0g_3 a0g_4 a0g_5 a0g_6 a0g_7 a0g_8 a0g_9 a0g_10 a0g_12 a0g_13 a0g_15 a0g_16 a0g_17 a0g_18 a0g_19 a0g_20 a0g_21 a0g_22 a0g_23 a0g_24 a0g_25 a0g_26 a0g_27 a0g_28 a0g_29 a0g_30 a0g_31 a0g_32 a0g_33 a0g_34 a0g_35 a0g_36 a0g_37 a0g_38 a0g_39 : Value) (a0_11 : Int32) (a0_14 : Int32) (ba0_14_l : (0 : Int) ≤ a0_14.toInt) (ba0_14_u : a0_14.toInt ≤ (0 : Int)) : zm l yX8_stand wsX8_stand ({ frames := 1, cells := 0, slots := 0, locals := 22 }) [.ref a0, .int a1] dC dI sz [(a0, .inr (8, [Value.int a0_0, a0g_1, a0g_2, a0g_3, a0g_4, a0g_5, a0g_6, a0g_7, a0g_8, a0g_9, a0g_10, Value.int a0_11, a0g_12, a0g_13, Value.int a0_14, a0g_15, a0g_16, a0g_17, a0g_18, a0g_19, a0g_20, a0g_21, a0g_22, a0g_23, a0g_24, a0g_25, a0g_26, a0g_27, a0g_28, a0g_29, a0g_30, a0g_31, a0g_32, a0g_33, a0g_34, a0g_35, a0g_36, a0g_37, a0g_38, a0g_39]))] [] (fun A _ => True) (fun A => va_Qi (fun (r : Int32) (_ : Unit) => r = (-1)) (fun (_ : Unit) (t : State) => ∃ na0_0 : Int32, ∃ na0_11 : Int32, ax_B dC dI A [(a0, .inr (8, [Value.int na0_0, a0g_1, a0g_2, a0g_3, a0g_4, a0g_5, a0g_6, a0g_7, a0g_8, a0g_9, a0g_10, Value.int na0_11, a0g_12, a0g_13, Value.int a0_14, a0g_15, a0g_16, a0g_17, a0g_18, a0g_19, a0g_20, a0g_21, a0g_22, a0g_23, a0g_24, a0g_25, a0g_26, a0g_27, a0g_28, a0g_29, a0g_30, a0g_31, a0g_32, a0g_33, a0g_34, a0g_35, a0g_36, a0g_37, a0g_38, a0g_39]))] [] t) A) := by
  refine zh (cc := cX8_stand) (maxL := 5) (ret := (some .int)) zn_RX8 rfl (Nat.le_of_ble_eq_true rfl) (fun p e s m below meth c A ls hx hb hml hr hts (hown : s.vm.findClass RX8 = some m.cls) hlocks hA hS hP hK hD hE (hl : lv_has ls 5 [(0, .ref a0), (1, .int a1)]) => ?_)
  refine ai_open (fun K hK0 => ?_)
  refine (hK0 _ _ _).mpr ?_
  refine lv_aload_n hx hb dX8_stand_0 rfl (lv_at hl 0 rfl) ?_
  refine va_callv (va_runV (As := []) (rest := []) ⟨hx, hb, hml, hown, hts⟩ (c_X8_good l dC dI s.heap.size a0 a0_0 a0g_1 a0g_2 a0g_3 a0g_4 a0g_5 a0g_6 a0g_7 a0g_8 a0g_9 a0g_10 a0g_12 a0g_13 (Value.int a0_14) a0g_15 a0g_16 a0g_17 a0g_18 a0g_19 a0g_20 a0g_21 a0g_22 a0g_23 a0g_24 a0g_25 a0g_26 a0g_27 a0g_28 a0g_29 a0g_30 a0g_31 a0g_32 a0g_33 a0g_34 a0g_35 a0g_36 a0g_37 a0g_38 a0g_39 a0_11 ) (cwV 0 hts gX8_stand_X8_good rfl rfl rfl zd_X8_good ⟨Nat.le_of_ble_eq_true rfl, Nat.le_of_ble_eq_true rfl⟩) ⟨ax_blind (fun _ _ _ _ _ => trivial), zr_8 (zp_K hK) (zp_P1 hP) (q0 := 0) rfl, ax_pre (zp_P1 hP) (zp_K hK) (zp_D1 hD) (fun _ _ => trivial)⟩ rfl rfl hl.1 rfl (lv_room (Nat.le_of_ble_eq_true rfl)) dX8_stand_1 ⟨Nat.le_of_ble_eq_true rfl, Nat.le_of_ble_eq_true rfl⟩) hS (fun q _ h => zp_F1 hD hS hA q h) (zp_F1 hD hS hA) (fun u t H locs ht hvm hw => zx_2 (fun v1na0_0 v1na0_11 hB hz1 hk1 hS1 => zo1 hB ht hP hD hk1 (zp_F1 hD hS hA) hS1 (fun hP hK1 hD hS => ?_)))
  refine lv_aload_n hx hb dX8_stand_4 rfl (lv_at hl 0 rfl) ?_
  refine lv_aload_n hx hb dX8_stand_5 rfl (lv_at hl 0 rfl) ?_
  refine va_get (D := (dC, dI)) (ci := 8) (v := .int a0_14) (C := RX8) (T := TX8) (N := 40) hx hb hts zi_X8_stand_8 hown hK hP 0 rfl rfl 14 (by decide) (hts (.fieldLink RX8 173 "WaxTurnsModel" "hasGallery" "Z") (zm_X8_stand_r1 (List.mem_of_getElem? (i := 0) rfl))) (fun _ h9 => h9) rfl dX8_stand_6 ?_
  refine lv_iload_n hx hb dX8_stand_9 rfl (lv_at hl 1 rfl) ?_
  refine lv_iconst (v := 1) hx hb dX8_stand_10 zk_iconst_1 ?_
  refine lv_bipush (v := 60) hx hb dX8_stand_11 zk_bipush_60 ?_
  refine va_calli (va_runS (As := [.int a1, .int 1, .int 60]) (rest := [.int a0_14, .ref a0]) ⟨hx, hb, hml, hown, hts⟩ (c_X8_in l dC dI H.size a1 1 60 ) (va_cwS 3 hts gX8_stand_X8_in rfl rfl rfl zd_X8_in.2 ⟨Nat.le_of_ble_eq_true rfl, Nat.le_of_ble_eq_true rfl⟩) ⟨ax_blind (fun _ _ _ _ _ => trivial), ax_pre (zp_P0 hP) (zp_K hK) (zp_D0 hD) (fun _ _ => trivial)⟩ rfl rfl hl.1 rfl (lv_room (Nat.le_of_ble_eq_true rfl)) dX8_stand_13 ⟨Nat.le_of_ble_eq_true rfl, Nat.le_of_ble_eq_true rfl⟩) hS (fun q _ h => zp_F0 hD hS hA q h) (zp_F0 hD hS hA) (fun r13 u t H locs ht hvm hw hB hz1 hk1 hS1 => zo0 hB ht hP hD hk1 (zp_F0 hD hS hA) hS1 (fun hP hK1 hD hS => ?_))
  rcases hw with hw | hw
  · obtain ⟨hw, h13⟩ := hw
    subst hw
    have l13k0_a1 : (1 : Int) ≤ a1.toInt := Int.le_trans zq1 h13.1
    have u13k0_a1 : a1.toInt ≤ (60 : Int) := Int.le_trans h13.2 zq46
    refine va_calli (va_runV (As := [.int a0_14, .int 1]) (rest := []) ⟨hx, hb, hml, hown, hts⟩ (c_X8_whyB l dC dI H.size a0 a0_14 1 (Value.int v1na0_0) a0g_1 a0g_2 a0g_3 a0g_4 a0g_5 a0g_6 a0g_7 a0g_8 a0g_9 a0g_10 (Value.int v1na0_11) a0g_12 a0g_13 (Value.int a0_14) a0g_15 a0g_16 a0g_17 a0g_18 a0g_19 a0g_20 a0g_21 a0g_22 a0g_23 a0g_24 a0g_25 a0g_26 a0g_27 a0g_28 a0g_29 a0g_30 a0g_31 a0g_32 a0g_33 a0g_34 a0g_35 a0g_36 a0g_37 a0g_38 a0g_39 ba0_14_l (Int.le_trans ba0_14_u zq4) (Int.le_trans zq4 zq1) zq0) (cwV 2 hts gX8_stand_X8_why rfl rfl rfl zd_X8_why ⟨Nat.le_of_ble_eq_true rfl, Nat.le_of_ble_eq_true rfl⟩) ⟨ax_blind (fun _ _ _ _ _ => trivial), zr_8 (zp_K hK) (zp_P1 hP) (q0 := 0) rfl, ax_pre (zp_P1 hP) (zp_K hK) (zp_D1 hD) (fun _ _ => trivial)⟩ rfl rfl hl.1 rfl (lv_room (Nat.le_of_ble_eq_true rfl)) dX8_stand_16 ⟨Nat.le_of_ble_eq_true rfl, Nat.le_of_ble_eq_true rfl⟩) hS (fun q _ h => zp_F1 hD hS hA q h) (zp_F1 hD hS hA) (fun r16 u t H locs ht hvm hw hB hz1 hk1 hS1 => zo1 hB ht hP hD hk1 (zp_F1 hD hS hA) hS1 (fun hP hK1 hD hS => ?_))
    rcases hw with hw | hw | hw
    · obtain ⟨hw, h16_0, h16_1, h16_2, h16_3⟩ := hw
      subst hw
      have l16k0_a0_14 : (1 : Int) ≤ a0_14.toInt := h16_0
      have u16k0_a0_14 : a0_14.toInt ≤ (0 : Int) := ba0_14_u
      exact absurd (Int.le_trans l16k0_a0_14 u16k0_a0_14) (by decide)
    · obtain ⟨hw, h16_0, h16_1⟩ := hw
      subst hw
      have l16k1_a0_14 : (0 : Int) ≤ a0_14.toInt := ba0_14_l
      have u16k1_a0_14 : a0_14.toInt ≤ (0 : Int) := ba0_14_u
      refine lv_istore_n (lv' := [(2, .int 1), (0, .ref a0), (1, .int a1)]) hx hb dX8_stand_19 rfl hl (by decide) rfl (fun ls hl => ?_)
      refine lv_iload_n hx hb dX8_stand_20 rfl (lv_at hl 0 rfl) ?_
      refine lv_if_eq (tgt := 30) hx hb dX8_stand_21 (by decide) (fun c21 => absurd c21 (by decide +kernel)) (fun _ => ?_)
      refine lv_aload_n hx hb dX8_stand_24 rfl (lv_at hl 1 rfl) ?_
      refine lv_iload_n hx hb dX8_stand_25 rfl (lv_at hl 0 rfl) ?_
      refine va_calli (va_runV (As := [.int 1]) (rest := []) ⟨hx, hb, hml, hown, hts⟩ (c_X8_no l dC dI H.size a0 1 (Value.int v1na0_0) a0g_1 a0g_2 a0g_3 a0g_4 a0g_5 a0g_6 a0g_7 a0g_8 a0g_9 a0g_10 a0g_12 a0g_13 (Value.int a0_14) a0g_15 a0g_16 a0g_17 a0g_18 a0g_19 a0g_20 a0g_21 a0g_22 a0g_23 a0g_24 a0g_25 a0g_26 a0g_27 a0g_28 a0g_29 a0g_30 a0g_31 a0g_32 a0g_33 a0g_34 a0g_35 a0g_36 a0g_37 a0g_38 a0g_39 v1na0_11 ) (cwV 1 hts gX8_stand_X8_no rfl rfl rfl zd_X8_no ⟨Nat.le_of_ble_eq_true rfl, Nat.le_of_ble_eq_true rfl⟩) ⟨ax_blind (fun _ _ _ _ _ => trivial), zr_8 (zp_K hK) (zp_P1 hP) (q0 := 0) rfl, ax_pre (zp_P1 hP) (zp_K hK) (zp_D1 hD) (fun _ _ => trivial)⟩ rfl rfl hl.1 rfl (lv_room (Nat.le_of_ble_eq_true rfl)) dX8_stand_26 ⟨Nat.le_of_ble_eq_true rfl, Nat.le_of_ble_eq_true rfl⟩) hS (fun q _ h => zp_F1 hD hS hA q h) (zp_F1 hD hS hA) (fun r26 u t H locs ht hvm hw => zx_1 (fun v26na0_11 hB hz1 hk1 hS1 => zo1 hB ht hP hD hk1 (zp_F1 hD hS hA) hS1 (fun hP hK1 hD hS => ?_)))
      have hw : r26 = (-1) := hw
      have hw := hw.symm
      subst hw
      exact W.iret (v := (-1)) hx hb hr (fun t ht hW => ⟨⟨(-1), (), rfl, rfl, v1na0_0, v26na0_11, by rw [ht]; exact hP, va_K.moved hW.alike hK, hD⟩, hS.F ht⟩) hS.2.2 dX8_stand_29
    · obtain ⟨hw, h16_0, h16_1, h16_2, h16_3⟩ := hw
      subst hw
      have l16k2_a0_14 : (1 : Int) ≤ a0_14.toInt := h16_0
      have u16k2_a0_14 : a0_14.toInt ≤ (0 : Int) := ba0_14_u
      exact absurd (Int.le_trans l16k2_a0_14 u16k2_a0_14) (by decide)
  · obtain ⟨hw, h13⟩ := hw
    subst hw
    refine va_calli (va_runV (As := [.int a0_14, .int 0]) (rest := []) ⟨hx, hb, hml, hown, hts⟩ (c_X8_whyB l dC dI H.size a0 a0_14 0 (Value.int v1na0_0) a0g_1 a0g_2 a0g_3 a0g_4 a0g_5 a0g_6 a0g_7 a0g_8 a0g_9 a0g_10 (Value.int v1na0_11) a0g_12 a0g_13 (Value.int a0_14) a0g_15 a0g_16 a0g_17 a0g_18 a0g_19 a0g_20 a0g_21 a0g_22 a0g_23 a0g_24 a0g_25 a0g_26 a0g_27 a0g_28 a0g_29 a0g_30 a0g_31 a0g_32 a0g_33 a0g_34 a0g_35 a0g_36 a0g_37 a0g_38 a0g_39 ba0_14_l (Int.le_trans ba0_14_u zq4) zq5 (Int.le_trans zq6 zq4)) (cwV 2 hts gX8_stand_X8_why rfl rfl rfl zd_X8_why ⟨Nat.le_of_ble_eq_true rfl, Nat.le_of_ble_eq_true rfl⟩) ⟨ax_blind (fun _ _ _ _ _ => trivial), zr_8 (zp_K hK) (zp_P1 hP) (q0 := 0) rfl, ax_pre (zp_P1 hP) (zp_K hK) (zp_D1 hD) (fun _ _ => trivial)⟩ rfl rfl hl.1 rfl (lv_room (Nat.le_of_ble_eq_true rfl)) dX8_stand_16 ⟨Nat.le_of_ble_eq_true rfl, Nat.le_of_ble_eq_true rfl⟩) hS (fun q _ h => zp_F1 hD hS hA q h) (zp_F1 hD hS hA) (fun r16 u t H locs ht hvm hw hB hz1 hk1 hS1 => zo1 hB ht hP hD hk1 (zp_F1 hD hS hA) hS1 (fun hP hK1 hD hS => ?_))
    rcases hw with hw | hw | hw
    · obtain ⟨hw, h16_0, h16_1, h16_2, h16_3⟩ := hw
      subst hw
      have l16k0_a0_14 : (1 : Int) ≤ a0_14.toInt := h16_0
      have u16k0_a0_14 : a0_14.toInt ≤ (0 : Int) := ba0_14_u
      exact absurd (Int.le_trans l16k0_a0_14 u16k0_a0_14) (by decide)
    · obtain ⟨hw, h16_0, h16_1⟩ := hw
      subst hw
      have l16k1_a0_14 : (0 : Int) ≤ a0_14.toInt := ba0_14_l
      have u16k1_a0_14 : a0_14.toInt ≤ (0 : Int) := ba0_14_u
      refine lv_istore_n (lv' := [(2, .int 1), (0, .ref a0), (1, .int a1)]) hx hb dX8_stand_19 rfl hl (by decide) rfl (fun ls hl => ?_)
      refine lv_iload_n hx hb dX8_stand_20 rfl (lv_at hl 0 rfl) ?_
      refine lv_if_eq (tgt := 30) hx hb dX8_stand_21 (by decide) (fun c21 => absurd c21 (by decide +kernel)) (fun _ => ?_)
      refine lv_aload_n hx hb dX8_stand_24 rfl (lv_at hl 1 rfl) ?_
      refine lv_iload_n hx hb dX8_stand_25 rfl (lv_at hl 0 rfl) ?_
      refine va_calli (va_runV (As := [.int 1]) (rest := []) ⟨hx, hb, hml, hown, hts⟩ (c_X8_no l dC dI H.size a0 1 (Value.int v1na0_0) a0g_1 a0g_2 a0g_3 a0g_4 a0g_5 a0g_6 a0g_7 a0g_8 a0g_9 a0g_10 a0g_12 a0g_13 (Value.int a0_14) a0g_15 a0g_16 a0g_17 a0g_18 a0g_19 a0g_20 a0g_21 a0g_22 a0g_23 a0g_24 a0g_25 a0g_26 a0g_27 a0g_28 a0g_29 a0g_30 a0g_31 a0g_32 a0g_33 a0g_34 a0g_35 a0g_36 a0g_37 a0g_38 a0g_39 v1na0_11 ) (cwV 1 hts gX8_stand_X8_no rfl rfl rfl zd_X8_no ⟨Nat.le_of_ble_eq_true rfl, Nat.le_of_ble_eq_true rfl⟩) ⟨ax_blind (fun _ _ _ _ _ => trivial), zr_8 (zp_K hK) (zp_P1 hP) (q0 := 0) rfl, ax_pre (zp_P1 hP) (zp_K hK) (zp_D1 hD) (fun _ _ => trivial)⟩ rfl rfl hl.1 rfl (lv_room (Nat.le_of_ble_eq_true rfl)) dX8_stand_26 ⟨Nat.le_of_ble_eq_true rfl, Nat.le_of_ble_eq_true rfl⟩) hS (fun q _ h => zp_F1 hD hS hA q h) (zp_F1 hD hS hA) (fun r26 u t H locs ht hvm hw => zx_1 (fun v26na0_11 hB hz1 hk1 hS1 => zo1 hB ht hP hD hk1 (zp_F1 hD hS hA) hS1 (fun hP hK1 hD hS => ?_)))
      have hw : r26 = (-1) := hw
      have hw := hw.symm
      subst hw
      exact W.iret (v := (-1)) hx hb hr (fun t ht hW => ⟨⟨(-1), (), rfl, rfl, v1na0_0, v26na0_11, by rw [ht]; exact hP, va_K.moved hW.alike hK, hD⟩, hS.F ht⟩) hS.2.2 dX8_stand_29
    · obtain ⟨hw, h16_0, h16_1, h16_2, h16_3⟩ := hw
      subst hw
      have l16k2_a0_14 : (1 : Int) ≤ a0_14.toInt := h16_0
      have u16k2_a0_14 : a0_14.toInt ≤ (0 : Int) := ba0_14_u
      exact absurd (Int.le_trans l16k2_a0_14 u16k2_a0_14) (by decide)

set_option maxHeartbeats 4000000 in
set_option maxRecDepth 100000 in
theorem c0_X8_guard (l : Launch) (dC : Nat → ClassId) (dI : Nat → Nat → Nat) (sz : Nat) (a0 : Nat) (a1 : Int32) (a0_0 : Int32) (a0g_1 a0g_2 a0g_3 a0g_4 a0g_5 a0g_6 a0g_7 a0g_8 a0g_9 a0g_10 a0g_12 a0g_13 a0g_15 a0g_16 a0g_17 a0g_18 a0g_19 a0g_20 a0g_21 a0g_22 a0g_23 a0g_24 a0g_25 a0g_26 a0g_27 a0g_28 a0g_29 a0g_30 a0g_31 a0g_32 a0g_33 a0g_34 a0g_35 a0g_36 a0g_37 a0g_38 a0g_39 : Value) (a0_11 : Int32) (a0_14 : Int32) (ba0_14_l : (0 : Int) ≤ a0_14.toInt) (ba0_14_u : a0_14.toInt ≤ (0 : Int)) : zm l yX8_guard wsX8_guard ({ frames := 1, cells := 0, slots := 0, locals := 22 }) [.ref a0, .int a1] dC dI sz [(a0, .inr (8, [Value.int a0_0, a0g_1, a0g_2, a0g_3, a0g_4, a0g_5, a0g_6, a0g_7, a0g_8, a0g_9, a0g_10, Value.int a0_11, a0g_12, a0g_13, Value.int a0_14, a0g_15, a0g_16, a0g_17, a0g_18, a0g_19, a0g_20, a0g_21, a0g_22, a0g_23, a0g_24, a0g_25, a0g_26, a0g_27, a0g_28, a0g_29, a0g_30, a0g_31, a0g_32, a0g_33, a0g_34, a0g_35, a0g_36, a0g_37, a0g_38, a0g_39]))] [] (fun A _ => True) (fun A => va_Qi (fun (r : Int32) (_ : Unit) => r = (-1)) (fun (_ : Unit) (t : State) => ∃ na0_0 : Int32, ∃ na0_11 : Int32, ax_B dC dI A [(a0, .inr (8, [Value.int na0_0, a0g_1, a0g_2, a0g_3, a0g_4, a0g_5, a0g_6, a0g_7, a0g_8, a0g_9, a0g_10, Value.int na0_11, a0g_12, a0g_13, Value.int a0_14, a0g_15, a0g_16, a0g_17, a0g_18, a0g_19, a0g_20, a0g_21, a0g_22, a0g_23, a0g_24, a0g_25, a0g_26, a0g_27, a0g_28, a0g_29, a0g_30, a0g_31, a0g_32, a0g_33, a0g_34, a0g_35, a0g_36, a0g_37, a0g_38, a0g_39]))] [] t) A) := by
  refine zh (cc := cX8_guard) (maxL := 6) (ret := (some .int)) zn_RX8 rfl (Nat.le_of_ble_eq_true rfl) (fun p e s m below meth c A ls hx hb hml hr hts (hown : s.vm.findClass RX8 = some m.cls) hlocks hA hS hP hK hD hE (hl : lv_has ls 6 [(0, .ref a0), (1, .int a1)]) => ?_)
  refine ai_open (fun K hK0 => ?_)
  refine (hK0 _ _ _).mpr ?_
  refine lv_aload_n hx hb dX8_guard_0 rfl (lv_at hl 0 rfl) ?_
  refine va_callv (va_runV (As := []) (rest := []) ⟨hx, hb, hml, hown, hts⟩ (c_X8_good l dC dI s.heap.size a0 a0_0 a0g_1 a0g_2 a0g_3 a0g_4 a0g_5 a0g_6 a0g_7 a0g_8 a0g_9 a0g_10 a0g_12 a0g_13 (Value.int a0_14) a0g_15 a0g_16 a0g_17 a0g_18 a0g_19 a0g_20 a0g_21 a0g_22 a0g_23 a0g_24 a0g_25 a0g_26 a0g_27 a0g_28 a0g_29 a0g_30 a0g_31 a0g_32 a0g_33 a0g_34 a0g_35 a0g_36 a0g_37 a0g_38 a0g_39 a0_11 ) (cwV 0 hts gX8_guard_X8_good rfl rfl rfl zd_X8_good ⟨Nat.le_of_ble_eq_true rfl, Nat.le_of_ble_eq_true rfl⟩) ⟨ax_blind (fun _ _ _ _ _ => trivial), zr_8 (zp_K hK) (zp_P1 hP) (q0 := 0) rfl, ax_pre (zp_P1 hP) (zp_K hK) (zp_D1 hD) (fun _ _ => trivial)⟩ rfl rfl hl.1 rfl (lv_room (Nat.le_of_ble_eq_true rfl)) dX8_guard_1 ⟨Nat.le_of_ble_eq_true rfl, Nat.le_of_ble_eq_true rfl⟩) hS (fun q _ h => zp_F1 hD hS hA q h) (zp_F1 hD hS hA) (fun u t H locs ht hvm hw => zx_2 (fun v1na0_0 v1na0_11 hB hz1 hk1 hS1 => zo1 hB ht hP hD hk1 (zp_F1 hD hS hA) hS1 (fun hP hK1 hD hS => ?_)))
  refine lv_aload_n hx hb dX8_guard_4 rfl (lv_at hl 0 rfl) ?_
  refine lv_aload_n hx hb dX8_guard_5 rfl (lv_at hl 0 rfl) ?_
  refine va_get (D := (dC, dI)) (ci := 8) (v := .int a0_14) (C := RX8) (T := TX8) (N := 40) hx hb hts zi_X8_guard_8 hown hK hP 0 rfl rfl 14 (by decide) (hts (.fieldLink RX8 173 "WaxTurnsModel" "hasGallery" "Z") (zm_X8_guard_r1 (List.mem_of_getElem? (i := 0) rfl))) (fun _ h9 => h9) rfl dX8_guard_6 ?_
  refine lv_iload_n hx hb dX8_guard_9 rfl (lv_at hl 1 rfl) ?_
  refine lv_iconst (v := 1) hx hb dX8_guard_10 zk_iconst_1 ?_
  refine lv_bipush (v := 60) hx hb dX8_guard_11 zk_bipush_60 ?_
  refine va_calli (va_runS (As := [.int a1, .int 1, .int 60]) (rest := [.int a0_14, .ref a0]) ⟨hx, hb, hml, hown, hts⟩ (c_X8_in l dC dI H.size a1 1 60 ) (va_cwS 3 hts gX8_guard_X8_in rfl rfl rfl zd_X8_in.2 ⟨Nat.le_of_ble_eq_true rfl, Nat.le_of_ble_eq_true rfl⟩) ⟨ax_blind (fun _ _ _ _ _ => trivial), ax_pre (zp_P0 hP) (zp_K hK) (zp_D0 hD) (fun _ _ => trivial)⟩ rfl rfl hl.1 rfl (lv_room (Nat.le_of_ble_eq_true rfl)) dX8_guard_13 ⟨Nat.le_of_ble_eq_true rfl, Nat.le_of_ble_eq_true rfl⟩) hS (fun q _ h => zp_F0 hD hS hA q h) (zp_F0 hD hS hA) (fun r13 u t H locs ht hvm hw hB hz1 hk1 hS1 => zo0 hB ht hP hD hk1 (zp_F0 hD hS hA) hS1 (fun hP hK1 hD hS => ?_))
  rcases hw with hw | hw
  · obtain ⟨hw, h13⟩ := hw
    subst hw
    have l13k0_a1 : (1 : Int) ≤ a1.toInt := Int.le_trans zq1 h13.1
    have u13k0_a1 : a1.toInt ≤ (60 : Int) := Int.le_trans h13.2 zq46
    refine va_calli (va_runV (As := [.int a0_14, .int 1]) (rest := []) ⟨hx, hb, hml, hown, hts⟩ (c_X8_whyB l dC dI H.size a0 a0_14 1 (Value.int v1na0_0) a0g_1 a0g_2 a0g_3 a0g_4 a0g_5 a0g_6 a0g_7 a0g_8 a0g_9 a0g_10 (Value.int v1na0_11) a0g_12 a0g_13 (Value.int a0_14) a0g_15 a0g_16 a0g_17 a0g_18 a0g_19 a0g_20 a0g_21 a0g_22 a0g_23 a0g_24 a0g_25 a0g_26 a0g_27 a0g_28 a0g_29 a0g_30 a0g_31 a0g_32 a0g_33 a0g_34 a0g_35 a0g_36 a0g_37 a0g_38 a0g_39 ba0_14_l (Int.le_trans ba0_14_u zq4) (Int.le_trans zq4 zq1) zq0) (cwV 2 hts gX8_guard_X8_why rfl rfl rfl zd_X8_why ⟨Nat.le_of_ble_eq_true rfl, Nat.le_of_ble_eq_true rfl⟩) ⟨ax_blind (fun _ _ _ _ _ => trivial), zr_8 (zp_K hK) (zp_P1 hP) (q0 := 0) rfl, ax_pre (zp_P1 hP) (zp_K hK) (zp_D1 hD) (fun _ _ => trivial)⟩ rfl rfl hl.1 rfl (lv_room (Nat.le_of_ble_eq_true rfl)) dX8_guard_16 ⟨Nat.le_of_ble_eq_true rfl, Nat.le_of_ble_eq_true rfl⟩) hS (fun q _ h => zp_F1 hD hS hA q h) (zp_F1 hD hS hA) (fun r16 u t H locs ht hvm hw hB hz1 hk1 hS1 => zo1 hB ht hP hD hk1 (zp_F1 hD hS hA) hS1 (fun hP hK1 hD hS => ?_))
    rcases hw with hw | hw | hw
    · obtain ⟨hw, h16_0, h16_1, h16_2, h16_3⟩ := hw
      subst hw
      have l16k0_a0_14 : (1 : Int) ≤ a0_14.toInt := h16_0
      have u16k0_a0_14 : a0_14.toInt ≤ (0 : Int) := ba0_14_u
      exact absurd (Int.le_trans l16k0_a0_14 u16k0_a0_14) (by decide)
    · obtain ⟨hw, h16_0, h16_1⟩ := hw
      subst hw
      have l16k1_a0_14 : (0 : Int) ≤ a0_14.toInt := ba0_14_l
      have u16k1_a0_14 : a0_14.toInt ≤ (0 : Int) := ba0_14_u
      refine lv_istore_n (lv' := [(2, .int 1), (0, .ref a0), (1, .int a1)]) hx hb dX8_guard_19 rfl hl (by decide) rfl (fun ls hl => ?_)
      refine lv_iload_n hx hb dX8_guard_20 rfl (lv_at hl 0 rfl) ?_
      refine lv_if_eq (tgt := 30) hx hb dX8_guard_21 (by decide) (fun c21 => absurd c21 (by decide +kernel)) (fun _ => ?_)
      refine lv_aload_n hx hb dX8_guard_24 rfl (lv_at hl 1 rfl) ?_
      refine lv_iload_n hx hb dX8_guard_25 rfl (lv_at hl 0 rfl) ?_
      refine va_calli (va_runV (As := [.int 1]) (rest := []) ⟨hx, hb, hml, hown, hts⟩ (c_X8_no l dC dI H.size a0 1 (Value.int v1na0_0) a0g_1 a0g_2 a0g_3 a0g_4 a0g_5 a0g_6 a0g_7 a0g_8 a0g_9 a0g_10 a0g_12 a0g_13 (Value.int a0_14) a0g_15 a0g_16 a0g_17 a0g_18 a0g_19 a0g_20 a0g_21 a0g_22 a0g_23 a0g_24 a0g_25 a0g_26 a0g_27 a0g_28 a0g_29 a0g_30 a0g_31 a0g_32 a0g_33 a0g_34 a0g_35 a0g_36 a0g_37 a0g_38 a0g_39 v1na0_11 ) (cwV 1 hts gX8_guard_X8_no rfl rfl rfl zd_X8_no ⟨Nat.le_of_ble_eq_true rfl, Nat.le_of_ble_eq_true rfl⟩) ⟨ax_blind (fun _ _ _ _ _ => trivial), zr_8 (zp_K hK) (zp_P1 hP) (q0 := 0) rfl, ax_pre (zp_P1 hP) (zp_K hK) (zp_D1 hD) (fun _ _ => trivial)⟩ rfl rfl hl.1 rfl (lv_room (Nat.le_of_ble_eq_true rfl)) dX8_guard_26 ⟨Nat.le_of_ble_eq_true rfl, Nat.le_of_ble_eq_true rfl⟩) hS (fun q _ h => zp_F1 hD hS hA q h) (zp_F1 hD hS hA) (fun r26 u t H locs ht hvm hw => zx_1 (fun v26na0_11 hB hz1 hk1 hS1 => zo1 hB ht hP hD hk1 (zp_F1 hD hS hA) hS1 (fun hP hK1 hD hS => ?_)))
      have hw : r26 = (-1) := hw
      have hw := hw.symm
      subst hw
      exact W.iret (v := (-1)) hx hb hr (fun t ht hW => ⟨⟨(-1), (), rfl, rfl, v1na0_0, v26na0_11, by rw [ht]; exact hP, va_K.moved hW.alike hK, hD⟩, hS.F ht⟩) hS.2.2 dX8_guard_29
    · obtain ⟨hw, h16_0, h16_1, h16_2, h16_3⟩ := hw
      subst hw
      have l16k2_a0_14 : (1 : Int) ≤ a0_14.toInt := h16_0
      have u16k2_a0_14 : a0_14.toInt ≤ (0 : Int) := ba0_14_u
      exact absurd (Int.le_trans l16k2_a0_14 u16k2_a0_14) (by decide)
  · obtain ⟨hw, h13⟩ := hw
    subst hw
    refine va_calli (va_runV (As := [.int a0_14, .int 0]) (rest := []) ⟨hx, hb, hml, hown, hts⟩ (c_X8_whyB l dC dI H.size a0 a0_14 0 (Value.int v1na0_0) a0g_1 a0g_2 a0g_3 a0g_4 a0g_5 a0g_6 a0g_7 a0g_8 a0g_9 a0g_10 (Value.int v1na0_11) a0g_12 a0g_13 (Value.int a0_14) a0g_15 a0g_16 a0g_17 a0g_18 a0g_19 a0g_20 a0g_21 a0g_22 a0g_23 a0g_24 a0g_25 a0g_26 a0g_27 a0g_28 a0g_29 a0g_30 a0g_31 a0g_32 a0g_33 a0g_34 a0g_35 a0g_36 a0g_37 a0g_38 a0g_39 ba0_14_l (Int.le_trans ba0_14_u zq4) zq5 (Int.le_trans zq6 zq4)) (cwV 2 hts gX8_guard_X8_why rfl rfl rfl zd_X8_why ⟨Nat.le_of_ble_eq_true rfl, Nat.le_of_ble_eq_true rfl⟩) ⟨ax_blind (fun _ _ _ _ _ => trivial), zr_8 (zp_K hK) (zp_P1 hP) (q0 := 0) rfl, ax_pre (zp_P1 hP) (zp_K hK) (zp_D1 hD) (fun _ _ => trivial)⟩ rfl rfl hl.1 rfl (lv_room (Nat.le_of_ble_eq_true rfl)) dX8_guard_16 ⟨Nat.le_of_ble_eq_true rfl, Nat.le_of_ble_eq_true rfl⟩) hS (fun q _ h => zp_F1 hD hS hA q h) (zp_F1 hD hS hA) (fun r16 u t H locs ht hvm hw hB hz1 hk1 hS1 => zo1 hB ht hP hD hk1 (zp_F1 hD hS hA) hS1 (fun hP hK1 hD hS => ?_))
    rcases hw with hw | hw | hw
    · obtain ⟨hw, h16_0, h16_1, h16_2, h16_3⟩ := hw
      subst hw
      have l16k0_a0_14 : (1 : Int) ≤ a0_14.toInt := h16_0
      have u16k0_a0_14 : a0_14.toInt ≤ (0 : Int) := ba0_14_u
      exact absurd (Int.le_trans l16k0_a0_14 u16k0_a0_14) (by decide)
    · obtain ⟨hw, h16_0, h16_1⟩ := hw
      subst hw
      have l16k1_a0_14 : (0 : Int) ≤ a0_14.toInt := ba0_14_l
      have u16k1_a0_14 : a0_14.toInt ≤ (0 : Int) := ba0_14_u
      refine lv_istore_n (lv' := [(2, .int 1), (0, .ref a0), (1, .int a1)]) hx hb dX8_guard_19 rfl hl (by decide) rfl (fun ls hl => ?_)
      refine lv_iload_n hx hb dX8_guard_20 rfl (lv_at hl 0 rfl) ?_
      refine lv_if_eq (tgt := 30) hx hb dX8_guard_21 (by decide) (fun c21 => absurd c21 (by decide +kernel)) (fun _ => ?_)
      refine lv_aload_n hx hb dX8_guard_24 rfl (lv_at hl 1 rfl) ?_
      refine lv_iload_n hx hb dX8_guard_25 rfl (lv_at hl 0 rfl) ?_
      refine va_calli (va_runV (As := [.int 1]) (rest := []) ⟨hx, hb, hml, hown, hts⟩ (c_X8_no l dC dI H.size a0 1 (Value.int v1na0_0) a0g_1 a0g_2 a0g_3 a0g_4 a0g_5 a0g_6 a0g_7 a0g_8 a0g_9 a0g_10 a0g_12 a0g_13 (Value.int a0_14) a0g_15 a0g_16 a0g_17 a0g_18 a0g_19 a0g_20 a0g_21 a0g_22 a0g_23 a0g_24 a0g_25 a0g_26 a0g_27 a0g_28 a0g_29 a0g_30 a0g_31 a0g_32 a0g_33 a0g_34 a0g_35 a0g_36 a0g_37 a0g_38 a0g_39 v1na0_11 ) (cwV 1 hts gX8_guard_X8_no rfl rfl rfl zd_X8_no ⟨Nat.le_of_ble_eq_true rfl, Nat.le_of_ble_eq_true rfl⟩) ⟨ax_blind (fun _ _ _ _ _ => trivial), zr_8 (zp_K hK) (zp_P1 hP) (q0 := 0) rfl, ax_pre (zp_P1 hP) (zp_K hK) (zp_D1 hD) (fun _ _ => trivial)⟩ rfl rfl hl.1 rfl (lv_room (Nat.le_of_ble_eq_true rfl)) dX8_guard_26 ⟨Nat.le_of_ble_eq_true rfl, Nat.le_of_ble_eq_true rfl⟩) hS (fun q _ h => zp_F1 hD hS hA q h) (zp_F1 hD hS hA) (fun r26 u t H locs ht hvm hw => zx_1 (fun v26na0_11 hB hz1 hk1 hS1 => zo1 hB ht hP hD hk1 (zp_F1 hD hS hA) hS1 (fun hP hK1 hD hS => ?_)))
      have hw : r26 = (-1) := hw
      have hw := hw.symm
      subst hw
      exact W.iret (v := (-1)) hx hb hr (fun t ht hW => ⟨⟨(-1), (), rfl, rfl, v1na0_0, v26na0_11, by rw [ht]; exact hP, va_K.moved hW.alike hK, hD⟩, hS.F ht⟩) hS.2.2 dX8_guard_29
    · obtain ⟨hw, h16_0, h16_1, h16_2, h16_3⟩ := hw
      subst hw
      have l16k2_a0_14 : (1 : Int) ≤ a0_14.toInt := h16_0
      have u16k2_a0_14 : a0_14.toInt ≤ (0 : Int) := ba0_14_u
      exact absurd (Int.le_trans l16k2_a0_14 u16k2_a0_14) (by decide)

set_option maxHeartbeats 4000000 in
set_option maxRecDepth 100000 in
theorem c0_X8_windBest (l : Launch) (dC : Nat → ClassId) (dI : Nat → Nat → Nat) (sz : Nat) (a0 : Nat) (a0_0 : Int32) (a0g_1 a0g_2 a0g_3 a0g_4 a0g_5 a0g_6 a0g_7 a0g_8 a0g_9 a0g_10 a0g_12 a0g_13 a0g_15 a0g_16 a0g_17 a0g_18 a0g_19 a0g_20 a0g_21 a0g_22 a0g_23 a0g_24 a0g_25 a0g_26 a0g_27 a0g_28 a0g_29 a0g_30 a0g_31 a0g_32 a0g_33 a0g_34 a0g_35 a0g_36 a0g_37 a0g_38 a0g_39 : Value) (a0_11 : Int32) (a0_14 : Int32) (ba0_14_l : (0 : Int) ≤ a0_14.toInt) (ba0_14_u : a0_14.toInt ≤ (0 : Int)) : zm l yX8_windBest wsX8_windBest ({ frames := 1, cells := 0, slots := 0, locals := 21 }) [.ref a0] dC dI sz [(a0, .inr (8, [Value.int a0_0, a0g_1, a0g_2, a0g_3, a0g_4, a0g_5, a0g_6, a0g_7, a0g_8, a0g_9, a0g_10, Value.int a0_11, a0g_12, a0g_13, Value.int a0_14, a0g_15, a0g_16, a0g_17, a0g_18, a0g_19, a0g_20, a0g_21, a0g_22, a0g_23, a0g_24, a0g_25, a0g_26, a0g_27, a0g_28, a0g_29, a0g_30, a0g_31, a0g_32, a0g_33, a0g_34, a0g_35, a0g_36, a0g_37, a0g_38, a0g_39]))] [] (fun A _ => True) (fun A => va_Qi (fun (r : Int32) (_ : Unit) => r = (-1)) (fun (_ : Unit) (t : State) => ∃ na0_0 : Int32, ∃ na0_11 : Int32, ax_B dC dI A [(a0, .inr (8, [Value.int na0_0, a0g_1, a0g_2, a0g_3, a0g_4, a0g_5, a0g_6, a0g_7, a0g_8, a0g_9, a0g_10, Value.int na0_11, a0g_12, a0g_13, Value.int a0_14, a0g_15, a0g_16, a0g_17, a0g_18, a0g_19, a0g_20, a0g_21, a0g_22, a0g_23, a0g_24, a0g_25, a0g_26, a0g_27, a0g_28, a0g_29, a0g_30, a0g_31, a0g_32, a0g_33, a0g_34, a0g_35, a0g_36, a0g_37, a0g_38, a0g_39]))] [] t) A) := by
  refine zh (cc := cX8_windBest) (maxL := 5) (ret := (some .int)) zn_RX8 rfl (Nat.le_of_ble_eq_true rfl) (fun p e s m below meth c A ls hx hb hml hr hts (hown : s.vm.findClass RX8 = some m.cls) hlocks hA hS hP hK hD hE (hl : lv_has ls 5 [(0, .ref a0)]) => ?_)
  refine ai_open (fun K hK0 => ?_)
  refine (hK0 _ _ _).mpr ?_
  refine lv_aload_n hx hb dX8_windBest_0 rfl (lv_at hl 0 rfl) ?_
  refine va_callv (va_runV (As := []) (rest := []) ⟨hx, hb, hml, hown, hts⟩ (c_X8_good l dC dI s.heap.size a0 a0_0 a0g_1 a0g_2 a0g_3 a0g_4 a0g_5 a0g_6 a0g_7 a0g_8 a0g_9 a0g_10 a0g_12 a0g_13 (Value.int a0_14) a0g_15 a0g_16 a0g_17 a0g_18 a0g_19 a0g_20 a0g_21 a0g_22 a0g_23 a0g_24 a0g_25 a0g_26 a0g_27 a0g_28 a0g_29 a0g_30 a0g_31 a0g_32 a0g_33 a0g_34 a0g_35 a0g_36 a0g_37 a0g_38 a0g_39 a0_11 ) (cwV 0 hts gX8_windBest_X8_good rfl rfl rfl zd_X8_good ⟨Nat.le_of_ble_eq_true rfl, Nat.le_of_ble_eq_true rfl⟩) ⟨ax_blind (fun _ _ _ _ _ => trivial), zr_8 (zp_K hK) (zp_P1 hP) (q0 := 0) rfl, ax_pre (zp_P1 hP) (zp_K hK) (zp_D1 hD) (fun _ _ => trivial)⟩ rfl rfl hl.1 rfl (lv_room (Nat.le_of_ble_eq_true rfl)) dX8_windBest_1 ⟨Nat.le_of_ble_eq_true rfl, Nat.le_of_ble_eq_true rfl⟩) hS (fun q _ h => zp_F1 hD hS hA q h) (zp_F1 hD hS hA) (fun u t H locs ht hvm hw => zx_2 (fun v1na0_0 v1na0_11 hB hz1 hk1 hS1 => zo1 hB ht hP hD hk1 (zp_F1 hD hS hA) hS1 (fun hP hK1 hD hS => ?_)))
  refine lv_aload_n hx hb dX8_windBest_4 rfl (lv_at hl 0 rfl) ?_
  refine va_get (D := (dC, dI)) (ci := 8) (v := .int a0_14) (C := RX8) (T := TX8) (N := 40) hx hb hts zi_X8_windBest_8 hown hK hP 0 rfl rfl 14 (by decide) (hts (.fieldLink RX8 173 "WaxTurnsModel" "hasGallery" "Z") (zm_X8_windBest_r1 (List.mem_of_getElem? (i := 0) rfl))) (fun _ h9 => h9) rfl dX8_windBest_5 ?_
  refine lv_if_ne (tgt := 17) hx hb dX8_windBest_8 (by decide) (fun c8 => ?_) (fun c8 => ?_)
  · have gc8 := ai_ne c8
    have l8t_a0_14 : (1 : Int) ≤ a0_14.toInt := (by first | exact zg_l ba0_14_l gc8 (by decide) (by decide) | (have h1 := ba0_14_l; have h2 : (0 : Int32).toInt = 0 := (by decide); rw [h2] at gc8; omega))
    have u8t_a0_14 : a0_14.toInt ≤ (-1 : Int) := (by first | exact zg_u ba0_14_u gc8 (by decide) (by decide) | (have h1 := ba0_14_u; have h2 : (0 : Int32).toInt = 0 := (by decide); rw [h2] at gc8; omega))
    exact absurd (Int.le_trans l8t_a0_14 u8t_a0_14) (by decide)
  · have gc8 := ai_eq c8
    have u8f_a0_14 : a0_14.toInt ≤ (0 : Int) := ba0_14_u
    have l8f_a0_14 : (0 : Int) ≤ a0_14.toInt := ba0_14_l
    refine lv_aload_n hx hb dX8_windBest_11 rfl (lv_at hl 0 rfl) ?_
    refine lv_iconst (v := 1) hx hb dX8_windBest_12 zk_iconst_1 ?_
    refine va_calli (va_runV (As := [.int 1]) (rest := []) ⟨hx, hb, hml, hown, hts⟩ (c_X8_no l dC dI H.size a0 1 (Value.int v1na0_0) a0g_1 a0g_2 a0g_3 a0g_4 a0g_5 a0g_6 a0g_7 a0g_8 a0g_9 a0g_10 a0g_12 a0g_13 (Value.int a0_14) a0g_15 a0g_16 a0g_17 a0g_18 a0g_19 a0g_20 a0g_21 a0g_22 a0g_23 a0g_24 a0g_25 a0g_26 a0g_27 a0g_28 a0g_29 a0g_30 a0g_31 a0g_32 a0g_33 a0g_34 a0g_35 a0g_36 a0g_37 a0g_38 a0g_39 v1na0_11 ) (cwV 1 hts gX8_windBest_X8_no rfl rfl rfl zd_X8_no ⟨Nat.le_of_ble_eq_true rfl, Nat.le_of_ble_eq_true rfl⟩) ⟨ax_blind (fun _ _ _ _ _ => trivial), zr_8 (zp_K hK) (zp_P1 hP) (q0 := 0) rfl, ax_pre (zp_P1 hP) (zp_K hK) (zp_D1 hD) (fun _ _ => trivial)⟩ rfl rfl hl.1 rfl (lv_room (Nat.le_of_ble_eq_true rfl)) dX8_windBest_13 ⟨Nat.le_of_ble_eq_true rfl, Nat.le_of_ble_eq_true rfl⟩) hS (fun q _ h => zp_F1 hD hS hA q h) (zp_F1 hD hS hA) (fun r13 u t H locs ht hvm hw => zx_1 (fun v13na0_11 hB hz1 hk1 hS1 => zo1 hB ht hP hD hk1 (zp_F1 hD hS hA) hS1 (fun hP hK1 hD hS => ?_)))
    have hw : r13 = (-1) := hw
    have hw := hw.symm
    subst hw
    exact W.iret (v := (-1)) hx hb hr (fun t ht hW => ⟨⟨(-1), (), rfl, rfl, v1na0_0, v13na0_11, by rw [ht]; exact hP, va_K.moved hW.alike hK, hD⟩, hS.F ht⟩) hS.2.2 dX8_windBest_16
end P280_03_safe
section P280_04_safe
set_option maxHeartbeats 4000000 in
set_option maxRecDepth 100000 in
theorem c0_X8_fitAt (l : Launch) (dC : Nat → ClassId) (dI : Nat → Nat → Nat) (sz : Nat) (a0 : Nat) (a1 : Int32) (a0_0 : Int32) (a0g_1 a0g_2 a0g_3 a0g_4 a0g_5 a0g_6 a0g_7 a0g_8 a0g_9 a0g_10 a0g_12 a0g_13 a0g_15 a0g_16 a0g_17 a0g_18 a0g_19 a0g_20 a0g_21 a0g_22 a0g_23 a0g_24 a0g_25 a0g_26 a0g_27 a0g_28 a0g_29 a0g_30 a0g_31 a0g_32 a0g_33 a0g_34 a0g_35 a0g_36 a0g_37 a0g_38 a0g_39 : Value) (a0_11 : Int32) (a0_14 : Int32) (ba0_14_l : (0 : Int) ≤ a0_14.toInt) (ba0_14_u : a0_14.toInt ≤ (0 : Int)) : zm l yX8_fitAt wsX8_fitAt ({ frames := 1, cells := 0, slots := 0, locals := 21 }) [.ref a0, .int a1] dC dI sz [(a0, .inr (8, [Value.int a0_0, a0g_1, a0g_2, a0g_3, a0g_4, a0g_5, a0g_6, a0g_7, a0g_8, a0g_9, a0g_10, Value.int a0_11, a0g_12, a0g_13, Value.int a0_14, a0g_15, a0g_16, a0g_17, a0g_18, a0g_19, a0g_20, a0g_21, a0g_22, a0g_23, a0g_24, a0g_25, a0g_26, a0g_27, a0g_28, a0g_29, a0g_30, a0g_31, a0g_32, a0g_33, a0g_34, a0g_35, a0g_36, a0g_37, a0g_38, a0g_39]))] [] (fun A _ => True) (fun A => va_Qi (fun (r : Int32) (_ : Unit) => r = (-1)) (fun (_ : Unit) (t : State) => ∃ na0_0 : Int32, ∃ na0_11 : Int32, ax_B dC dI A [(a0, .inr (8, [Value.int na0_0, a0g_1, a0g_2, a0g_3, a0g_4, a0g_5, a0g_6, a0g_7, a0g_8, a0g_9, a0g_10, Value.int na0_11, a0g_12, a0g_13, Value.int a0_14, a0g_15, a0g_16, a0g_17, a0g_18, a0g_19, a0g_20, a0g_21, a0g_22, a0g_23, a0g_24, a0g_25, a0g_26, a0g_27, a0g_28, a0g_29, a0g_30, a0g_31, a0g_32, a0g_33, a0g_34, a0g_35, a0g_36, a0g_37, a0g_38, a0g_39]))] [] t) A) := by
  refine zh (cc := cX8_fitAt) (maxL := 4) (ret := (some .int)) zn_RX8 rfl (Nat.le_of_ble_eq_true rfl) (fun p e s m below meth c A ls hx hb hml hr hts (hown : s.vm.findClass RX8 = some m.cls) hlocks hA hS hP hK hD hE (hl : lv_has ls 4 [(0, .ref a0), (1, .int a1)]) => ?_)
  refine ai_open (fun K hK0 => ?_)
  refine (hK0 _ _ _).mpr ?_
  refine lv_aload_n hx hb dX8_fitAt_0 rfl (lv_at hl 0 rfl) ?_
  refine va_callv (va_runV (As := []) (rest := []) ⟨hx, hb, hml, hown, hts⟩ (c_X8_good l dC dI s.heap.size a0 a0_0 a0g_1 a0g_2 a0g_3 a0g_4 a0g_5 a0g_6 a0g_7 a0g_8 a0g_9 a0g_10 a0g_12 a0g_13 (Value.int a0_14) a0g_15 a0g_16 a0g_17 a0g_18 a0g_19 a0g_20 a0g_21 a0g_22 a0g_23 a0g_24 a0g_25 a0g_26 a0g_27 a0g_28 a0g_29 a0g_30 a0g_31 a0g_32 a0g_33 a0g_34 a0g_35 a0g_36 a0g_37 a0g_38 a0g_39 a0_11 ) (cwV 0 hts gX8_fitAt_X8_good rfl rfl rfl zd_X8_good ⟨Nat.le_of_ble_eq_true rfl, Nat.le_of_ble_eq_true rfl⟩) ⟨ax_blind (fun _ _ _ _ _ => trivial), zr_8 (zp_K hK) (zp_P1 hP) (q0 := 0) rfl, ax_pre (zp_P1 hP) (zp_K hK) (zp_D1 hD) (fun _ _ => trivial)⟩ rfl rfl hl.1 rfl (lv_room (Nat.le_of_ble_eq_true rfl)) dX8_fitAt_1 ⟨Nat.le_of_ble_eq_true rfl, Nat.le_of_ble_eq_true rfl⟩) hS (fun q _ h => zp_F1 hD hS hA q h) (zp_F1 hD hS hA) (fun u t H locs ht hvm hw => zx_2 (fun v1na0_0 v1na0_11 hB hz1 hk1 hS1 => zo1 hB ht hP hD hk1 (zp_F1 hD hS hA) hS1 (fun hP hK1 hD hS => ?_)))
  refine lv_aload_n hx hb dX8_fitAt_4 rfl (lv_at hl 0 rfl) ?_
  refine va_get (D := (dC, dI)) (ci := 8) (v := .int a0_14) (C := RX8) (T := TX8) (N := 40) hx hb hts zi_X8_fitAt_8 hown hK hP 0 rfl rfl 14 (by decide) (hts (.fieldLink RX8 173 "WaxTurnsModel" "hasGallery" "Z") (zm_X8_fitAt_r1 (List.mem_of_getElem? (i := 0) rfl))) (fun _ h9 => h9) rfl dX8_fitAt_5 ?_
  refine lv_if_ne (tgt := 17) hx hb dX8_fitAt_8 (by decide) (fun c8 => ?_) (fun c8 => ?_)
  · have gc8 := ai_ne c8
    have l8t_a0_14 : (1 : Int) ≤ a0_14.toInt := (by first | exact zg_l ba0_14_l gc8 (by decide) (by decide) | (have h1 := ba0_14_l; have h2 : (0 : Int32).toInt = 0 := (by decide); rw [h2] at gc8; omega))
    have u8t_a0_14 : a0_14.toInt ≤ (-1 : Int) := (by first | exact zg_u ba0_14_u gc8 (by decide) (by decide) | (have h1 := ba0_14_u; have h2 : (0 : Int32).toInt = 0 := (by decide); rw [h2] at gc8; omega))
    exact absurd (Int.le_trans l8t_a0_14 u8t_a0_14) (by decide)
  · have gc8 := ai_eq c8
    have u8f_a0_14 : a0_14.toInt ≤ (0 : Int) := ba0_14_u
    have l8f_a0_14 : (0 : Int) ≤ a0_14.toInt := ba0_14_l
    refine lv_aload_n hx hb dX8_fitAt_11 rfl (lv_at hl 0 rfl) ?_
    refine lv_iconst (v := 1) hx hb dX8_fitAt_12 zk_iconst_1 ?_
    refine va_calli (va_runV (As := [.int 1]) (rest := []) ⟨hx, hb, hml, hown, hts⟩ (c_X8_no l dC dI H.size a0 1 (Value.int v1na0_0) a0g_1 a0g_2 a0g_3 a0g_4 a0g_5 a0g_6 a0g_7 a0g_8 a0g_9 a0g_10 a0g_12 a0g_13 (Value.int a0_14) a0g_15 a0g_16 a0g_17 a0g_18 a0g_19 a0g_20 a0g_21 a0g_22 a0g_23 a0g_24 a0g_25 a0g_26 a0g_27 a0g_28 a0g_29 a0g_30 a0g_31 a0g_32 a0g_33 a0g_34 a0g_35 a0g_36 a0g_37 a0g_38 a0g_39 v1na0_11 ) (cwV 1 hts gX8_fitAt_X8_no rfl rfl rfl zd_X8_no ⟨Nat.le_of_ble_eq_true rfl, Nat.le_of_ble_eq_true rfl⟩) ⟨ax_blind (fun _ _ _ _ _ => trivial), zr_8 (zp_K hK) (zp_P1 hP) (q0 := 0) rfl, ax_pre (zp_P1 hP) (zp_K hK) (zp_D1 hD) (fun _ _ => trivial)⟩ rfl rfl hl.1 rfl (lv_room (Nat.le_of_ble_eq_true rfl)) dX8_fitAt_13 ⟨Nat.le_of_ble_eq_true rfl, Nat.le_of_ble_eq_true rfl⟩) hS (fun q _ h => zp_F1 hD hS hA q h) (zp_F1 hD hS hA) (fun r13 u t H locs ht hvm hw => zx_1 (fun v13na0_11 hB hz1 hk1 hS1 => zo1 hB ht hP hD hk1 (zp_F1 hD hS hA) hS1 (fun hP hK1 hD hS => ?_)))
    have hw : r13 = (-1) := hw
    have hw := hw.symm
    subst hw
    exact W.iret (v := (-1)) hx hb hr (fun t ht hW => ⟨⟨(-1), (), rfl, rfl, v1na0_0, v13na0_11, by rw [ht]; exact hP, va_K.moved hW.alike hK, hD⟩, hS.F ht⟩) hS.2.2 dX8_fitAt_16

set_option maxHeartbeats 4000000 in
set_option maxRecDepth 100000 in
theorem c0_X8_could (l : Launch) (dC : Nat → ClassId) (dI : Nat → Nat → Nat) (sz : Nat) (a0 : Nat) (a1 : Int32) (a0_0 : Int32) (a0g_1 a0g_2 a0g_3 a0g_4 a0g_5 a0g_6 a0g_7 a0g_8 a0g_9 a0g_10 a0g_12 a0g_13 a0g_15 a0g_16 a0g_17 a0g_18 a0g_19 a0g_20 a0g_21 a0g_22 a0g_23 a0g_24 a0g_25 a0g_26 a0g_27 a0g_28 a0g_29 a0g_30 a0g_31 a0g_32 a0g_33 a0g_34 a0g_35 a0g_36 a0g_37 a0g_38 a0g_39 : Value) (a0_11 : Int32) (a0_14 : Int32) (ba0_14_l : (0 : Int) ≤ a0_14.toInt) (ba0_14_u : a0_14.toInt ≤ (0 : Int)) : zm l yX8_could wsX8_could ({ frames := 1, cells := 0, slots := 0, locals := 22 }) [.ref a0, .int a1] dC dI sz [(a0, .inr (8, [Value.int a0_0, a0g_1, a0g_2, a0g_3, a0g_4, a0g_5, a0g_6, a0g_7, a0g_8, a0g_9, a0g_10, Value.int a0_11, a0g_12, a0g_13, Value.int a0_14, a0g_15, a0g_16, a0g_17, a0g_18, a0g_19, a0g_20, a0g_21, a0g_22, a0g_23, a0g_24, a0g_25, a0g_26, a0g_27, a0g_28, a0g_29, a0g_30, a0g_31, a0g_32, a0g_33, a0g_34, a0g_35, a0g_36, a0g_37, a0g_38, a0g_39]))] [] (fun A _ => True) (fun A => va_Qi (fun (r : Int32) (_ : Unit) => r = (-1)) (fun (_ : Unit) (t : State) => ∃ na0_0 : Int32, ∃ na0_11 : Int32, ax_B dC dI A [(a0, .inr (8, [Value.int na0_0, a0g_1, a0g_2, a0g_3, a0g_4, a0g_5, a0g_6, a0g_7, a0g_8, a0g_9, a0g_10, Value.int na0_11, a0g_12, a0g_13, Value.int a0_14, a0g_15, a0g_16, a0g_17, a0g_18, a0g_19, a0g_20, a0g_21, a0g_22, a0g_23, a0g_24, a0g_25, a0g_26, a0g_27, a0g_28, a0g_29, a0g_30, a0g_31, a0g_32, a0g_33, a0g_34, a0g_35, a0g_36, a0g_37, a0g_38, a0g_39]))] [] t) A) := by
  refine zh (cc := cX8_could) (maxL := 5) (ret := (some .int)) zn_RX8 rfl (Nat.le_of_ble_eq_true rfl) (fun p e s m below meth c A ls hx hb hml hr hts (hown : s.vm.findClass RX8 = some m.cls) hlocks hA hS hP hK hD hE (hl : lv_has ls 5 [(0, .ref a0), (1, .int a1)]) => ?_)
  refine ai_open (fun K hK0 => ?_)
  refine (hK0 _ _ _).mpr ?_
  refine lv_aload_n hx hb dX8_could_0 rfl (lv_at hl 0 rfl) ?_
  refine va_callv (va_runV (As := []) (rest := []) ⟨hx, hb, hml, hown, hts⟩ (c_X8_good l dC dI s.heap.size a0 a0_0 a0g_1 a0g_2 a0g_3 a0g_4 a0g_5 a0g_6 a0g_7 a0g_8 a0g_9 a0g_10 a0g_12 a0g_13 (Value.int a0_14) a0g_15 a0g_16 a0g_17 a0g_18 a0g_19 a0g_20 a0g_21 a0g_22 a0g_23 a0g_24 a0g_25 a0g_26 a0g_27 a0g_28 a0g_29 a0g_30 a0g_31 a0g_32 a0g_33 a0g_34 a0g_35 a0g_36 a0g_37 a0g_38 a0g_39 a0_11 ) (cwV 0 hts gX8_could_X8_good rfl rfl rfl zd_X8_good ⟨Nat.le_of_ble_eq_true rfl, Nat.le_of_ble_eq_true rfl⟩) ⟨ax_blind (fun _ _ _ _ _ => trivial), zr_8 (zp_K hK) (zp_P1 hP) (q0 := 0) rfl, ax_pre (zp_P1 hP) (zp_K hK) (zp_D1 hD) (fun _ _ => trivial)⟩ rfl rfl hl.1 rfl (lv_room (Nat.le_of_ble_eq_true rfl)) dX8_could_1 ⟨Nat.le_of_ble_eq_true rfl, Nat.le_of_ble_eq_true rfl⟩) hS (fun q _ h => zp_F1 hD hS hA q h) (zp_F1 hD hS hA) (fun u t H locs ht hvm hw => zx_2 (fun v1na0_0 v1na0_11 hB hz1 hk1 hS1 => zo1 hB ht hP hD hk1 (zp_F1 hD hS hA) hS1 (fun hP hK1 hD hS => ?_)))
  refine lv_aload_n hx hb dX8_could_4 rfl (lv_at hl 0 rfl) ?_
  refine lv_aload_n hx hb dX8_could_5 rfl (lv_at hl 0 rfl) ?_
  refine va_get (D := (dC, dI)) (ci := 8) (v := .int a0_14) (C := RX8) (T := TX8) (N := 40) hx hb hts zi_X8_could_8 hown hK hP 0 rfl rfl 14 (by decide) (hts (.fieldLink RX8 173 "WaxTurnsModel" "hasGallery" "Z") (zm_X8_could_r1 (List.mem_of_getElem? (i := 0) rfl))) (fun _ h9 => h9) rfl dX8_could_6 ?_
  refine lv_iload_n hx hb dX8_could_9 rfl (lv_at hl 1 rfl) ?_
  refine lv_iconst (v := 0) hx hb dX8_could_10 zk_iconst_0 ?_
  refine lv_sipush (v := 999) hx hb dX8_could_11 zk_sipush_999 ?_
  refine va_calli (va_runS (As := [.int a1, .int 0, .int 999]) (rest := [.int a0_14, .ref a0]) ⟨hx, hb, hml, hown, hts⟩ (c_X8_in l dC dI H.size a1 0 999 ) (va_cwS 3 hts gX8_could_X8_in rfl rfl rfl zd_X8_in.2 ⟨Nat.le_of_ble_eq_true rfl, Nat.le_of_ble_eq_true rfl⟩) ⟨ax_blind (fun _ _ _ _ _ => trivial), ax_pre (zp_P0 hP) (zp_K hK) (zp_D0 hD) (fun _ _ => trivial)⟩ rfl rfl hl.1 rfl (lv_room (Nat.le_of_ble_eq_true rfl)) dX8_could_14 ⟨Nat.le_of_ble_eq_true rfl, Nat.le_of_ble_eq_true rfl⟩) hS (fun q _ h => zp_F0 hD hS hA q h) (zp_F0 hD hS hA) (fun r14 u t H locs ht hvm hw hB hz1 hk1 hS1 => zo0 hB ht hP hD hk1 (zp_F0 hD hS hA) hS1 (fun hP hK1 hD hS => ?_))
  rcases hw with hw | hw
  · obtain ⟨hw, h14⟩ := hw
    subst hw
    have l14k0_a1 : (0 : Int) ≤ a1.toInt := Int.le_trans zq5 h14.1
    have u14k0_a1 : a1.toInt ≤ (999 : Int) := Int.le_trans h14.2 zq79
    refine va_calli (va_runV (As := [.int a0_14, .int 1]) (rest := []) ⟨hx, hb, hml, hown, hts⟩ (c_X8_whyB l dC dI H.size a0 a0_14 1 (Value.int v1na0_0) a0g_1 a0g_2 a0g_3 a0g_4 a0g_5 a0g_6 a0g_7 a0g_8 a0g_9 a0g_10 (Value.int v1na0_11) a0g_12 a0g_13 (Value.int a0_14) a0g_15 a0g_16 a0g_17 a0g_18 a0g_19 a0g_20 a0g_21 a0g_22 a0g_23 a0g_24 a0g_25 a0g_26 a0g_27 a0g_28 a0g_29 a0g_30 a0g_31 a0g_32 a0g_33 a0g_34 a0g_35 a0g_36 a0g_37 a0g_38 a0g_39 ba0_14_l (Int.le_trans ba0_14_u zq4) (Int.le_trans zq4 zq1) zq0) (cwV 2 hts gX8_could_X8_why rfl rfl rfl zd_X8_why ⟨Nat.le_of_ble_eq_true rfl, Nat.le_of_ble_eq_true rfl⟩) ⟨ax_blind (fun _ _ _ _ _ => trivial), zr_8 (zp_K hK) (zp_P1 hP) (q0 := 0) rfl, ax_pre (zp_P1 hP) (zp_K hK) (zp_D1 hD) (fun _ _ => trivial)⟩ rfl rfl hl.1 rfl (lv_room (Nat.le_of_ble_eq_true rfl)) dX8_could_17 ⟨Nat.le_of_ble_eq_true rfl, Nat.le_of_ble_eq_true rfl⟩) hS (fun q _ h => zp_F1 hD hS hA q h) (zp_F1 hD hS hA) (fun r17 u t H locs ht hvm hw hB hz1 hk1 hS1 => zo1 hB ht hP hD hk1 (zp_F1 hD hS hA) hS1 (fun hP hK1 hD hS => ?_))
    rcases hw with hw | hw | hw
    · obtain ⟨hw, h17_0, h17_1, h17_2, h17_3⟩ := hw
      subst hw
      have l17k0_a0_14 : (1 : Int) ≤ a0_14.toInt := h17_0
      have u17k0_a0_14 : a0_14.toInt ≤ (0 : Int) := ba0_14_u
      exact absurd (Int.le_trans l17k0_a0_14 u17k0_a0_14) (by decide)
    · obtain ⟨hw, h17_0, h17_1⟩ := hw
      subst hw
      have l17k1_a0_14 : (0 : Int) ≤ a0_14.toInt := ba0_14_l
      have u17k1_a0_14 : a0_14.toInt ≤ (0 : Int) := ba0_14_u
      refine lv_istore_n (lv' := [(2, .int 1), (0, .ref a0), (1, .int a1)]) hx hb dX8_could_20 rfl hl (by decide) rfl (fun ls hl => ?_)
      refine lv_iload_n hx hb dX8_could_21 rfl (lv_at hl 0 rfl) ?_
      refine lv_if_eq (tgt := 31) hx hb dX8_could_22 (by decide) (fun c22 => absurd c22 (by decide +kernel)) (fun _ => ?_)
      refine lv_aload_n hx hb dX8_could_25 rfl (lv_at hl 1 rfl) ?_
      refine lv_iload_n hx hb dX8_could_26 rfl (lv_at hl 0 rfl) ?_
      refine va_calli (va_runV (As := [.int 1]) (rest := []) ⟨hx, hb, hml, hown, hts⟩ (c_X8_no l dC dI H.size a0 1 (Value.int v1na0_0) a0g_1 a0g_2 a0g_3 a0g_4 a0g_5 a0g_6 a0g_7 a0g_8 a0g_9 a0g_10 a0g_12 a0g_13 (Value.int a0_14) a0g_15 a0g_16 a0g_17 a0g_18 a0g_19 a0g_20 a0g_21 a0g_22 a0g_23 a0g_24 a0g_25 a0g_26 a0g_27 a0g_28 a0g_29 a0g_30 a0g_31 a0g_32 a0g_33 a0g_34 a0g_35 a0g_36 a0g_37 a0g_38 a0g_39 v1na0_11 ) (cwV 1 hts gX8_could_X8_no rfl rfl rfl zd_X8_no ⟨Nat.le_of_ble_eq_true rfl, Nat.le_of_ble_eq_true rfl⟩) ⟨ax_blind (fun _ _ _ _ _ => trivial), zr_8 (zp_K hK) (zp_P1 hP) (q0 := 0) rfl, ax_pre (zp_P1 hP) (zp_K hK) (zp_D1 hD) (fun _ _ => trivial)⟩ rfl rfl hl.1 rfl (lv_room (Nat.le_of_ble_eq_true rfl)) dX8_could_27 ⟨Nat.le_of_ble_eq_true rfl, Nat.le_of_ble_eq_true rfl⟩) hS (fun q _ h => zp_F1 hD hS hA q h) (zp_F1 hD hS hA) (fun r27 u t H locs ht hvm hw => zx_1 (fun v27na0_11 hB hz1 hk1 hS1 => zo1 hB ht hP hD hk1 (zp_F1 hD hS hA) hS1 (fun hP hK1 hD hS => ?_)))
      have hw : r27 = (-1) := hw
      have hw := hw.symm
      subst hw
      exact W.iret (v := (-1)) hx hb hr (fun t ht hW => ⟨⟨(-1), (), rfl, rfl, v1na0_0, v27na0_11, by rw [ht]; exact hP, va_K.moved hW.alike hK, hD⟩, hS.F ht⟩) hS.2.2 dX8_could_30
    · obtain ⟨hw, h17_0, h17_1, h17_2, h17_3⟩ := hw
      subst hw
      have l17k2_a0_14 : (1 : Int) ≤ a0_14.toInt := h17_0
      have u17k2_a0_14 : a0_14.toInt ≤ (0 : Int) := ba0_14_u
      exact absurd (Int.le_trans l17k2_a0_14 u17k2_a0_14) (by decide)
  · obtain ⟨hw, h14⟩ := hw
    subst hw
    refine va_calli (va_runV (As := [.int a0_14, .int 0]) (rest := []) ⟨hx, hb, hml, hown, hts⟩ (c_X8_whyB l dC dI H.size a0 a0_14 0 (Value.int v1na0_0) a0g_1 a0g_2 a0g_3 a0g_4 a0g_5 a0g_6 a0g_7 a0g_8 a0g_9 a0g_10 (Value.int v1na0_11) a0g_12 a0g_13 (Value.int a0_14) a0g_15 a0g_16 a0g_17 a0g_18 a0g_19 a0g_20 a0g_21 a0g_22 a0g_23 a0g_24 a0g_25 a0g_26 a0g_27 a0g_28 a0g_29 a0g_30 a0g_31 a0g_32 a0g_33 a0g_34 a0g_35 a0g_36 a0g_37 a0g_38 a0g_39 ba0_14_l (Int.le_trans ba0_14_u zq4) zq5 (Int.le_trans zq6 zq4)) (cwV 2 hts gX8_could_X8_why rfl rfl rfl zd_X8_why ⟨Nat.le_of_ble_eq_true rfl, Nat.le_of_ble_eq_true rfl⟩) ⟨ax_blind (fun _ _ _ _ _ => trivial), zr_8 (zp_K hK) (zp_P1 hP) (q0 := 0) rfl, ax_pre (zp_P1 hP) (zp_K hK) (zp_D1 hD) (fun _ _ => trivial)⟩ rfl rfl hl.1 rfl (lv_room (Nat.le_of_ble_eq_true rfl)) dX8_could_17 ⟨Nat.le_of_ble_eq_true rfl, Nat.le_of_ble_eq_true rfl⟩) hS (fun q _ h => zp_F1 hD hS hA q h) (zp_F1 hD hS hA) (fun r17 u t H locs ht hvm hw hB hz1 hk1 hS1 => zo1 hB ht hP hD hk1 (zp_F1 hD hS hA) hS1 (fun hP hK1 hD hS => ?_))
    rcases hw with hw | hw | hw
    · obtain ⟨hw, h17_0, h17_1, h17_2, h17_3⟩ := hw
      subst hw
      have l17k0_a0_14 : (1 : Int) ≤ a0_14.toInt := h17_0
      have u17k0_a0_14 : a0_14.toInt ≤ (0 : Int) := ba0_14_u
      exact absurd (Int.le_trans l17k0_a0_14 u17k0_a0_14) (by decide)
    · obtain ⟨hw, h17_0, h17_1⟩ := hw
      subst hw
      have l17k1_a0_14 : (0 : Int) ≤ a0_14.toInt := ba0_14_l
      have u17k1_a0_14 : a0_14.toInt ≤ (0 : Int) := ba0_14_u
      refine lv_istore_n (lv' := [(2, .int 1), (0, .ref a0), (1, .int a1)]) hx hb dX8_could_20 rfl hl (by decide) rfl (fun ls hl => ?_)
      refine lv_iload_n hx hb dX8_could_21 rfl (lv_at hl 0 rfl) ?_
      refine lv_if_eq (tgt := 31) hx hb dX8_could_22 (by decide) (fun c22 => absurd c22 (by decide +kernel)) (fun _ => ?_)
      refine lv_aload_n hx hb dX8_could_25 rfl (lv_at hl 1 rfl) ?_
      refine lv_iload_n hx hb dX8_could_26 rfl (lv_at hl 0 rfl) ?_
      refine va_calli (va_runV (As := [.int 1]) (rest := []) ⟨hx, hb, hml, hown, hts⟩ (c_X8_no l dC dI H.size a0 1 (Value.int v1na0_0) a0g_1 a0g_2 a0g_3 a0g_4 a0g_5 a0g_6 a0g_7 a0g_8 a0g_9 a0g_10 a0g_12 a0g_13 (Value.int a0_14) a0g_15 a0g_16 a0g_17 a0g_18 a0g_19 a0g_20 a0g_21 a0g_22 a0g_23 a0g_24 a0g_25 a0g_26 a0g_27 a0g_28 a0g_29 a0g_30 a0g_31 a0g_32 a0g_33 a0g_34 a0g_35 a0g_36 a0g_37 a0g_38 a0g_39 v1na0_11 ) (cwV 1 hts gX8_could_X8_no rfl rfl rfl zd_X8_no ⟨Nat.le_of_ble_eq_true rfl, Nat.le_of_ble_eq_true rfl⟩) ⟨ax_blind (fun _ _ _ _ _ => trivial), zr_8 (zp_K hK) (zp_P1 hP) (q0 := 0) rfl, ax_pre (zp_P1 hP) (zp_K hK) (zp_D1 hD) (fun _ _ => trivial)⟩ rfl rfl hl.1 rfl (lv_room (Nat.le_of_ble_eq_true rfl)) dX8_could_27 ⟨Nat.le_of_ble_eq_true rfl, Nat.le_of_ble_eq_true rfl⟩) hS (fun q _ h => zp_F1 hD hS hA q h) (zp_F1 hD hS hA) (fun r27 u t H locs ht hvm hw => zx_1 (fun v27na0_11 hB hz1 hk1 hS1 => zo1 hB ht hP hD hk1 (zp_F1 hD hS hA) hS1 (fun hP hK1 hD hS => ?_)))
      have hw : r27 = (-1) := hw
      have hw := hw.symm
      subst hw
      exact W.iret (v := (-1)) hx hb hr (fun t ht hW => ⟨⟨(-1), (), rfl, rfl, v1na0_0, v27na0_11, by rw [ht]; exact hP, va_K.moved hW.alike hK, hD⟩, hS.F ht⟩) hS.2.2 dX8_could_30
    · obtain ⟨hw, h17_0, h17_1, h17_2, h17_3⟩ := hw
      subst hw
      have l17k2_a0_14 : (1 : Int) ≤ a0_14.toInt := h17_0
      have u17k2_a0_14 : a0_14.toInt ≤ (0 : Int) := ba0_14_u
      exact absurd (Int.le_trans l17k2_a0_14 u17k2_a0_14) (by decide)

set_option maxHeartbeats 4000000 in
set_option maxRecDepth 100000 in
theorem c0_X8_aliveBy (l : Launch) (dC : Nat → ClassId) (dI : Nat → Nat → Nat) (sz : Nat) (a0 : Nat) (a1 : Int32) (a2 : Int32) (a0_0 : Int32) (a0g_1 a0g_2 a0g_3 a0g_4 a0g_5 a0g_6 a0g_7 a0g_8 a0g_9 a0g_10 a0g_12 a0g_13 a0g_15 a0g_16 a0g_17 a0g_18 a0g_19 a0g_20 a0g_21 a0g_22 a0g_23 a0g_24 a0g_25 a0g_26 a0g_27 a0g_28 a0g_29 a0g_30 a0g_31 a0g_32 a0g_33 a0g_34 a0g_35 a0g_36 a0g_37 a0g_38 a0g_39 : Value) (a0_11 : Int32) (a0_14 : Int32) (ba0_14_l : (0 : Int) ≤ a0_14.toInt) (ba0_14_u : a0_14.toInt ≤ (0 : Int)) : zm l yX8_aliveBy wsX8_aliveBy ({ frames := 1, cells := 0, slots := 0, locals := 22 }) [.ref a0, .int a1, .int a2] dC dI sz [(a0, .inr (8, [Value.int a0_0, a0g_1, a0g_2, a0g_3, a0g_4, a0g_5, a0g_6, a0g_7, a0g_8, a0g_9, a0g_10, Value.int a0_11, a0g_12, a0g_13, Value.int a0_14, a0g_15, a0g_16, a0g_17, a0g_18, a0g_19, a0g_20, a0g_21, a0g_22, a0g_23, a0g_24, a0g_25, a0g_26, a0g_27, a0g_28, a0g_29, a0g_30, a0g_31, a0g_32, a0g_33, a0g_34, a0g_35, a0g_36, a0g_37, a0g_38, a0g_39]))] [] (fun A _ => True) (fun A => va_Qi (fun (r : Int32) (_ : Unit) => r = (-1)) (fun (_ : Unit) (t : State) => ∃ na0_0 : Int32, ∃ na0_11 : Int32, ax_B dC dI A [(a0, .inr (8, [Value.int na0_0, a0g_1, a0g_2, a0g_3, a0g_4, a0g_5, a0g_6, a0g_7, a0g_8, a0g_9, a0g_10, Value.int na0_11, a0g_12, a0g_13, Value.int a0_14, a0g_15, a0g_16, a0g_17, a0g_18, a0g_19, a0g_20, a0g_21, a0g_22, a0g_23, a0g_24, a0g_25, a0g_26, a0g_27, a0g_28, a0g_29, a0g_30, a0g_31, a0g_32, a0g_33, a0g_34, a0g_35, a0g_36, a0g_37, a0g_38, a0g_39]))] [] t) A) := by
  refine zh (cc := cX8_aliveBy) (maxL := 4) (ret := (some .int)) zn_RX8 rfl (Nat.le_of_ble_eq_true rfl) (fun p e s m below meth c A ls hx hb hml hr hts (hown : s.vm.findClass RX8 = some m.cls) hlocks hA hS hP hK hD hE (hl : lv_has ls 4 [(0, .ref a0), (1, .int a1), (2, .int a2)]) => ?_)
  refine lv_aload_n hx hb dX8_aliveBy_0 rfl (lv_at hl 0 rfl) ?_
  refine va_callv (va_runV (As := []) (rest := []) ⟨hx, hb, hml, hown, hts⟩ (c_X8_good l dC dI s.heap.size a0 a0_0 a0g_1 a0g_2 a0g_3 a0g_4 a0g_5 a0g_6 a0g_7 a0g_8 a0g_9 a0g_10 a0g_12 a0g_13 (Value.int a0_14) a0g_15 a0g_16 a0g_17 a0g_18 a0g_19 a0g_20 a0g_21 a0g_22 a0g_23 a0g_24 a0g_25 a0g_26 a0g_27 a0g_28 a0g_29 a0g_30 a0g_31 a0g_32 a0g_33 a0g_34 a0g_35 a0g_36 a0g_37 a0g_38 a0g_39 a0_11 ) (cwV 0 hts gX8_aliveBy_X8_good rfl rfl rfl zd_X8_good ⟨Nat.le_of_ble_eq_true rfl, Nat.le_of_ble_eq_true rfl⟩) ⟨ax_blind (fun _ _ _ _ _ => trivial), zr_8 (zp_K hK) (zp_P1 hP) (q0 := 0) rfl, ax_pre (zp_P1 hP) (zp_K hK) (zp_D1 hD) (fun _ _ => trivial)⟩ rfl rfl hl.1 rfl (lv_room (Nat.le_of_ble_eq_true rfl)) dX8_aliveBy_1 ⟨Nat.le_of_ble_eq_true rfl, Nat.le_of_ble_eq_true rfl⟩) hS (fun q _ h => zp_F1 hD hS hA q h) (zp_F1 hD hS hA) (fun u t H locs ht hvm hw => zx_2 (fun v1na0_0 v1na0_11 hB hz1 hk1 hS1 => zo1 hB ht hP hD hk1 (zp_F1 hD hS hA) hS1 (fun hP hK1 hD hS => ?_)))
  refine lv_aload_n hx hb dX8_aliveBy_4 rfl (lv_at hl 0 rfl) ?_
  refine lv_aload_n hx hb dX8_aliveBy_5 rfl (lv_at hl 0 rfl) ?_
  refine lv_iload_n hx hb dX8_aliveBy_6 rfl (lv_at hl 1 rfl) ?_
  refine va_calli (va_runV (As := [.int a1]) (rest := [.ref a0]) ⟨hx, hb, hml, hown, hts⟩ (c0_X8_isFigure l dC dI H.size a0 a1 (Value.int v1na0_0) a0g_1 a0g_2 a0g_3 a0g_4 a0g_5 a0g_6 a0g_7 a0g_8 a0g_9 a0g_10 (Value.int v1na0_11) a0g_12 a0g_13 a0g_15 a0g_16 a0g_17 a0g_18 a0g_19 a0g_20 a0g_21 a0g_22 a0g_23 a0g_24 a0g_25 a0g_26 a0g_27 a0g_28 a0g_29 a0g_30 a0g_31 a0g_32 a0g_33 a0g_34 a0g_35 a0g_36 a0g_37 a0g_38 a0g_39 a0_14 ba0_14_l ba0_14_u) (cwV 1 hts gX8_aliveBy_X8_isFigure rfl rfl rfl zd_X8_isFigure ⟨Nat.le_of_ble_eq_true rfl, Nat.le_of_ble_eq_true rfl⟩) ⟨ax_blind (fun _ _ _ _ _ => trivial), zr_8 (zp_K hK) (zp_P1 hP) (q0 := 0) rfl, ax_pre (zp_P1 hP) (zp_K hK) (zp_D1 hD) (fun _ _ => trivial)⟩ rfl rfl hl.1 rfl (lv_room (Nat.le_of_ble_eq_true rfl)) dX8_aliveBy_7 ⟨Nat.le_of_ble_eq_true rfl, Nat.le_of_ble_eq_true rfl⟩) hS (fun q _ h => zp_F1 hD hS hA q h) (zp_F1 hD hS hA) (fun r7 u t H locs ht hvm hw hB hz1 hk1 hS1 => zo1 hB ht hP hD hk1 (zp_F1 hD hS hA) hS1 (fun hP hK1 hD hS => ?_))
  have hw : r7 = 0 := hw
  have hw := hw.symm
  subst hw
  refine lv_iload_n hx hb dX8_aliveBy_10 rfl (lv_at hl 2 rfl) ?_
  refine lv_iconst (v := 0) hx hb dX8_aliveBy_11 zk_iconst_0 ?_
  refine lv_sipush (v := 999) hx hb dX8_aliveBy_12 zk_sipush_999 ?_
  refine va_calli (va_runS (As := [.int a2, .int 0, .int 999]) (rest := [.int 0, .ref a0]) ⟨hx, hb, hml, hown, hts⟩ (c_X8_in l dC dI H.size a2 0 999 ) (va_cwS 3 hts gX8_aliveBy_X8_in rfl rfl rfl zd_X8_in.2 ⟨Nat.le_of_ble_eq_true rfl, Nat.le_of_ble_eq_true rfl⟩) ⟨ax_blind (fun _ _ _ _ _ => trivial), ax_pre (zp_P0 hP) (zp_K hK) (zp_D0 hD) (fun _ _ => trivial)⟩ rfl rfl hl.1 rfl (lv_room (Nat.le_of_ble_eq_true rfl)) dX8_aliveBy_15 ⟨Nat.le_of_ble_eq_true rfl, Nat.le_of_ble_eq_true rfl⟩) hS (fun q _ h => zp_F0 hD hS hA q h) (zp_F0 hD hS hA) (fun r15 u t H locs ht hvm hw hB hz1 hk1 hS1 => zo0 hB ht hP hD hk1 (zp_F0 hD hS hA) hS1 (fun hP hK1 hD hS => ?_))
  rcases hw with hw | hw
  · obtain ⟨hw, h15⟩ := hw
    subst hw
    have l15k0_a2 : (0 : Int) ≤ a2.toInt := Int.le_trans zq5 h15.1
    have u15k0_a2 : a2.toInt ≤ (999 : Int) := Int.le_trans h15.2 zq79
    refine va_calli (va_runV (As := [.int 0, .int 1]) (rest := []) ⟨hx, hb, hml, hown, hts⟩ (c_X8_whyB l dC dI H.size a0 0 1 (Value.int v1na0_0) a0g_1 a0g_2 a0g_3 a0g_4 a0g_5 a0g_6 a0g_7 a0g_8 a0g_9 a0g_10 (Value.int v1na0_11) a0g_12 a0g_13 (Value.int a0_14) a0g_15 a0g_16 a0g_17 a0g_18 a0g_19 a0g_20 a0g_21 a0g_22 a0g_23 a0g_24 a0g_25 a0g_26 a0g_27 a0g_28 a0g_29 a0g_30 a0g_31 a0g_32 a0g_33 a0g_34 a0g_35 a0g_36 a0g_37 a0g_38 a0g_39 zq5 (Int.le_trans zq6 zq4) (Int.le_trans zq4 zq1) zq0) (cwV 2 hts gX8_aliveBy_X8_why rfl rfl rfl zd_X8_why ⟨Nat.le_of_ble_eq_true rfl, Nat.le_of_ble_eq_true rfl⟩) ⟨ax_blind (fun _ _ _ _ _ => trivial), zr_8 (zp_K hK) (zp_P1 hP) (q0 := 0) rfl, ax_pre (zp_P1 hP) (zp_K hK) (zp_D1 hD) (fun _ _ => trivial)⟩ rfl rfl hl.1 rfl (lv_room (Nat.le_of_ble_eq_true rfl)) dX8_aliveBy_18 ⟨Nat.le_of_ble_eq_true rfl, Nat.le_of_ble_eq_true rfl⟩) hS (fun q _ h => zp_F1 hD hS hA q h) (zp_F1 hD hS hA) (fun r18 u t H locs ht hvm hw hB hz1 hk1 hS1 => zo1 hB ht hP hD hk1 (zp_F1 hD hS hA) hS1 (fun hP hK1 hD hS => ?_))
    rcases hw with hw | hw | hw
    · obtain ⟨hw, h18_0, h18_1, h18_2, h18_3⟩ := hw
      subst hw
      exact absurd h18_0 (by decide)
    · obtain ⟨hw, h18_0, h18_1⟩ := hw
      subst hw
      refine lv_istore_n (lv' := [(3, .int 1), (0, .ref a0), (1, .int a1), (2, .int a2)]) hx hb dX8_aliveBy_21 rfl hl (by decide) rfl (fun ls hl => ?_)
      refine lv_iload_n hx hb dX8_aliveBy_22 rfl (lv_at hl 0 rfl) ?_
      refine lv_if_eq (tgt := 32) hx hb dX8_aliveBy_23 (by decide) (fun c23 => absurd c23 (by decide +kernel)) (fun _ => ?_)
      refine lv_aload_n hx hb dX8_aliveBy_26 rfl (lv_at hl 1 rfl) ?_
      refine lv_iload_n hx hb dX8_aliveBy_27 rfl (lv_at hl 0 rfl) ?_
      refine va_calli (va_runV (As := [.int 1]) (rest := []) ⟨hx, hb, hml, hown, hts⟩ (c_X8_no l dC dI H.size a0 1 (Value.int v1na0_0) a0g_1 a0g_2 a0g_3 a0g_4 a0g_5 a0g_6 a0g_7 a0g_8 a0g_9 a0g_10 a0g_12 a0g_13 (Value.int a0_14) a0g_15 a0g_16 a0g_17 a0g_18 a0g_19 a0g_20 a0g_21 a0g_22 a0g_23 a0g_24 a0g_25 a0g_26 a0g_27 a0g_28 a0g_29 a0g_30 a0g_31 a0g_32 a0g_33 a0g_34 a0g_35 a0g_36 a0g_37 a0g_38 a0g_39 v1na0_11 ) (cwV 1 hts gX8_aliveBy_X8_no rfl rfl rfl zd_X8_no ⟨Nat.le_of_ble_eq_true rfl, Nat.le_of_ble_eq_true rfl⟩) ⟨ax_blind (fun _ _ _ _ _ => trivial), zr_8 (zp_K hK) (zp_P1 hP) (q0 := 0) rfl, ax_pre (zp_P1 hP) (zp_K hK) (zp_D1 hD) (fun _ _ => trivial)⟩ rfl rfl hl.1 rfl (lv_room (Nat.le_of_ble_eq_true rfl)) dX8_aliveBy_28 ⟨Nat.le_of_ble_eq_true rfl, Nat.le_of_ble_eq_true rfl⟩) hS (fun q _ h => zp_F1 hD hS hA q h) (zp_F1 hD hS hA) (fun r28 u t H locs ht hvm hw => zx_1 (fun v28na0_11 hB hz1 hk1 hS1 => zo1 hB ht hP hD hk1 (zp_F1 hD hS hA) hS1 (fun hP hK1 hD hS => ?_)))
      have hw : r28 = (-1) := hw
      have hw := hw.symm
      subst hw
      exact W.iret (v := (-1)) hx hb hr (fun t ht hW => ⟨⟨(-1), (), rfl, rfl, v1na0_0, v28na0_11, by rw [ht]; exact hP, va_K.moved hW.alike hK, hD⟩, hS.F ht⟩) hS.2.2 dX8_aliveBy_31
    · obtain ⟨hw, h18_0, h18_1, h18_2, h18_3⟩ := hw
      subst hw
      exact absurd h18_0 (by decide)
  · obtain ⟨hw, h15⟩ := hw
    subst hw
    refine va_calli (va_runV (As := [.int 0, .int 0]) (rest := []) ⟨hx, hb, hml, hown, hts⟩ (c_X8_whyB l dC dI H.size a0 0 0 (Value.int v1na0_0) a0g_1 a0g_2 a0g_3 a0g_4 a0g_5 a0g_6 a0g_7 a0g_8 a0g_9 a0g_10 (Value.int v1na0_11) a0g_12 a0g_13 (Value.int a0_14) a0g_15 a0g_16 a0g_17 a0g_18 a0g_19 a0g_20 a0g_21 a0g_22 a0g_23 a0g_24 a0g_25 a0g_26 a0g_27 a0g_28 a0g_29 a0g_30 a0g_31 a0g_32 a0g_33 a0g_34 a0g_35 a0g_36 a0g_37 a0g_38 a0g_39 zq5 (Int.le_trans zq6 zq4) zq5 (Int.le_trans zq6 zq4)) (cwV 2 hts gX8_aliveBy_X8_why rfl rfl rfl zd_X8_why ⟨Nat.le_of_ble_eq_true rfl, Nat.le_of_ble_eq_true rfl⟩) ⟨ax_blind (fun _ _ _ _ _ => trivial), zr_8 (zp_K hK) (zp_P1 hP) (q0 := 0) rfl, ax_pre (zp_P1 hP) (zp_K hK) (zp_D1 hD) (fun _ _ => trivial)⟩ rfl rfl hl.1 rfl (lv_room (Nat.le_of_ble_eq_true rfl)) dX8_aliveBy_18 ⟨Nat.le_of_ble_eq_true rfl, Nat.le_of_ble_eq_true rfl⟩) hS (fun q _ h => zp_F1 hD hS hA q h) (zp_F1 hD hS hA) (fun r18 u t H locs ht hvm hw hB hz1 hk1 hS1 => zo1 hB ht hP hD hk1 (zp_F1 hD hS hA) hS1 (fun hP hK1 hD hS => ?_))
    rcases hw with hw | hw | hw
    · obtain ⟨hw, h18_0, h18_1, h18_2, h18_3⟩ := hw
      subst hw
      exact absurd h18_0 (by decide)
    · obtain ⟨hw, h18_0, h18_1⟩ := hw
      subst hw
      refine lv_istore_n (lv' := [(3, .int 1), (0, .ref a0), (1, .int a1), (2, .int a2)]) hx hb dX8_aliveBy_21 rfl hl (by decide) rfl (fun ls hl => ?_)
      refine lv_iload_n hx hb dX8_aliveBy_22 rfl (lv_at hl 0 rfl) ?_
      refine lv_if_eq (tgt := 32) hx hb dX8_aliveBy_23 (by decide) (fun c23 => absurd c23 (by decide +kernel)) (fun _ => ?_)
      refine lv_aload_n hx hb dX8_aliveBy_26 rfl (lv_at hl 1 rfl) ?_
      refine lv_iload_n hx hb dX8_aliveBy_27 rfl (lv_at hl 0 rfl) ?_
      refine va_calli (va_runV (As := [.int 1]) (rest := []) ⟨hx, hb, hml, hown, hts⟩ (c_X8_no l dC dI H.size a0 1 (Value.int v1na0_0) a0g_1 a0g_2 a0g_3 a0g_4 a0g_5 a0g_6 a0g_7 a0g_8 a0g_9 a0g_10 a0g_12 a0g_13 (Value.int a0_14) a0g_15 a0g_16 a0g_17 a0g_18 a0g_19 a0g_20 a0g_21 a0g_22 a0g_23 a0g_24 a0g_25 a0g_26 a0g_27 a0g_28 a0g_29 a0g_30 a0g_31 a0g_32 a0g_33 a0g_34 a0g_35 a0g_36 a0g_37 a0g_38 a0g_39 v1na0_11 ) (cwV 1 hts gX8_aliveBy_X8_no rfl rfl rfl zd_X8_no ⟨Nat.le_of_ble_eq_true rfl, Nat.le_of_ble_eq_true rfl⟩) ⟨ax_blind (fun _ _ _ _ _ => trivial), zr_8 (zp_K hK) (zp_P1 hP) (q0 := 0) rfl, ax_pre (zp_P1 hP) (zp_K hK) (zp_D1 hD) (fun _ _ => trivial)⟩ rfl rfl hl.1 rfl (lv_room (Nat.le_of_ble_eq_true rfl)) dX8_aliveBy_28 ⟨Nat.le_of_ble_eq_true rfl, Nat.le_of_ble_eq_true rfl⟩) hS (fun q _ h => zp_F1 hD hS hA q h) (zp_F1 hD hS hA) (fun r28 u t H locs ht hvm hw => zx_1 (fun v28na0_11 hB hz1 hk1 hS1 => zo1 hB ht hP hD hk1 (zp_F1 hD hS hA) hS1 (fun hP hK1 hD hS => ?_)))
      have hw : r28 = (-1) := hw
      have hw := hw.symm
      subst hw
      exact W.iret (v := (-1)) hx hb hr (fun t ht hW => ⟨⟨(-1), (), rfl, rfl, v1na0_0, v28na0_11, by rw [ht]; exact hP, va_K.moved hW.alike hK, hD⟩, hS.F ht⟩) hS.2.2 dX8_aliveBy_31
    · obtain ⟨hw, h18_0, h18_1, h18_2, h18_3⟩ := hw
      subst hw
      exact absurd h18_0 (by decide)

set_option maxHeartbeats 4000000 in
set_option maxRecDepth 100000 in
theorem c0_X8_look (l : Launch) (dC : Nat → ClassId) (dI : Nat → Nat → Nat) (sz : Nat) (a0 : Nat) (a0_0 : Int32) (a0g_1 a0g_2 a0g_3 a0g_4 a0g_5 a0g_6 a0g_7 a0g_8 a0g_9 a0g_10 a0g_12 a0g_13 a0g_15 a0g_16 a0g_17 a0g_18 a0g_19 a0g_20 a0g_21 a0g_22 a0g_23 a0g_24 a0g_25 a0g_26 a0g_27 a0g_28 a0g_29 a0g_30 a0g_31 a0g_32 a0g_33 a0g_34 a0g_35 a0g_36 a0g_37 a0g_38 a0g_39 : Value) (a0_11 : Int32) (a0_14 : Int32) (ba0_14_l : (0 : Int) ≤ a0_14.toInt) (ba0_14_u : a0_14.toInt ≤ (0 : Int)) : zm l yX8_look wsX8_look ({ frames := 1, cells := 0, slots := 0, locals := 21 }) [.ref a0] dC dI sz [(a0, .inr (8, [Value.int a0_0, a0g_1, a0g_2, a0g_3, a0g_4, a0g_5, a0g_6, a0g_7, a0g_8, a0g_9, a0g_10, Value.int a0_11, a0g_12, a0g_13, Value.int a0_14, a0g_15, a0g_16, a0g_17, a0g_18, a0g_19, a0g_20, a0g_21, a0g_22, a0g_23, a0g_24, a0g_25, a0g_26, a0g_27, a0g_28, a0g_29, a0g_30, a0g_31, a0g_32, a0g_33, a0g_34, a0g_35, a0g_36, a0g_37, a0g_38, a0g_39]))] [] (fun A _ => True) (fun A => va_Qi (fun (r : Int32) (_ : Unit) => r = (-1)) (fun (_ : Unit) (t : State) => ∃ na0_0 : Int32, ∃ na0_11 : Int32, ax_B dC dI A [(a0, .inr (8, [Value.int na0_0, a0g_1, a0g_2, a0g_3, a0g_4, a0g_5, a0g_6, a0g_7, a0g_8, a0g_9, a0g_10, Value.int na0_11, a0g_12, a0g_13, Value.int a0_14, a0g_15, a0g_16, a0g_17, a0g_18, a0g_19, a0g_20, a0g_21, a0g_22, a0g_23, a0g_24, a0g_25, a0g_26, a0g_27, a0g_28, a0g_29, a0g_30, a0g_31, a0g_32, a0g_33, a0g_34, a0g_35, a0g_36, a0g_37, a0g_38, a0g_39]))] [] t) A) := by
  refine zh (cc := cX8_look) (maxL := 1) (ret := (some .int)) zn_RX8 rfl (Nat.le_of_ble_eq_true rfl) (fun p e s m below meth c A ls hx hb hml hr hts (hown : s.vm.findClass RX8 = some m.cls) hlocks hA hS hP hK hD hE (hl : lv_has ls 1 [(0, .ref a0)]) => ?_)
  refine lv_aload_n hx hb dX8_look_0 rfl (lv_at hl 0 rfl) ?_
  refine va_callv (va_runV (As := []) (rest := []) ⟨hx, hb, hml, hown, hts⟩ (c_X8_good l dC dI s.heap.size a0 a0_0 a0g_1 a0g_2 a0g_3 a0g_4 a0g_5 a0g_6 a0g_7 a0g_8 a0g_9 a0g_10 a0g_12 a0g_13 (Value.int a0_14) a0g_15 a0g_16 a0g_17 a0g_18 a0g_19 a0g_20 a0g_21 a0g_22 a0g_23 a0g_24 a0g_25 a0g_26 a0g_27 a0g_28 a0g_29 a0g_30 a0g_31 a0g_32 a0g_33 a0g_34 a0g_35 a0g_36 a0g_37 a0g_38 a0g_39 a0_11 ) (cwV 0 hts gX8_look_X8_good rfl rfl rfl zd_X8_good ⟨Nat.le_of_ble_eq_true rfl, Nat.le_of_ble_eq_true rfl⟩) ⟨ax_blind (fun _ _ _ _ _ => trivial), zr_8 (zp_K hK) (zp_P1 hP) (q0 := 0) rfl, ax_pre (zp_P1 hP) (zp_K hK) (zp_D1 hD) (fun _ _ => trivial)⟩ rfl rfl hl.1 rfl (lv_room (Nat.le_of_ble_eq_true rfl)) dX8_look_1 ⟨Nat.le_of_ble_eq_true rfl, Nat.le_of_ble_eq_true rfl⟩) hS (fun q _ h => zp_F1 hD hS hA q h) (zp_F1 hD hS hA) (fun u t H locs ht hvm hw => zx_2 (fun v1na0_0 v1na0_11 hB hz1 hk1 hS1 => zo1 hB ht hP hD hk1 (zp_F1 hD hS hA) hS1 (fun hP hK1 hD hS => ?_)))
  refine lv_aload_n hx hb dX8_look_4 rfl (lv_at hl 0 rfl) ?_
  refine va_get (D := (dC, dI)) (ci := 8) (v := .int a0_14) (C := RX8) (T := TX8) (N := 40) hx hb hts zi_X8_look_8 hown hK hP 0 rfl rfl 14 (by decide) (hts (.fieldLink RX8 173 "WaxTurnsModel" "hasGallery" "Z") (zm_X8_look_r1 (List.mem_of_getElem? (i := 0) rfl))) (fun _ h9 => h9) rfl dX8_look_5 ?_
  refine lv_if_eq (tgt := 18) hx hb dX8_look_8 (by decide) (fun c8 => ?_) (fun c8 => ?_)
  · have gc8 := ai_eq c8
    have u8t_a0_14 : a0_14.toInt ≤ (0 : Int) := ba0_14_u
    have l8t_a0_14 : (0 : Int) ≤ a0_14.toInt := ba0_14_l
    refine lv_aload_n hx hb dX8_look_18 rfl (lv_at hl 0 rfl) ?_
    refine lv_iconst (v := 1) hx hb dX8_look_19 zk_iconst_1 ?_
    refine va_calli (va_runV (As := [.int 1]) (rest := []) ⟨hx, hb, hml, hown, hts⟩ (c_X8_no l dC dI H.size a0 1 (Value.int v1na0_0) a0g_1 a0g_2 a0g_3 a0g_4 a0g_5 a0g_6 a0g_7 a0g_8 a0g_9 a0g_10 a0g_12 a0g_13 (Value.int a0_14) a0g_15 a0g_16 a0g_17 a0g_18 a0g_19 a0g_20 a0g_21 a0g_22 a0g_23 a0g_24 a0g_25 a0g_26 a0g_27 a0g_28 a0g_29 a0g_30 a0g_31 a0g_32 a0g_33 a0g_34 a0g_35 a0g_36 a0g_37 a0g_38 a0g_39 v1na0_11 ) (cwV 1 hts gX8_look_X8_no rfl rfl rfl zd_X8_no ⟨Nat.le_of_ble_eq_true rfl, Nat.le_of_ble_eq_true rfl⟩) ⟨ax_blind (fun _ _ _ _ _ => trivial), zr_8 (zp_K hK) (zp_P1 hP) (q0 := 0) rfl, ax_pre (zp_P1 hP) (zp_K hK) (zp_D1 hD) (fun _ _ => trivial)⟩ rfl rfl hl.1 rfl (lv_room (Nat.le_of_ble_eq_true rfl)) dX8_look_20 ⟨Nat.le_of_ble_eq_true rfl, Nat.le_of_ble_eq_true rfl⟩) hS (fun q _ h => zp_F1 hD hS hA q h) (zp_F1 hD hS hA) (fun r20 u t H locs ht hvm hw => zx_1 (fun v20na0_11 hB hz1 hk1 hS1 => zo1 hB ht hP hD hk1 (zp_F1 hD hS hA) hS1 (fun hP hK1 hD hS => ?_)))
    have hw : r20 = (-1) := hw
    have hw := hw.symm
    subst hw
    exact W.iret (v := (-1)) hx hb hr (fun t ht hW => ⟨⟨(-1), (), rfl, rfl, v1na0_0, v20na0_11, by rw [ht]; exact hP, va_K.moved hW.alike hK, hD⟩, hS.F ht⟩) hS.2.2 dX8_look_23
  · have gc8 := ai_ne c8
    have l8f_a0_14 : (1 : Int) ≤ a0_14.toInt := (by first | exact zg_l ba0_14_l gc8 (by decide) (by decide) | (have h1 := ba0_14_l; have h2 : (0 : Int32).toInt = 0 := (by decide); rw [h2] at gc8; omega))
    have u8f_a0_14 : a0_14.toInt ≤ (-1 : Int) := (by first | exact zg_u ba0_14_u gc8 (by decide) (by decide) | (have h1 := ba0_14_u; have h2 : (0 : Int32).toInt = 0 := (by decide); rw [h2] at gc8; omega))
    exact absurd (Int.le_trans l8f_a0_14 u8f_a0_14) (by decide)

set_option maxHeartbeats 4000000 in
set_option maxRecDepth 100000 in
theorem c0_X8_lookLeaves (l : Launch) (dC : Nat → ClassId) (dI : Nat → Nat → Nat) (sz : Nat) (a0 : Nat) (a0_0 : Int32) (a0g_1 a0g_2 a0g_3 a0g_4 a0g_5 a0g_6 a0g_7 a0g_8 a0g_9 a0g_10 a0g_12 a0g_13 a0g_15 a0g_16 a0g_17 a0g_18 a0g_19 a0g_20 a0g_21 a0g_22 a0g_23 a0g_24 a0g_25 a0g_26 a0g_27 a0g_28 a0g_29 a0g_30 a0g_31 a0g_32 a0g_33 a0g_34 a0g_35 a0g_36 a0g_37 a0g_38 a0g_39 : Value) (a0_11 : Int32) (a0_14 : Int32) (ba0_14_l : (0 : Int) ≤ a0_14.toInt) (ba0_14_u : a0_14.toInt ≤ (0 : Int)) : zm l yX8_lookLeaves wsX8_lookLeaves ({ frames := 1, cells := 0, slots := 0, locals := 21 }) [.ref a0] dC dI sz [(a0, .inr (8, [Value.int a0_0, a0g_1, a0g_2, a0g_3, a0g_4, a0g_5, a0g_6, a0g_7, a0g_8, a0g_9, a0g_10, Value.int a0_11, a0g_12, a0g_13, Value.int a0_14, a0g_15, a0g_16, a0g_17, a0g_18, a0g_19, a0g_20, a0g_21, a0g_22, a0g_23, a0g_24, a0g_25, a0g_26, a0g_27, a0g_28, a0g_29, a0g_30, a0g_31, a0g_32, a0g_33, a0g_34, a0g_35, a0g_36, a0g_37, a0g_38, a0g_39]))] [] (fun A _ => True) (fun A => va_Qi (fun (r : Int32) (_ : Unit) => r = (-1)) (fun (_ : Unit) (t : State) => ∃ na0_0 : Int32, ∃ na0_11 : Int32, ax_B dC dI A [(a0, .inr (8, [Value.int na0_0, a0g_1, a0g_2, a0g_3, a0g_4, a0g_5, a0g_6, a0g_7, a0g_8, a0g_9, a0g_10, Value.int na0_11, a0g_12, a0g_13, Value.int a0_14, a0g_15, a0g_16, a0g_17, a0g_18, a0g_19, a0g_20, a0g_21, a0g_22, a0g_23, a0g_24, a0g_25, a0g_26, a0g_27, a0g_28, a0g_29, a0g_30, a0g_31, a0g_32, a0g_33, a0g_34, a0g_35, a0g_36, a0g_37, a0g_38, a0g_39]))] [] t) A) := by
  refine zh (cc := cX8_lookLeaves) (maxL := 1) (ret := (some .int)) zn_RX8 rfl (Nat.le_of_ble_eq_true rfl) (fun p e s m below meth c A ls hx hb hml hr hts (hown : s.vm.findClass RX8 = some m.cls) hlocks hA hS hP hK hD hE (hl : lv_has ls 1 [(0, .ref a0)]) => ?_)
  refine lv_aload_n hx hb dX8_lookLeaves_0 rfl (lv_at hl 0 rfl) ?_
  refine va_callv (va_runV (As := []) (rest := []) ⟨hx, hb, hml, hown, hts⟩ (c_X8_good l dC dI s.heap.size a0 a0_0 a0g_1 a0g_2 a0g_3 a0g_4 a0g_5 a0g_6 a0g_7 a0g_8 a0g_9 a0g_10 a0g_12 a0g_13 (Value.int a0_14) a0g_15 a0g_16 a0g_17 a0g_18 a0g_19 a0g_20 a0g_21 a0g_22 a0g_23 a0g_24 a0g_25 a0g_26 a0g_27 a0g_28 a0g_29 a0g_30 a0g_31 a0g_32 a0g_33 a0g_34 a0g_35 a0g_36 a0g_37 a0g_38 a0g_39 a0_11 ) (cwV 0 hts gX8_lookLeaves_X8_good rfl rfl rfl zd_X8_good ⟨Nat.le_of_ble_eq_true rfl, Nat.le_of_ble_eq_true rfl⟩) ⟨ax_blind (fun _ _ _ _ _ => trivial), zr_8 (zp_K hK) (zp_P1 hP) (q0 := 0) rfl, ax_pre (zp_P1 hP) (zp_K hK) (zp_D1 hD) (fun _ _ => trivial)⟩ rfl rfl hl.1 rfl (lv_room (Nat.le_of_ble_eq_true rfl)) dX8_lookLeaves_1 ⟨Nat.le_of_ble_eq_true rfl, Nat.le_of_ble_eq_true rfl⟩) hS (fun q _ h => zp_F1 hD hS hA q h) (zp_F1 hD hS hA) (fun u t H locs ht hvm hw => zx_2 (fun v1na0_0 v1na0_11 hB hz1 hk1 hS1 => zo1 hB ht hP hD hk1 (zp_F1 hD hS hA) hS1 (fun hP hK1 hD hS => ?_)))
  refine lv_aload_n hx hb dX8_lookLeaves_4 rfl (lv_at hl 0 rfl) ?_
  refine va_get (D := (dC, dI)) (ci := 8) (v := .int a0_14) (C := RX8) (T := TX8) (N := 40) hx hb hts zi_X8_lookLeaves_8 hown hK hP 0 rfl rfl 14 (by decide) (hts (.fieldLink RX8 173 "WaxTurnsModel" "hasGallery" "Z") (zm_X8_lookLeaves_r1 (List.mem_of_getElem? (i := 0) rfl))) (fun _ h9 => h9) rfl dX8_lookLeaves_5 ?_
  refine lv_if_ne (tgt := 17) hx hb dX8_lookLeaves_8 (by decide) (fun c8 => ?_) (fun c8 => ?_)
  · have gc8 := ai_ne c8
    have l8t_a0_14 : (1 : Int) ≤ a0_14.toInt := (by first | exact zg_l ba0_14_l gc8 (by decide) (by decide) | (have h1 := ba0_14_l; have h2 : (0 : Int32).toInt = 0 := (by decide); rw [h2] at gc8; omega))
    have u8t_a0_14 : a0_14.toInt ≤ (-1 : Int) := (by first | exact zg_u ba0_14_u gc8 (by decide) (by decide) | (have h1 := ba0_14_u; have h2 : (0 : Int32).toInt = 0 := (by decide); rw [h2] at gc8; omega))
    exact absurd (Int.le_trans l8t_a0_14 u8t_a0_14) (by decide)
  · have gc8 := ai_eq c8
    have u8f_a0_14 : a0_14.toInt ≤ (0 : Int) := ba0_14_u
    have l8f_a0_14 : (0 : Int) ≤ a0_14.toInt := ba0_14_l
    refine lv_aload_n hx hb dX8_lookLeaves_11 rfl (lv_at hl 0 rfl) ?_
    refine lv_iconst (v := 1) hx hb dX8_lookLeaves_12 zk_iconst_1 ?_
    refine va_calli (va_runV (As := [.int 1]) (rest := []) ⟨hx, hb, hml, hown, hts⟩ (c_X8_no l dC dI H.size a0 1 (Value.int v1na0_0) a0g_1 a0g_2 a0g_3 a0g_4 a0g_5 a0g_6 a0g_7 a0g_8 a0g_9 a0g_10 a0g_12 a0g_13 (Value.int a0_14) a0g_15 a0g_16 a0g_17 a0g_18 a0g_19 a0g_20 a0g_21 a0g_22 a0g_23 a0g_24 a0g_25 a0g_26 a0g_27 a0g_28 a0g_29 a0g_30 a0g_31 a0g_32 a0g_33 a0g_34 a0g_35 a0g_36 a0g_37 a0g_38 a0g_39 v1na0_11 ) (cwV 1 hts gX8_lookLeaves_X8_no rfl rfl rfl zd_X8_no ⟨Nat.le_of_ble_eq_true rfl, Nat.le_of_ble_eq_true rfl⟩) ⟨ax_blind (fun _ _ _ _ _ => trivial), zr_8 (zp_K hK) (zp_P1 hP) (q0 := 0) rfl, ax_pre (zp_P1 hP) (zp_K hK) (zp_D1 hD) (fun _ _ => trivial)⟩ rfl rfl hl.1 rfl (lv_room (Nat.le_of_ble_eq_true rfl)) dX8_lookLeaves_13 ⟨Nat.le_of_ble_eq_true rfl, Nat.le_of_ble_eq_true rfl⟩) hS (fun q _ h => zp_F1 hD hS hA q h) (zp_F1 hD hS hA) (fun r13 u t H locs ht hvm hw => zx_1 (fun v13na0_11 hB hz1 hk1 hS1 => zo1 hB ht hP hD hk1 (zp_F1 hD hS hA) hS1 (fun hP hK1 hD hS => ?_)))
    have hw : r13 = (-1) := hw
    have hw := hw.symm
    subst hw
    exact W.iret (v := (-1)) hx hb hr (fun t ht hW => ⟨⟨(-1), (), rfl, rfl, v1na0_0, v13na0_11, by rw [ht]; exact hP, va_K.moved hW.alike hK, hD⟩, hS.F ht⟩) hS.2.2 dX8_lookLeaves_16

set_option maxHeartbeats 4000000 in
set_option maxRecDepth 100000 in
theorem c0_X8_lawsLike (l : Launch) (dC : Nat → ClassId) (dI : Nat → Nat → Nat) (sz : Nat) (a0 : Nat) (a0_0 : Int32) (a0g_1 a0g_2 a0g_3 a0g_4 a0g_5 a0g_6 a0g_7 a0g_8 a0g_9 a0g_10 a0g_12 a0g_13 a0g_15 a0g_16 a0g_17 a0g_18 a0g_19 a0g_20 a0g_21 a0g_22 a0g_23 a0g_24 a0g_25 a0g_26 a0g_27 a0g_28 a0g_29 a0g_30 a0g_31 a0g_32 a0g_33 a0g_34 a0g_35 a0g_36 a0g_37 a0g_38 a0g_39 : Value) (a0_11 : Int32) (a0_14 : Int32) (ba0_14_l : (0 : Int) ≤ a0_14.toInt) (ba0_14_u : a0_14.toInt ≤ (0 : Int)) : zm l yX8_lawsLike wsX8_lawsLike ({ frames := 1, cells := 0, slots := 0, locals := 21 }) [.ref a0] dC dI sz [(a0, .inr (8, [Value.int a0_0, a0g_1, a0g_2, a0g_3, a0g_4, a0g_5, a0g_6, a0g_7, a0g_8, a0g_9, a0g_10, Value.int a0_11, a0g_12, a0g_13, Value.int a0_14, a0g_15, a0g_16, a0g_17, a0g_18, a0g_19, a0g_20, a0g_21, a0g_22, a0g_23, a0g_24, a0g_25, a0g_26, a0g_27, a0g_28, a0g_29, a0g_30, a0g_31, a0g_32, a0g_33, a0g_34, a0g_35, a0g_36, a0g_37, a0g_38, a0g_39]))] [] (fun A _ => True) (fun A => va_Qi (fun (r : Int32) (_ : Unit) => r = (-1)) (fun (_ : Unit) (t : State) => ∃ na0_0 : Int32, ∃ na0_11 : Int32, ax_B dC dI A [(a0, .inr (8, [Value.int na0_0, a0g_1, a0g_2, a0g_3, a0g_4, a0g_5, a0g_6, a0g_7, a0g_8, a0g_9, a0g_10, Value.int na0_11, a0g_12, a0g_13, Value.int a0_14, a0g_15, a0g_16, a0g_17, a0g_18, a0g_19, a0g_20, a0g_21, a0g_22, a0g_23, a0g_24, a0g_25, a0g_26, a0g_27, a0g_28, a0g_29, a0g_30, a0g_31, a0g_32, a0g_33, a0g_34, a0g_35, a0g_36, a0g_37, a0g_38, a0g_39]))] [] t) A) := by
  refine zh (cc := cX8_lawsLike) (maxL := 5) (ret := (some .int)) zn_RX8 rfl (Nat.le_of_ble_eq_true rfl) (fun p e s m below meth c A ls hx hb hml hr hts (hown : s.vm.findClass RX8 = some m.cls) hlocks hA hS hP hK hD hE (hl : lv_has ls 5 [(0, .ref a0)]) => ?_)
  refine ai_open (fun K hK0 => ?_)
  refine (hK0 _ _ _).mpr ?_
  refine lv_aload_n hx hb dX8_lawsLike_0 rfl (lv_at hl 0 rfl) ?_
  refine va_callv (va_runV (As := []) (rest := []) ⟨hx, hb, hml, hown, hts⟩ (c_X8_good l dC dI s.heap.size a0 a0_0 a0g_1 a0g_2 a0g_3 a0g_4 a0g_5 a0g_6 a0g_7 a0g_8 a0g_9 a0g_10 a0g_12 a0g_13 (Value.int a0_14) a0g_15 a0g_16 a0g_17 a0g_18 a0g_19 a0g_20 a0g_21 a0g_22 a0g_23 a0g_24 a0g_25 a0g_26 a0g_27 a0g_28 a0g_29 a0g_30 a0g_31 a0g_32 a0g_33 a0g_34 a0g_35 a0g_36 a0g_37 a0g_38 a0g_39 a0_11 ) (cwV 0 hts gX8_lawsLike_X8_good rfl rfl rfl zd_X8_good ⟨Nat.le_of_ble_eq_true rfl, Nat.le_of_ble_eq_true rfl⟩) ⟨ax_blind (fun _ _ _ _ _ => trivial), zr_8 (zp_K hK) (zp_P1 hP) (q0 := 0) rfl, ax_pre (zp_P1 hP) (zp_K hK) (zp_D1 hD) (fun _ _ => trivial)⟩ rfl rfl hl.1 rfl (lv_room (Nat.le_of_ble_eq_true rfl)) dX8_lawsLike_1 ⟨Nat.le_of_ble_eq_true rfl, Nat.le_of_ble_eq_true rfl⟩) hS (fun q _ h => zp_F1 hD hS hA q h) (zp_F1 hD hS hA) (fun u t H locs ht hvm hw => zx_2 (fun v1na0_0 v1na0_11 hB hz1 hk1 hS1 => zo1 hB ht hP hD hk1 (zp_F1 hD hS hA) hS1 (fun hP hK1 hD hS => ?_)))
  refine lv_aload_n hx hb dX8_lawsLike_4 rfl (lv_at hl 0 rfl) ?_
  refine va_get (D := (dC, dI)) (ci := 8) (v := .int a0_14) (C := RX8) (T := TX8) (N := 40) hx hb hts zi_X8_lawsLike_8 hown hK hP 0 rfl rfl 14 (by decide) (hts (.fieldLink RX8 173 "WaxTurnsModel" "hasGallery" "Z") (zm_X8_lawsLike_r1 (List.mem_of_getElem? (i := 0) rfl))) (fun _ h9 => h9) rfl dX8_lawsLike_5 ?_
  refine lv_if_ne (tgt := 17) hx hb dX8_lawsLike_8 (by decide) (fun c8 => ?_) (fun c8 => ?_)
  · have gc8 := ai_ne c8
    have l8t_a0_14 : (1 : Int) ≤ a0_14.toInt := (by first | exact zg_l ba0_14_l gc8 (by decide) (by decide) | (have h1 := ba0_14_l; have h2 : (0 : Int32).toInt = 0 := (by decide); rw [h2] at gc8; omega))
    have u8t_a0_14 : a0_14.toInt ≤ (-1 : Int) := (by first | exact zg_u ba0_14_u gc8 (by decide) (by decide) | (have h1 := ba0_14_u; have h2 : (0 : Int32).toInt = 0 := (by decide); rw [h2] at gc8; omega))
    exact absurd (Int.le_trans l8t_a0_14 u8t_a0_14) (by decide)
  · have gc8 := ai_eq c8
    have u8f_a0_14 : a0_14.toInt ≤ (0 : Int) := ba0_14_u
    have l8f_a0_14 : (0 : Int) ≤ a0_14.toInt := ba0_14_l
    refine lv_aload_n hx hb dX8_lawsLike_11 rfl (lv_at hl 0 rfl) ?_
    refine lv_iconst (v := 1) hx hb dX8_lawsLike_12 zk_iconst_1 ?_
    refine va_calli (va_runV (As := [.int 1]) (rest := []) ⟨hx, hb, hml, hown, hts⟩ (c_X8_no l dC dI H.size a0 1 (Value.int v1na0_0) a0g_1 a0g_2 a0g_3 a0g_4 a0g_5 a0g_6 a0g_7 a0g_8 a0g_9 a0g_10 a0g_12 a0g_13 (Value.int a0_14) a0g_15 a0g_16 a0g_17 a0g_18 a0g_19 a0g_20 a0g_21 a0g_22 a0g_23 a0g_24 a0g_25 a0g_26 a0g_27 a0g_28 a0g_29 a0g_30 a0g_31 a0g_32 a0g_33 a0g_34 a0g_35 a0g_36 a0g_37 a0g_38 a0g_39 v1na0_11 ) (cwV 1 hts gX8_lawsLike_X8_no rfl rfl rfl zd_X8_no ⟨Nat.le_of_ble_eq_true rfl, Nat.le_of_ble_eq_true rfl⟩) ⟨ax_blind (fun _ _ _ _ _ => trivial), zr_8 (zp_K hK) (zp_P1 hP) (q0 := 0) rfl, ax_pre (zp_P1 hP) (zp_K hK) (zp_D1 hD) (fun _ _ => trivial)⟩ rfl rfl hl.1 rfl (lv_room (Nat.le_of_ble_eq_true rfl)) dX8_lawsLike_13 ⟨Nat.le_of_ble_eq_true rfl, Nat.le_of_ble_eq_true rfl⟩) hS (fun q _ h => zp_F1 hD hS hA q h) (zp_F1 hD hS hA) (fun r13 u t H locs ht hvm hw => zx_1 (fun v13na0_11 hB hz1 hk1 hS1 => zo1 hB ht hP hD hk1 (zp_F1 hD hS hA) hS1 (fun hP hK1 hD hS => ?_)))
    have hw : r13 = (-1) := hw
    have hw := hw.symm
    subst hw
    exact W.iret (v := (-1)) hx hb hr (fun t ht hW => ⟨⟨(-1), (), rfl, rfl, v1na0_0, v13na0_11, by rw [ht]; exact hP, va_K.moved hW.alike hK, hD⟩, hS.F ht⟩) hS.2.2 dX8_lawsLike_16
end P280_04_safe
section P280_05_safe
set_option maxHeartbeats 4000000 in
set_option maxRecDepth 100000 in
theorem c0_X8_lawFor (l : Launch) (dC : Nat → ClassId) (dI : Nat → Nat → Nat) (sz : Nat) (a0 : Nat) (a1 : Int32) (a2 : Int32) (a0_0 : Int32) (a0g_1 a0g_2 a0g_3 a0g_4 a0g_5 a0g_6 a0g_7 a0g_8 a0g_9 a0g_10 a0g_12 a0g_13 a0g_15 a0g_16 a0g_17 a0g_18 a0g_19 a0g_20 a0g_21 a0g_22 a0g_23 a0g_24 a0g_25 a0g_26 a0g_27 a0g_28 a0g_29 a0g_30 a0g_31 a0g_32 a0g_33 a0g_34 a0g_35 a0g_36 a0g_37 a0g_38 a0g_39 : Value) (a0_11 : Int32) (a0_14 : Int32) (ba0_14_l : (0 : Int) ≤ a0_14.toInt) (ba0_14_u : a0_14.toInt ≤ (0 : Int)) : zm l yX8_lawFor wsX8_lawFor ({ frames := 1, cells := 0, slots := 0, locals := 22 }) [.ref a0, .int a1, .int a2] dC dI sz [(a0, .inr (8, [Value.int a0_0, a0g_1, a0g_2, a0g_3, a0g_4, a0g_5, a0g_6, a0g_7, a0g_8, a0g_9, a0g_10, Value.int a0_11, a0g_12, a0g_13, Value.int a0_14, a0g_15, a0g_16, a0g_17, a0g_18, a0g_19, a0g_20, a0g_21, a0g_22, a0g_23, a0g_24, a0g_25, a0g_26, a0g_27, a0g_28, a0g_29, a0g_30, a0g_31, a0g_32, a0g_33, a0g_34, a0g_35, a0g_36, a0g_37, a0g_38, a0g_39]))] [] (fun A _ => True) (fun A => va_Qi (fun (r : Int32) (_ : Unit) => r = (-1)) (fun (_ : Unit) (t : State) => ∃ na0_0 : Int32, ∃ na0_11 : Int32, ax_B dC dI A [(a0, .inr (8, [Value.int na0_0, a0g_1, a0g_2, a0g_3, a0g_4, a0g_5, a0g_6, a0g_7, a0g_8, a0g_9, a0g_10, Value.int na0_11, a0g_12, a0g_13, Value.int a0_14, a0g_15, a0g_16, a0g_17, a0g_18, a0g_19, a0g_20, a0g_21, a0g_22, a0g_23, a0g_24, a0g_25, a0g_26, a0g_27, a0g_28, a0g_29, a0g_30, a0g_31, a0g_32, a0g_33, a0g_34, a0g_35, a0g_36, a0g_37, a0g_38, a0g_39]))] [] t) A) := by
  refine zh (cc := cX8_lawFor) (maxL := 5) (ret := (some .int)) zn_RX8 rfl (Nat.le_of_ble_eq_true rfl) (fun p e s m below meth c A ls hx hb hml hr hts (hown : s.vm.findClass RX8 = some m.cls) hlocks hA hS hP hK hD hE (hl : lv_has ls 5 [(0, .ref a0), (1, .int a1), (2, .int a2)]) => ?_)
  refine ai_open (fun K hK0 => ?_)
  refine (hK0 _ _ _).mpr ?_
  refine lv_aload_n hx hb dX8_lawFor_0 rfl (lv_at hl 0 rfl) ?_
  refine va_callv (va_runV (As := []) (rest := []) ⟨hx, hb, hml, hown, hts⟩ (c_X8_good l dC dI s.heap.size a0 a0_0 a0g_1 a0g_2 a0g_3 a0g_4 a0g_5 a0g_6 a0g_7 a0g_8 a0g_9 a0g_10 a0g_12 a0g_13 (Value.int a0_14) a0g_15 a0g_16 a0g_17 a0g_18 a0g_19 a0g_20 a0g_21 a0g_22 a0g_23 a0g_24 a0g_25 a0g_26 a0g_27 a0g_28 a0g_29 a0g_30 a0g_31 a0g_32 a0g_33 a0g_34 a0g_35 a0g_36 a0g_37 a0g_38 a0g_39 a0_11 ) (cwV 0 hts gX8_lawFor_X8_good rfl rfl rfl zd_X8_good ⟨Nat.le_of_ble_eq_true rfl, Nat.le_of_ble_eq_true rfl⟩) ⟨ax_blind (fun _ _ _ _ _ => trivial), zr_8 (zp_K hK) (zp_P1 hP) (q0 := 0) rfl, ax_pre (zp_P1 hP) (zp_K hK) (zp_D1 hD) (fun _ _ => trivial)⟩ rfl rfl hl.1 rfl (lv_room (Nat.le_of_ble_eq_true rfl)) dX8_lawFor_1 ⟨Nat.le_of_ble_eq_true rfl, Nat.le_of_ble_eq_true rfl⟩) hS (fun q _ h => zp_F1 hD hS hA q h) (zp_F1 hD hS hA) (fun u t H locs ht hvm hw => zx_2 (fun v1na0_0 v1na0_11 hB hz1 hk1 hS1 => zo1 hB ht hP hD hk1 (zp_F1 hD hS hA) hS1 (fun hP hK1 hD hS => ?_)))
  refine lv_aload_n hx hb dX8_lawFor_4 rfl (lv_at hl 0 rfl) ?_
  refine lv_aload_n hx hb dX8_lawFor_5 rfl (lv_at hl 0 rfl) ?_
  refine lv_iload_n hx hb dX8_lawFor_6 rfl (lv_at hl 1 rfl) ?_
  refine va_calli (va_runV (As := [.int a1]) (rest := [.ref a0]) ⟨hx, hb, hml, hown, hts⟩ (c0_X8_isFigure l dC dI H.size a0 a1 (Value.int v1na0_0) a0g_1 a0g_2 a0g_3 a0g_4 a0g_5 a0g_6 a0g_7 a0g_8 a0g_9 a0g_10 (Value.int v1na0_11) a0g_12 a0g_13 a0g_15 a0g_16 a0g_17 a0g_18 a0g_19 a0g_20 a0g_21 a0g_22 a0g_23 a0g_24 a0g_25 a0g_26 a0g_27 a0g_28 a0g_29 a0g_30 a0g_31 a0g_32 a0g_33 a0g_34 a0g_35 a0g_36 a0g_37 a0g_38 a0g_39 a0_14 ba0_14_l ba0_14_u) (cwV 1 hts gX8_lawFor_X8_isFigure rfl rfl rfl zd_X8_isFigure ⟨Nat.le_of_ble_eq_true rfl, Nat.le_of_ble_eq_true rfl⟩) ⟨ax_blind (fun _ _ _ _ _ => trivial), zr_8 (zp_K hK) (zp_P1 hP) (q0 := 0) rfl, ax_pre (zp_P1 hP) (zp_K hK) (zp_D1 hD) (fun _ _ => trivial)⟩ rfl rfl hl.1 rfl (lv_room (Nat.le_of_ble_eq_true rfl)) dX8_lawFor_7 ⟨Nat.le_of_ble_eq_true rfl, Nat.le_of_ble_eq_true rfl⟩) hS (fun q _ h => zp_F1 hD hS hA q h) (zp_F1 hD hS hA) (fun r7 u t H locs ht hvm hw hB hz1 hk1 hS1 => zo1 hB ht hP hD hk1 (zp_F1 hD hS hA) hS1 (fun hP hK1 hD hS => ?_))
  have hw : r7 = 0 := hw
  have hw := hw.symm
  subst hw
  refine lv_iload_n hx hb dX8_lawFor_10 rfl (lv_at hl 2 rfl) ?_
  refine lv_iconst (v := 0) hx hb dX8_lawFor_11 zk_iconst_0 ?_
  refine lv_bipush (v := 99) hx hb dX8_lawFor_12 zk_bipush_99 ?_
  refine va_calli (va_runS (As := [.int a2, .int 0, .int 99]) (rest := [.int 0, .ref a0]) ⟨hx, hb, hml, hown, hts⟩ (c_X8_in l dC dI H.size a2 0 99 ) (va_cwS 3 hts gX8_lawFor_X8_in rfl rfl rfl zd_X8_in.2 ⟨Nat.le_of_ble_eq_true rfl, Nat.le_of_ble_eq_true rfl⟩) ⟨ax_blind (fun _ _ _ _ _ => trivial), ax_pre (zp_P0 hP) (zp_K hK) (zp_D0 hD) (fun _ _ => trivial)⟩ rfl rfl hl.1 rfl (lv_room (Nat.le_of_ble_eq_true rfl)) dX8_lawFor_14 ⟨Nat.le_of_ble_eq_true rfl, Nat.le_of_ble_eq_true rfl⟩) hS (fun q _ h => zp_F0 hD hS hA q h) (zp_F0 hD hS hA) (fun r14 u t H locs ht hvm hw hB hz1 hk1 hS1 => zo0 hB ht hP hD hk1 (zp_F0 hD hS hA) hS1 (fun hP hK1 hD hS => ?_))
  rcases hw with hw | hw
  · obtain ⟨hw, h14⟩ := hw
    subst hw
    have l14k0_a2 : (0 : Int) ≤ a2.toInt := Int.le_trans zq5 h14.1
    have u14k0_a2 : a2.toInt ≤ (99 : Int) := Int.le_trans h14.2 zq43
    refine va_calli (va_runV (As := [.int 0, .int 1]) (rest := []) ⟨hx, hb, hml, hown, hts⟩ (c_X8_whyB l dC dI H.size a0 0 1 (Value.int v1na0_0) a0g_1 a0g_2 a0g_3 a0g_4 a0g_5 a0g_6 a0g_7 a0g_8 a0g_9 a0g_10 (Value.int v1na0_11) a0g_12 a0g_13 (Value.int a0_14) a0g_15 a0g_16 a0g_17 a0g_18 a0g_19 a0g_20 a0g_21 a0g_22 a0g_23 a0g_24 a0g_25 a0g_26 a0g_27 a0g_28 a0g_29 a0g_30 a0g_31 a0g_32 a0g_33 a0g_34 a0g_35 a0g_36 a0g_37 a0g_38 a0g_39 zq5 (Int.le_trans zq6 zq4) (Int.le_trans zq4 zq1) zq0) (cwV 2 hts gX8_lawFor_X8_why rfl rfl rfl zd_X8_why ⟨Nat.le_of_ble_eq_true rfl, Nat.le_of_ble_eq_true rfl⟩) ⟨ax_blind (fun _ _ _ _ _ => trivial), zr_8 (zp_K hK) (zp_P1 hP) (q0 := 0) rfl, ax_pre (zp_P1 hP) (zp_K hK) (zp_D1 hD) (fun _ _ => trivial)⟩ rfl rfl hl.1 rfl (lv_room (Nat.le_of_ble_eq_true rfl)) dX8_lawFor_17 ⟨Nat.le_of_ble_eq_true rfl, Nat.le_of_ble_eq_true rfl⟩) hS (fun q _ h => zp_F1 hD hS hA q h) (zp_F1 hD hS hA) (fun r17 u t H locs ht hvm hw hB hz1 hk1 hS1 => zo1 hB ht hP hD hk1 (zp_F1 hD hS hA) hS1 (fun hP hK1 hD hS => ?_))
    rcases hw with hw | hw | hw
    · obtain ⟨hw, h17_0, h17_1, h17_2, h17_3⟩ := hw
      subst hw
      exact absurd h17_0 (by decide)
    · obtain ⟨hw, h17_0, h17_1⟩ := hw
      subst hw
      refine lv_istore_n (lv' := [(3, .int 1), (0, .ref a0), (1, .int a1), (2, .int a2)]) hx hb dX8_lawFor_20 rfl hl (by decide) rfl (fun ls hl => ?_)
      refine lv_iload_n hx hb dX8_lawFor_21 rfl (lv_at hl 0 rfl) ?_
      refine lv_if_eq (tgt := 31) hx hb dX8_lawFor_22 (by decide) (fun c22 => absurd c22 (by decide +kernel)) (fun _ => ?_)
      refine lv_aload_n hx hb dX8_lawFor_25 rfl (lv_at hl 1 rfl) ?_
      refine lv_iload_n hx hb dX8_lawFor_26 rfl (lv_at hl 0 rfl) ?_
      refine va_calli (va_runV (As := [.int 1]) (rest := []) ⟨hx, hb, hml, hown, hts⟩ (c_X8_no l dC dI H.size a0 1 (Value.int v1na0_0) a0g_1 a0g_2 a0g_3 a0g_4 a0g_5 a0g_6 a0g_7 a0g_8 a0g_9 a0g_10 a0g_12 a0g_13 (Value.int a0_14) a0g_15 a0g_16 a0g_17 a0g_18 a0g_19 a0g_20 a0g_21 a0g_22 a0g_23 a0g_24 a0g_25 a0g_26 a0g_27 a0g_28 a0g_29 a0g_30 a0g_31 a0g_32 a0g_33 a0g_34 a0g_35 a0g_36 a0g_37 a0g_38 a0g_39 v1na0_11 ) (cwV 1 hts gX8_lawFor_X8_no rfl rfl rfl zd_X8_no ⟨Nat.le_of_ble_eq_true rfl, Nat.le_of_ble_eq_true rfl⟩) ⟨ax_blind (fun _ _ _ _ _ => trivial), zr_8 (zp_K hK) (zp_P1 hP) (q0 := 0) rfl, ax_pre (zp_P1 hP) (zp_K hK) (zp_D1 hD) (fun _ _ => trivial)⟩ rfl rfl hl.1 rfl (lv_room (Nat.le_of_ble_eq_true rfl)) dX8_lawFor_27 ⟨Nat.le_of_ble_eq_true rfl, Nat.le_of_ble_eq_true rfl⟩) hS (fun q _ h => zp_F1 hD hS hA q h) (zp_F1 hD hS hA) (fun r27 u t H locs ht hvm hw => zx_1 (fun v27na0_11 hB hz1 hk1 hS1 => zo1 hB ht hP hD hk1 (zp_F1 hD hS hA) hS1 (fun hP hK1 hD hS => ?_)))
      have hw : r27 = (-1) := hw
      have hw := hw.symm
      subst hw
      exact W.iret (v := (-1)) hx hb hr (fun t ht hW => ⟨⟨(-1), (), rfl, rfl, v1na0_0, v27na0_11, by rw [ht]; exact hP, va_K.moved hW.alike hK, hD⟩, hS.F ht⟩) hS.2.2 dX8_lawFor_30
    · obtain ⟨hw, h17_0, h17_1, h17_2, h17_3⟩ := hw
      subst hw
      exact absurd h17_0 (by decide)
  · obtain ⟨hw, h14⟩ := hw
    subst hw
    refine va_calli (va_runV (As := [.int 0, .int 0]) (rest := []) ⟨hx, hb, hml, hown, hts⟩ (c_X8_whyB l dC dI H.size a0 0 0 (Value.int v1na0_0) a0g_1 a0g_2 a0g_3 a0g_4 a0g_5 a0g_6 a0g_7 a0g_8 a0g_9 a0g_10 (Value.int v1na0_11) a0g_12 a0g_13 (Value.int a0_14) a0g_15 a0g_16 a0g_17 a0g_18 a0g_19 a0g_20 a0g_21 a0g_22 a0g_23 a0g_24 a0g_25 a0g_26 a0g_27 a0g_28 a0g_29 a0g_30 a0g_31 a0g_32 a0g_33 a0g_34 a0g_35 a0g_36 a0g_37 a0g_38 a0g_39 zq5 (Int.le_trans zq6 zq4) zq5 (Int.le_trans zq6 zq4)) (cwV 2 hts gX8_lawFor_X8_why rfl rfl rfl zd_X8_why ⟨Nat.le_of_ble_eq_true rfl, Nat.le_of_ble_eq_true rfl⟩) ⟨ax_blind (fun _ _ _ _ _ => trivial), zr_8 (zp_K hK) (zp_P1 hP) (q0 := 0) rfl, ax_pre (zp_P1 hP) (zp_K hK) (zp_D1 hD) (fun _ _ => trivial)⟩ rfl rfl hl.1 rfl (lv_room (Nat.le_of_ble_eq_true rfl)) dX8_lawFor_17 ⟨Nat.le_of_ble_eq_true rfl, Nat.le_of_ble_eq_true rfl⟩) hS (fun q _ h => zp_F1 hD hS hA q h) (zp_F1 hD hS hA) (fun r17 u t H locs ht hvm hw hB hz1 hk1 hS1 => zo1 hB ht hP hD hk1 (zp_F1 hD hS hA) hS1 (fun hP hK1 hD hS => ?_))
    rcases hw with hw | hw | hw
    · obtain ⟨hw, h17_0, h17_1, h17_2, h17_3⟩ := hw
      subst hw
      exact absurd h17_0 (by decide)
    · obtain ⟨hw, h17_0, h17_1⟩ := hw
      subst hw
      refine lv_istore_n (lv' := [(3, .int 1), (0, .ref a0), (1, .int a1), (2, .int a2)]) hx hb dX8_lawFor_20 rfl hl (by decide) rfl (fun ls hl => ?_)
      refine lv_iload_n hx hb dX8_lawFor_21 rfl (lv_at hl 0 rfl) ?_
      refine lv_if_eq (tgt := 31) hx hb dX8_lawFor_22 (by decide) (fun c22 => absurd c22 (by decide +kernel)) (fun _ => ?_)
      refine lv_aload_n hx hb dX8_lawFor_25 rfl (lv_at hl 1 rfl) ?_
      refine lv_iload_n hx hb dX8_lawFor_26 rfl (lv_at hl 0 rfl) ?_
      refine va_calli (va_runV (As := [.int 1]) (rest := []) ⟨hx, hb, hml, hown, hts⟩ (c_X8_no l dC dI H.size a0 1 (Value.int v1na0_0) a0g_1 a0g_2 a0g_3 a0g_4 a0g_5 a0g_6 a0g_7 a0g_8 a0g_9 a0g_10 a0g_12 a0g_13 (Value.int a0_14) a0g_15 a0g_16 a0g_17 a0g_18 a0g_19 a0g_20 a0g_21 a0g_22 a0g_23 a0g_24 a0g_25 a0g_26 a0g_27 a0g_28 a0g_29 a0g_30 a0g_31 a0g_32 a0g_33 a0g_34 a0g_35 a0g_36 a0g_37 a0g_38 a0g_39 v1na0_11 ) (cwV 1 hts gX8_lawFor_X8_no rfl rfl rfl zd_X8_no ⟨Nat.le_of_ble_eq_true rfl, Nat.le_of_ble_eq_true rfl⟩) ⟨ax_blind (fun _ _ _ _ _ => trivial), zr_8 (zp_K hK) (zp_P1 hP) (q0 := 0) rfl, ax_pre (zp_P1 hP) (zp_K hK) (zp_D1 hD) (fun _ _ => trivial)⟩ rfl rfl hl.1 rfl (lv_room (Nat.le_of_ble_eq_true rfl)) dX8_lawFor_27 ⟨Nat.le_of_ble_eq_true rfl, Nat.le_of_ble_eq_true rfl⟩) hS (fun q _ h => zp_F1 hD hS hA q h) (zp_F1 hD hS hA) (fun r27 u t H locs ht hvm hw => zx_1 (fun v27na0_11 hB hz1 hk1 hS1 => zo1 hB ht hP hD hk1 (zp_F1 hD hS hA) hS1 (fun hP hK1 hD hS => ?_)))
      have hw : r27 = (-1) := hw
      have hw := hw.symm
      subst hw
      exact W.iret (v := (-1)) hx hb hr (fun t ht hW => ⟨⟨(-1), (), rfl, rfl, v1na0_0, v27na0_11, by rw [ht]; exact hP, va_K.moved hW.alike hK, hD⟩, hS.F ht⟩) hS.2.2 dX8_lawFor_30
    · obtain ⟨hw, h17_0, h17_1, h17_2, h17_3⟩ := hw
      subst hw
      exact absurd h17_0 (by decide)

set_option maxHeartbeats 4000000 in
set_option maxRecDepth 100000 in
theorem c0_X8_judge (l : Launch) (dC : Nat → ClassId) (dI : Nat → Nat → Nat) (sz : Nat) (a0 : Nat) (a0_0 : Int32) (a0g_1 a0g_2 a0g_3 a0g_4 a0g_5 a0g_6 a0g_7 a0g_8 a0g_9 a0g_10 a0g_12 a0g_13 a0g_15 a0g_16 a0g_17 a0g_18 a0g_19 a0g_20 a0g_21 a0g_22 a0g_23 a0g_24 a0g_25 a0g_26 a0g_27 a0g_28 a0g_29 a0g_30 a0g_31 a0g_32 a0g_33 a0g_34 a0g_35 a0g_36 a0g_37 a0g_38 a0g_39 : Value) (a0_11 : Int32) (a0_14 : Int32) (ba0_14_l : (0 : Int) ≤ a0_14.toInt) (ba0_14_u : a0_14.toInt ≤ (0 : Int)) : zm l yX8_judge wsX8_judge ({ frames := 1, cells := 0, slots := 0, locals := 21 }) [.ref a0] dC dI sz [(a0, .inr (8, [Value.int a0_0, a0g_1, a0g_2, a0g_3, a0g_4, a0g_5, a0g_6, a0g_7, a0g_8, a0g_9, a0g_10, Value.int a0_11, a0g_12, a0g_13, Value.int a0_14, a0g_15, a0g_16, a0g_17, a0g_18, a0g_19, a0g_20, a0g_21, a0g_22, a0g_23, a0g_24, a0g_25, a0g_26, a0g_27, a0g_28, a0g_29, a0g_30, a0g_31, a0g_32, a0g_33, a0g_34, a0g_35, a0g_36, a0g_37, a0g_38, a0g_39]))] [] (fun A _ => True) (fun A => va_Qi (fun (r : Int32) (_ : Unit) => r = (-1)) (fun (_ : Unit) (t : State) => ∃ na0_0 : Int32, ∃ na0_11 : Int32, ax_B dC dI A [(a0, .inr (8, [Value.int na0_0, a0g_1, a0g_2, a0g_3, a0g_4, a0g_5, a0g_6, a0g_7, a0g_8, a0g_9, a0g_10, Value.int na0_11, a0g_12, a0g_13, Value.int a0_14, a0g_15, a0g_16, a0g_17, a0g_18, a0g_19, a0g_20, a0g_21, a0g_22, a0g_23, a0g_24, a0g_25, a0g_26, a0g_27, a0g_28, a0g_29, a0g_30, a0g_31, a0g_32, a0g_33, a0g_34, a0g_35, a0g_36, a0g_37, a0g_38, a0g_39]))] [] t) A) := by
  refine zh (cc := cX8_judge) (maxL := 2) (ret := (some .int)) zn_RX8 rfl (Nat.le_of_ble_eq_true rfl) (fun p e s m below meth c A ls hx hb hml hr hts (hown : s.vm.findClass RX8 = some m.cls) hlocks hA hS hP hK hD hE (hl : lv_has ls 2 [(0, .ref a0)]) => ?_)
  refine ai_open (fun K hK0 => ?_)
  refine (hK0 _ _ _).mpr ?_
  refine lv_aload_n hx hb dX8_judge_0 rfl (lv_at hl 0 rfl) ?_
  refine va_callv (va_runV (As := []) (rest := []) ⟨hx, hb, hml, hown, hts⟩ (c_X8_good l dC dI s.heap.size a0 a0_0 a0g_1 a0g_2 a0g_3 a0g_4 a0g_5 a0g_6 a0g_7 a0g_8 a0g_9 a0g_10 a0g_12 a0g_13 (Value.int a0_14) a0g_15 a0g_16 a0g_17 a0g_18 a0g_19 a0g_20 a0g_21 a0g_22 a0g_23 a0g_24 a0g_25 a0g_26 a0g_27 a0g_28 a0g_29 a0g_30 a0g_31 a0g_32 a0g_33 a0g_34 a0g_35 a0g_36 a0g_37 a0g_38 a0g_39 a0_11 ) (cwV 0 hts gX8_judge_X8_good rfl rfl rfl zd_X8_good ⟨Nat.le_of_ble_eq_true rfl, Nat.le_of_ble_eq_true rfl⟩) ⟨ax_blind (fun _ _ _ _ _ => trivial), zr_8 (zp_K hK) (zp_P1 hP) (q0 := 0) rfl, ax_pre (zp_P1 hP) (zp_K hK) (zp_D1 hD) (fun _ _ => trivial)⟩ rfl rfl hl.1 rfl (lv_room (Nat.le_of_ble_eq_true rfl)) dX8_judge_1 ⟨Nat.le_of_ble_eq_true rfl, Nat.le_of_ble_eq_true rfl⟩) hS (fun q _ h => zp_F1 hD hS hA q h) (zp_F1 hD hS hA) (fun u t H locs ht hvm hw => zx_2 (fun v1na0_0 v1na0_11 hB hz1 hk1 hS1 => zo1 hB ht hP hD hk1 (zp_F1 hD hS hA) hS1 (fun hP hK1 hD hS => ?_)))
  refine lv_aload_n hx hb dX8_judge_4 rfl (lv_at hl 0 rfl) ?_
  refine va_get (D := (dC, dI)) (ci := 8) (v := .int a0_14) (C := RX8) (T := TX8) (N := 40) hx hb hts zi_X8_judge_8 hown hK hP 0 rfl rfl 14 (by decide) (hts (.fieldLink RX8 173 "WaxTurnsModel" "hasGallery" "Z") (List.mem_cons_of_mem _ (List.mem_append_left _ (List.mem_of_getElem? (i := 0) rfl)))) (fun _ h9 => h9) rfl dX8_judge_5 ?_
  refine lv_if_ne (tgt := 17) hx hb dX8_judge_8 (by decide) (fun c8 => ?_) (fun c8 => ?_)
  · have gc8 := ai_ne c8
    have l8t_a0_14 : (1 : Int) ≤ a0_14.toInt := (by first | exact zg_l ba0_14_l gc8 (by decide) (by decide) | (have h1 := ba0_14_l; have h2 : (0 : Int32).toInt = 0 := (by decide); rw [h2] at gc8; omega))
    have u8t_a0_14 : a0_14.toInt ≤ (-1 : Int) := (by first | exact zg_u ba0_14_u gc8 (by decide) (by decide) | (have h1 := ba0_14_u; have h2 : (0 : Int32).toInt = 0 := (by decide); rw [h2] at gc8; omega))
    exact absurd (Int.le_trans l8t_a0_14 u8t_a0_14) (by decide)
  · have gc8 := ai_eq c8
    have u8f_a0_14 : a0_14.toInt ≤ (0 : Int) := ba0_14_u
    have l8f_a0_14 : (0 : Int) ≤ a0_14.toInt := ba0_14_l
    refine lv_aload_n hx hb dX8_judge_11 rfl (lv_at hl 0 rfl) ?_
    refine lv_iconst (v := 1) hx hb dX8_judge_12 zk_iconst_1 ?_
    refine va_calli (va_runV (As := [.int 1]) (rest := []) ⟨hx, hb, hml, hown, hts⟩ (c_X8_no l dC dI H.size a0 1 (Value.int v1na0_0) a0g_1 a0g_2 a0g_3 a0g_4 a0g_5 a0g_6 a0g_7 a0g_8 a0g_9 a0g_10 a0g_12 a0g_13 (Value.int a0_14) a0g_15 a0g_16 a0g_17 a0g_18 a0g_19 a0g_20 a0g_21 a0g_22 a0g_23 a0g_24 a0g_25 a0g_26 a0g_27 a0g_28 a0g_29 a0g_30 a0g_31 a0g_32 a0g_33 a0g_34 a0g_35 a0g_36 a0g_37 a0g_38 a0g_39 v1na0_11 ) (cwV 1 hts gX8_judge_X8_no rfl rfl rfl zd_X8_no ⟨Nat.le_of_ble_eq_true rfl, Nat.le_of_ble_eq_true rfl⟩) ⟨ax_blind (fun _ _ _ _ _ => trivial), zr_8 (zp_K hK) (zp_P1 hP) (q0 := 0) rfl, ax_pre (zp_P1 hP) (zp_K hK) (zp_D1 hD) (fun _ _ => trivial)⟩ rfl rfl hl.1 rfl (lv_room (Nat.le_of_ble_eq_true rfl)) dX8_judge_13 ⟨Nat.le_of_ble_eq_true rfl, Nat.le_of_ble_eq_true rfl⟩) hS (fun q _ h => zp_F1 hD hS hA q h) (zp_F1 hD hS hA) (fun r13 u t H locs ht hvm hw => zx_1 (fun v13na0_11 hB hz1 hk1 hS1 => zo1 hB ht hP hD hk1 (zp_F1 hD hS hA) hS1 (fun hP hK1 hD hS => ?_)))
    have hw : r13 = (-1) := hw
    have hw := hw.symm
    subst hw
    exact W.iret (v := (-1)) hx hb hr (fun t ht hW => ⟨⟨(-1), (), rfl, rfl, v1na0_0, v13na0_11, by rw [ht]; exact hP, va_K.moved hW.alike hK, hD⟩, hS.F ht⟩) hS.2.2 dX8_judge_16

set_option maxHeartbeats 4000000 in
set_option maxRecDepth 100000 in
theorem c0_X8_rests (l : Launch) (dC : Nat → ClassId) (dI : Nat → Nat → Nat) (sz : Nat) (a0 : Nat) (a1 : Int32) (a0_0 : Int32) (a0g_1 a0g_2 a0g_3 a0g_4 a0g_5 a0g_6 a0g_7 a0g_8 a0g_9 a0g_10 a0g_12 a0g_13 a0g_15 a0g_16 a0g_17 a0g_18 a0g_19 a0g_20 a0g_21 a0g_22 a0g_23 a0g_24 a0g_25 a0g_26 a0g_27 a0g_28 a0g_29 a0g_30 a0g_31 a0g_32 a0g_33 a0g_34 a0g_35 a0g_36 a0g_37 a0g_38 a0g_39 : Value) (a0_11 : Int32) (a0_14 : Int32) (ba0_14_l : (0 : Int) ≤ a0_14.toInt) (ba0_14_u : a0_14.toInt ≤ (0 : Int)) : zm l yX8_rests wsX8_rests ({ frames := 1, cells := 0, slots := 0, locals := 22 }) [.ref a0, .int a1] dC dI sz [(a0, .inr (8, [Value.int a0_0, a0g_1, a0g_2, a0g_3, a0g_4, a0g_5, a0g_6, a0g_7, a0g_8, a0g_9, a0g_10, Value.int a0_11, a0g_12, a0g_13, Value.int a0_14, a0g_15, a0g_16, a0g_17, a0g_18, a0g_19, a0g_20, a0g_21, a0g_22, a0g_23, a0g_24, a0g_25, a0g_26, a0g_27, a0g_28, a0g_29, a0g_30, a0g_31, a0g_32, a0g_33, a0g_34, a0g_35, a0g_36, a0g_37, a0g_38, a0g_39]))] [] (fun A _ => True) (fun A => va_Qi (fun (r : Int32) (_ : Unit) => r = (-1)) (fun (_ : Unit) (t : State) => ∃ na0_0 : Int32, ∃ na0_11 : Int32, ax_B dC dI A [(a0, .inr (8, [Value.int na0_0, a0g_1, a0g_2, a0g_3, a0g_4, a0g_5, a0g_6, a0g_7, a0g_8, a0g_9, a0g_10, Value.int na0_11, a0g_12, a0g_13, Value.int a0_14, a0g_15, a0g_16, a0g_17, a0g_18, a0g_19, a0g_20, a0g_21, a0g_22, a0g_23, a0g_24, a0g_25, a0g_26, a0g_27, a0g_28, a0g_29, a0g_30, a0g_31, a0g_32, a0g_33, a0g_34, a0g_35, a0g_36, a0g_37, a0g_38, a0g_39]))] [] t) A) := by
  refine zh (cc := cX8_rests) (maxL := 3) (ret := (some .int)) zn_RX8 rfl (Nat.le_of_ble_eq_true rfl) (fun p e s m below meth c A ls hx hb hml hr hts (hown : s.vm.findClass RX8 = some m.cls) hlocks hA hS hP hK hD hE (hl : lv_has ls 3 [(0, .ref a0), (1, .int a1)]) => ?_)
  refine lv_aload_n hx hb dX8_rests_0 rfl (lv_at hl 0 rfl) ?_
  refine va_callv (va_runV (As := []) (rest := []) ⟨hx, hb, hml, hown, hts⟩ (c_X8_good l dC dI s.heap.size a0 a0_0 a0g_1 a0g_2 a0g_3 a0g_4 a0g_5 a0g_6 a0g_7 a0g_8 a0g_9 a0g_10 a0g_12 a0g_13 (Value.int a0_14) a0g_15 a0g_16 a0g_17 a0g_18 a0g_19 a0g_20 a0g_21 a0g_22 a0g_23 a0g_24 a0g_25 a0g_26 a0g_27 a0g_28 a0g_29 a0g_30 a0g_31 a0g_32 a0g_33 a0g_34 a0g_35 a0g_36 a0g_37 a0g_38 a0g_39 a0_11 ) (cwV 0 hts gX8_rests_X8_good rfl rfl rfl zd_X8_good ⟨Nat.le_of_ble_eq_true rfl, Nat.le_of_ble_eq_true rfl⟩) ⟨ax_blind (fun _ _ _ _ _ => trivial), zr_8 (zp_K hK) (zp_P1 hP) (q0 := 0) rfl, ax_pre (zp_P1 hP) (zp_K hK) (zp_D1 hD) (fun _ _ => trivial)⟩ rfl rfl hl.1 rfl (lv_room (Nat.le_of_ble_eq_true rfl)) dX8_rests_1 ⟨Nat.le_of_ble_eq_true rfl, Nat.le_of_ble_eq_true rfl⟩) hS (fun q _ h => zp_F1 hD hS hA q h) (zp_F1 hD hS hA) (fun u t H locs ht hvm hw => zx_2 (fun v1na0_0 v1na0_11 hB hz1 hk1 hS1 => zo1 hB ht hP hD hk1 (zp_F1 hD hS hA) hS1 (fun hP hK1 hD hS => ?_)))
  refine lv_aload_n hx hb dX8_rests_4 rfl (lv_at hl 0 rfl) ?_
  refine lv_aload_n hx hb dX8_rests_5 rfl (lv_at hl 0 rfl) ?_
  refine va_get (D := (dC, dI)) (ci := 8) (v := .int a0_14) (C := RX8) (T := TX8) (N := 40) hx hb hts zi_X8_rests_8 hown hK hP 0 rfl rfl 14 (by decide) (hts (.fieldLink RX8 173 "WaxTurnsModel" "hasGallery" "Z") (zm_X8_rests_r1 (List.mem_of_getElem? (i := 0) rfl))) (fun _ h9 => h9) rfl dX8_rests_6 ?_
  refine lv_iload_n hx hb dX8_rests_9 rfl (lv_at hl 1 rfl) ?_
  refine lv_iconst (v := 0) hx hb dX8_rests_10 zk_iconst_0 ?_
  refine lv_bipush (v := 9) hx hb dX8_rests_11 zk_bipush_9 ?_
  refine va_calli (va_runS (As := [.int a1, .int 0, .int 9]) (rest := [.int a0_14, .ref a0]) ⟨hx, hb, hml, hown, hts⟩ (c_X8_in l dC dI H.size a1 0 9 ) (va_cwS 3 hts gX8_rests_X8_in rfl rfl rfl zd_X8_in.2 ⟨Nat.le_of_ble_eq_true rfl, Nat.le_of_ble_eq_true rfl⟩) ⟨ax_blind (fun _ _ _ _ _ => trivial), ax_pre (zp_P0 hP) (zp_K hK) (zp_D0 hD) (fun _ _ => trivial)⟩ rfl rfl hl.1 rfl (lv_room (Nat.le_of_ble_eq_true rfl)) dX8_rests_13 ⟨Nat.le_of_ble_eq_true rfl, Nat.le_of_ble_eq_true rfl⟩) hS (fun q _ h => zp_F0 hD hS hA q h) (zp_F0 hD hS hA) (fun r13 u t H locs ht hvm hw hB hz1 hk1 hS1 => zo0 hB ht hP hD hk1 (zp_F0 hD hS hA) hS1 (fun hP hK1 hD hS => ?_))
  rcases hw with hw | hw
  · obtain ⟨hw, h13⟩ := hw
    subst hw
    have l13k0_a1 : (0 : Int) ≤ a1.toInt := Int.le_trans zq5 h13.1
    have u13k0_a1 : a1.toInt ≤ (9 : Int) := Int.le_trans h13.2 zq3
    refine va_calli (va_runV (As := [.int a0_14, .int 1]) (rest := []) ⟨hx, hb, hml, hown, hts⟩ (c_X8_whyB l dC dI H.size a0 a0_14 1 (Value.int v1na0_0) a0g_1 a0g_2 a0g_3 a0g_4 a0g_5 a0g_6 a0g_7 a0g_8 a0g_9 a0g_10 (Value.int v1na0_11) a0g_12 a0g_13 (Value.int a0_14) a0g_15 a0g_16 a0g_17 a0g_18 a0g_19 a0g_20 a0g_21 a0g_22 a0g_23 a0g_24 a0g_25 a0g_26 a0g_27 a0g_28 a0g_29 a0g_30 a0g_31 a0g_32 a0g_33 a0g_34 a0g_35 a0g_36 a0g_37 a0g_38 a0g_39 ba0_14_l (Int.le_trans ba0_14_u zq4) (Int.le_trans zq4 zq1) zq0) (cwV 2 hts gX8_rests_X8_why rfl rfl rfl zd_X8_why ⟨Nat.le_of_ble_eq_true rfl, Nat.le_of_ble_eq_true rfl⟩) ⟨ax_blind (fun _ _ _ _ _ => trivial), zr_8 (zp_K hK) (zp_P1 hP) (q0 := 0) rfl, ax_pre (zp_P1 hP) (zp_K hK) (zp_D1 hD) (fun _ _ => trivial)⟩ rfl rfl hl.1 rfl (lv_room (Nat.le_of_ble_eq_true rfl)) dX8_rests_16 ⟨Nat.le_of_ble_eq_true rfl, Nat.le_of_ble_eq_true rfl⟩) hS (fun q _ h => zp_F1 hD hS hA q h) (zp_F1 hD hS hA) (fun r16 u t H locs ht hvm hw hB hz1 hk1 hS1 => zo1 hB ht hP hD hk1 (zp_F1 hD hS hA) hS1 (fun hP hK1 hD hS => ?_))
    rcases hw with hw | hw | hw
    · obtain ⟨hw, h16_0, h16_1, h16_2, h16_3⟩ := hw
      subst hw
      have l16k0_a0_14 : (1 : Int) ≤ a0_14.toInt := h16_0
      have u16k0_a0_14 : a0_14.toInt ≤ (0 : Int) := ba0_14_u
      exact absurd (Int.le_trans l16k0_a0_14 u16k0_a0_14) (by decide)
    · obtain ⟨hw, h16_0, h16_1⟩ := hw
      subst hw
      have l16k1_a0_14 : (0 : Int) ≤ a0_14.toInt := ba0_14_l
      have u16k1_a0_14 : a0_14.toInt ≤ (0 : Int) := ba0_14_u
      refine lv_istore_n (lv' := [(2, .int 1), (0, .ref a0), (1, .int a1)]) hx hb dX8_rests_19 rfl hl (by decide) rfl (fun ls hl => ?_)
      refine lv_iload_n hx hb dX8_rests_20 rfl (lv_at hl 0 rfl) ?_
      refine lv_if_eq (tgt := 32) hx hb dX8_rests_21 (by decide) (fun c21 => absurd c21 (by decide +kernel)) (fun _ => ?_)
      refine lv_aload_n hx hb dX8_rests_24 rfl (lv_at hl 1 rfl) ?_
      refine lv_iload_n hx hb dX8_rests_25 rfl (lv_at hl 0 rfl) ?_
      refine va_calli (va_runV (As := [.int 1]) (rest := []) ⟨hx, hb, hml, hown, hts⟩ (c_X8_no l dC dI H.size a0 1 (Value.int v1na0_0) a0g_1 a0g_2 a0g_3 a0g_4 a0g_5 a0g_6 a0g_7 a0g_8 a0g_9 a0g_10 a0g_12 a0g_13 (Value.int a0_14) a0g_15 a0g_16 a0g_17 a0g_18 a0g_19 a0g_20 a0g_21 a0g_22 a0g_23 a0g_24 a0g_25 a0g_26 a0g_27 a0g_28 a0g_29 a0g_30 a0g_31 a0g_32 a0g_33 a0g_34 a0g_35 a0g_36 a0g_37 a0g_38 a0g_39 v1na0_11 ) (cwV 1 hts gX8_rests_X8_no rfl rfl rfl zd_X8_no ⟨Nat.le_of_ble_eq_true rfl, Nat.le_of_ble_eq_true rfl⟩) ⟨ax_blind (fun _ _ _ _ _ => trivial), zr_8 (zp_K hK) (zp_P1 hP) (q0 := 0) rfl, ax_pre (zp_P1 hP) (zp_K hK) (zp_D1 hD) (fun _ _ => trivial)⟩ rfl rfl hl.1 rfl (lv_room (Nat.le_of_ble_eq_true rfl)) dX8_rests_26 ⟨Nat.le_of_ble_eq_true rfl, Nat.le_of_ble_eq_true rfl⟩) hS (fun q _ h => zp_F1 hD hS hA q h) (zp_F1 hD hS hA) (fun r26 u t H locs ht hvm hw => zx_1 (fun v26na0_11 hB hz1 hk1 hS1 => zo1 hB ht hP hD hk1 (zp_F1 hD hS hA) hS1 (fun hP hK1 hD hS => ?_)))
      have hw : r26 = (-1) := hw
      have hw := hw.symm
      subst hw
      refine lv_goto (tgt := 37) hx hb dX8_rests_29 (by decide) ?_
      exact W.iret (v := (-1)) hx hb hr (fun t ht hW => ⟨⟨(-1), (), rfl, rfl, v1na0_0, v26na0_11, by rw [ht]; exact hP, va_K.moved hW.alike hK, hD⟩, hS.F ht⟩) hS.2.2 dX8_rests_37
    · obtain ⟨hw, h16_0, h16_1, h16_2, h16_3⟩ := hw
      subst hw
      have l16k2_a0_14 : (1 : Int) ≤ a0_14.toInt := h16_0
      have u16k2_a0_14 : a0_14.toInt ≤ (0 : Int) := ba0_14_u
      exact absurd (Int.le_trans l16k2_a0_14 u16k2_a0_14) (by decide)
  · obtain ⟨hw, h13⟩ := hw
    subst hw
    refine va_calli (va_runV (As := [.int a0_14, .int 0]) (rest := []) ⟨hx, hb, hml, hown, hts⟩ (c_X8_whyB l dC dI H.size a0 a0_14 0 (Value.int v1na0_0) a0g_1 a0g_2 a0g_3 a0g_4 a0g_5 a0g_6 a0g_7 a0g_8 a0g_9 a0g_10 (Value.int v1na0_11) a0g_12 a0g_13 (Value.int a0_14) a0g_15 a0g_16 a0g_17 a0g_18 a0g_19 a0g_20 a0g_21 a0g_22 a0g_23 a0g_24 a0g_25 a0g_26 a0g_27 a0g_28 a0g_29 a0g_30 a0g_31 a0g_32 a0g_33 a0g_34 a0g_35 a0g_36 a0g_37 a0g_38 a0g_39 ba0_14_l (Int.le_trans ba0_14_u zq4) zq5 (Int.le_trans zq6 zq4)) (cwV 2 hts gX8_rests_X8_why rfl rfl rfl zd_X8_why ⟨Nat.le_of_ble_eq_true rfl, Nat.le_of_ble_eq_true rfl⟩) ⟨ax_blind (fun _ _ _ _ _ => trivial), zr_8 (zp_K hK) (zp_P1 hP) (q0 := 0) rfl, ax_pre (zp_P1 hP) (zp_K hK) (zp_D1 hD) (fun _ _ => trivial)⟩ rfl rfl hl.1 rfl (lv_room (Nat.le_of_ble_eq_true rfl)) dX8_rests_16 ⟨Nat.le_of_ble_eq_true rfl, Nat.le_of_ble_eq_true rfl⟩) hS (fun q _ h => zp_F1 hD hS hA q h) (zp_F1 hD hS hA) (fun r16 u t H locs ht hvm hw hB hz1 hk1 hS1 => zo1 hB ht hP hD hk1 (zp_F1 hD hS hA) hS1 (fun hP hK1 hD hS => ?_))
    rcases hw with hw | hw | hw
    · obtain ⟨hw, h16_0, h16_1, h16_2, h16_3⟩ := hw
      subst hw
      have l16k0_a0_14 : (1 : Int) ≤ a0_14.toInt := h16_0
      have u16k0_a0_14 : a0_14.toInt ≤ (0 : Int) := ba0_14_u
      exact absurd (Int.le_trans l16k0_a0_14 u16k0_a0_14) (by decide)
    · obtain ⟨hw, h16_0, h16_1⟩ := hw
      subst hw
      have l16k1_a0_14 : (0 : Int) ≤ a0_14.toInt := ba0_14_l
      have u16k1_a0_14 : a0_14.toInt ≤ (0 : Int) := ba0_14_u
      refine lv_istore_n (lv' := [(2, .int 1), (0, .ref a0), (1, .int a1)]) hx hb dX8_rests_19 rfl hl (by decide) rfl (fun ls hl => ?_)
      refine lv_iload_n hx hb dX8_rests_20 rfl (lv_at hl 0 rfl) ?_
      refine lv_if_eq (tgt := 32) hx hb dX8_rests_21 (by decide) (fun c21 => absurd c21 (by decide +kernel)) (fun _ => ?_)
      refine lv_aload_n hx hb dX8_rests_24 rfl (lv_at hl 1 rfl) ?_
      refine lv_iload_n hx hb dX8_rests_25 rfl (lv_at hl 0 rfl) ?_
      refine va_calli (va_runV (As := [.int 1]) (rest := []) ⟨hx, hb, hml, hown, hts⟩ (c_X8_no l dC dI H.size a0 1 (Value.int v1na0_0) a0g_1 a0g_2 a0g_3 a0g_4 a0g_5 a0g_6 a0g_7 a0g_8 a0g_9 a0g_10 a0g_12 a0g_13 (Value.int a0_14) a0g_15 a0g_16 a0g_17 a0g_18 a0g_19 a0g_20 a0g_21 a0g_22 a0g_23 a0g_24 a0g_25 a0g_26 a0g_27 a0g_28 a0g_29 a0g_30 a0g_31 a0g_32 a0g_33 a0g_34 a0g_35 a0g_36 a0g_37 a0g_38 a0g_39 v1na0_11 ) (cwV 1 hts gX8_rests_X8_no rfl rfl rfl zd_X8_no ⟨Nat.le_of_ble_eq_true rfl, Nat.le_of_ble_eq_true rfl⟩) ⟨ax_blind (fun _ _ _ _ _ => trivial), zr_8 (zp_K hK) (zp_P1 hP) (q0 := 0) rfl, ax_pre (zp_P1 hP) (zp_K hK) (zp_D1 hD) (fun _ _ => trivial)⟩ rfl rfl hl.1 rfl (lv_room (Nat.le_of_ble_eq_true rfl)) dX8_rests_26 ⟨Nat.le_of_ble_eq_true rfl, Nat.le_of_ble_eq_true rfl⟩) hS (fun q _ h => zp_F1 hD hS hA q h) (zp_F1 hD hS hA) (fun r26 u t H locs ht hvm hw => zx_1 (fun v26na0_11 hB hz1 hk1 hS1 => zo1 hB ht hP hD hk1 (zp_F1 hD hS hA) hS1 (fun hP hK1 hD hS => ?_)))
      have hw : r26 = (-1) := hw
      have hw := hw.symm
      subst hw
      refine lv_goto (tgt := 37) hx hb dX8_rests_29 (by decide) ?_
      exact W.iret (v := (-1)) hx hb hr (fun t ht hW => ⟨⟨(-1), (), rfl, rfl, v1na0_0, v26na0_11, by rw [ht]; exact hP, va_K.moved hW.alike hK, hD⟩, hS.F ht⟩) hS.2.2 dX8_rests_37
    · obtain ⟨hw, h16_0, h16_1, h16_2, h16_3⟩ := hw
      subst hw
      have l16k2_a0_14 : (1 : Int) ≤ a0_14.toInt := h16_0
      have u16k2_a0_14 : a0_14.toInt ≤ (0 : Int) := ba0_14_u
      exact absurd (Int.le_trans l16k2_a0_14 u16k2_a0_14) (by decide)

set_option maxHeartbeats 4000000 in
set_option maxRecDepth 100000 in
theorem c0_X8_rest (l : Launch) (dC : Nat → ClassId) (dI : Nat → Nat → Nat) (sz : Nat) (a0 : Nat) (a1 : Int32) (a0_0 : Int32) (a0g_1 a0g_2 a0g_3 a0g_4 a0g_5 a0g_6 a0g_7 a0g_8 a0g_9 a0g_10 a0g_12 a0g_13 a0g_15 a0g_16 a0g_17 a0g_18 a0g_19 a0g_20 a0g_21 a0g_22 a0g_23 a0g_24 a0g_25 a0g_26 a0g_27 a0g_28 a0g_29 a0g_30 a0g_31 a0g_32 a0g_33 a0g_34 a0g_35 a0g_36 a0g_37 a0g_38 a0g_39 : Value) (a0_11 : Int32) (a0_14 : Int32) (ba0_14_l : (0 : Int) ≤ a0_14.toInt) (ba0_14_u : a0_14.toInt ≤ (0 : Int)) : zm l yX8_rest wsX8_rest ({ frames := 1, cells := 0, slots := 0, locals := 22 }) [.ref a0, .int a1] dC dI sz [(a0, .inr (8, [Value.int a0_0, a0g_1, a0g_2, a0g_3, a0g_4, a0g_5, a0g_6, a0g_7, a0g_8, a0g_9, a0g_10, Value.int a0_11, a0g_12, a0g_13, Value.int a0_14, a0g_15, a0g_16, a0g_17, a0g_18, a0g_19, a0g_20, a0g_21, a0g_22, a0g_23, a0g_24, a0g_25, a0g_26, a0g_27, a0g_28, a0g_29, a0g_30, a0g_31, a0g_32, a0g_33, a0g_34, a0g_35, a0g_36, a0g_37, a0g_38, a0g_39]))] [] (fun A _ => True) (fun A => va_Qi (fun (r : Int32) (_ : Unit) => r = (-1)) (fun (_ : Unit) (t : State) => ∃ na0_0 : Int32, ∃ na0_11 : Int32, ax_B dC dI A [(a0, .inr (8, [Value.int na0_0, a0g_1, a0g_2, a0g_3, a0g_4, a0g_5, a0g_6, a0g_7, a0g_8, a0g_9, a0g_10, Value.int na0_11, a0g_12, a0g_13, Value.int a0_14, a0g_15, a0g_16, a0g_17, a0g_18, a0g_19, a0g_20, a0g_21, a0g_22, a0g_23, a0g_24, a0g_25, a0g_26, a0g_27, a0g_28, a0g_29, a0g_30, a0g_31, a0g_32, a0g_33, a0g_34, a0g_35, a0g_36, a0g_37, a0g_38, a0g_39]))] [] t) A) := by
  refine zh (cc := cX8_rest) (maxL := 3) (ret := (some .int)) zn_RX8 rfl (Nat.le_of_ble_eq_true rfl) (fun p e s m below meth c A ls hx hb hml hr hts (hown : s.vm.findClass RX8 = some m.cls) hlocks hA hS hP hK hD hE (hl : lv_has ls 3 [(0, .ref a0), (1, .int a1)]) => ?_)
  refine lv_aload_n hx hb dX8_rest_0 rfl (lv_at hl 0 rfl) ?_
  refine va_callv (va_runV (As := []) (rest := []) ⟨hx, hb, hml, hown, hts⟩ (c_X8_good l dC dI s.heap.size a0 a0_0 a0g_1 a0g_2 a0g_3 a0g_4 a0g_5 a0g_6 a0g_7 a0g_8 a0g_9 a0g_10 a0g_12 a0g_13 (Value.int a0_14) a0g_15 a0g_16 a0g_17 a0g_18 a0g_19 a0g_20 a0g_21 a0g_22 a0g_23 a0g_24 a0g_25 a0g_26 a0g_27 a0g_28 a0g_29 a0g_30 a0g_31 a0g_32 a0g_33 a0g_34 a0g_35 a0g_36 a0g_37 a0g_38 a0g_39 a0_11 ) (cwV 0 hts gX8_rest_X8_good rfl rfl rfl zd_X8_good ⟨Nat.le_of_ble_eq_true rfl, Nat.le_of_ble_eq_true rfl⟩) ⟨ax_blind (fun _ _ _ _ _ => trivial), zr_8 (zp_K hK) (zp_P1 hP) (q0 := 0) rfl, ax_pre (zp_P1 hP) (zp_K hK) (zp_D1 hD) (fun _ _ => trivial)⟩ rfl rfl hl.1 rfl (lv_room (Nat.le_of_ble_eq_true rfl)) dX8_rest_1 ⟨Nat.le_of_ble_eq_true rfl, Nat.le_of_ble_eq_true rfl⟩) hS (fun q _ h => zp_F1 hD hS hA q h) (zp_F1 hD hS hA) (fun u t H locs ht hvm hw => zx_2 (fun v1na0_0 v1na0_11 hB hz1 hk1 hS1 => zo1 hB ht hP hD hk1 (zp_F1 hD hS hA) hS1 (fun hP hK1 hD hS => ?_)))
  refine lv_aload_n hx hb dX8_rest_4 rfl (lv_at hl 0 rfl) ?_
  refine lv_aload_n hx hb dX8_rest_5 rfl (lv_at hl 0 rfl) ?_
  refine va_get (D := (dC, dI)) (ci := 8) (v := .int a0_14) (C := RX8) (T := TX8) (N := 40) hx hb hts zi_X8_rest_8 hown hK hP 0 rfl rfl 14 (by decide) (hts (.fieldLink RX8 173 "WaxTurnsModel" "hasGallery" "Z") (zm_X8_rest_r1 (List.mem_of_getElem? (i := 0) rfl))) (fun _ h9 => h9) rfl dX8_rest_6 ?_
  refine lv_iload_n hx hb dX8_rest_9 rfl (lv_at hl 1 rfl) ?_
  refine lv_iconst (v := 0) hx hb dX8_rest_10 zk_iconst_0 ?_
  refine lv_bipush (v := 9) hx hb dX8_rest_11 zk_bipush_9 ?_
  refine va_calli (va_runS (As := [.int a1, .int 0, .int 9]) (rest := [.int a0_14, .ref a0]) ⟨hx, hb, hml, hown, hts⟩ (c_X8_in l dC dI H.size a1 0 9 ) (va_cwS 3 hts gX8_rest_X8_in rfl rfl rfl zd_X8_in.2 ⟨Nat.le_of_ble_eq_true rfl, Nat.le_of_ble_eq_true rfl⟩) ⟨ax_blind (fun _ _ _ _ _ => trivial), ax_pre (zp_P0 hP) (zp_K hK) (zp_D0 hD) (fun _ _ => trivial)⟩ rfl rfl hl.1 rfl (lv_room (Nat.le_of_ble_eq_true rfl)) dX8_rest_13 ⟨Nat.le_of_ble_eq_true rfl, Nat.le_of_ble_eq_true rfl⟩) hS (fun q _ h => zp_F0 hD hS hA q h) (zp_F0 hD hS hA) (fun r13 u t H locs ht hvm hw hB hz1 hk1 hS1 => zo0 hB ht hP hD hk1 (zp_F0 hD hS hA) hS1 (fun hP hK1 hD hS => ?_))
  rcases hw with hw | hw
  · obtain ⟨hw, h13⟩ := hw
    subst hw
    have l13k0_a1 : (0 : Int) ≤ a1.toInt := Int.le_trans zq5 h13.1
    have u13k0_a1 : a1.toInt ≤ (9 : Int) := Int.le_trans h13.2 zq3
    refine va_calli (va_runV (As := [.int a0_14, .int 1]) (rest := []) ⟨hx, hb, hml, hown, hts⟩ (c_X8_whyB l dC dI H.size a0 a0_14 1 (Value.int v1na0_0) a0g_1 a0g_2 a0g_3 a0g_4 a0g_5 a0g_6 a0g_7 a0g_8 a0g_9 a0g_10 (Value.int v1na0_11) a0g_12 a0g_13 (Value.int a0_14) a0g_15 a0g_16 a0g_17 a0g_18 a0g_19 a0g_20 a0g_21 a0g_22 a0g_23 a0g_24 a0g_25 a0g_26 a0g_27 a0g_28 a0g_29 a0g_30 a0g_31 a0g_32 a0g_33 a0g_34 a0g_35 a0g_36 a0g_37 a0g_38 a0g_39 ba0_14_l (Int.le_trans ba0_14_u zq4) (Int.le_trans zq4 zq1) zq0) (cwV 2 hts gX8_rest_X8_why rfl rfl rfl zd_X8_why ⟨Nat.le_of_ble_eq_true rfl, Nat.le_of_ble_eq_true rfl⟩) ⟨ax_blind (fun _ _ _ _ _ => trivial), zr_8 (zp_K hK) (zp_P1 hP) (q0 := 0) rfl, ax_pre (zp_P1 hP) (zp_K hK) (zp_D1 hD) (fun _ _ => trivial)⟩ rfl rfl hl.1 rfl (lv_room (Nat.le_of_ble_eq_true rfl)) dX8_rest_16 ⟨Nat.le_of_ble_eq_true rfl, Nat.le_of_ble_eq_true rfl⟩) hS (fun q _ h => zp_F1 hD hS hA q h) (zp_F1 hD hS hA) (fun r16 u t H locs ht hvm hw hB hz1 hk1 hS1 => zo1 hB ht hP hD hk1 (zp_F1 hD hS hA) hS1 (fun hP hK1 hD hS => ?_))
    rcases hw with hw | hw | hw
    · obtain ⟨hw, h16_0, h16_1, h16_2, h16_3⟩ := hw
      subst hw
      have l16k0_a0_14 : (1 : Int) ≤ a0_14.toInt := h16_0
      have u16k0_a0_14 : a0_14.toInt ≤ (0 : Int) := ba0_14_u
      exact absurd (Int.le_trans l16k0_a0_14 u16k0_a0_14) (by decide)
    · obtain ⟨hw, h16_0, h16_1⟩ := hw
      subst hw
      have l16k1_a0_14 : (0 : Int) ≤ a0_14.toInt := ba0_14_l
      have u16k1_a0_14 : a0_14.toInt ≤ (0 : Int) := ba0_14_u
      refine lv_istore_n (lv' := [(2, .int 1), (0, .ref a0), (1, .int a1)]) hx hb dX8_rest_19 rfl hl (by decide) rfl (fun ls hl => ?_)
      refine lv_iload_n hx hb dX8_rest_20 rfl (lv_at hl 0 rfl) ?_
      refine lv_if_eq (tgt := 30) hx hb dX8_rest_21 (by decide) (fun c21 => absurd c21 (by decide +kernel)) (fun _ => ?_)
      refine lv_aload_n hx hb dX8_rest_24 rfl (lv_at hl 1 rfl) ?_
      refine lv_iload_n hx hb dX8_rest_25 rfl (lv_at hl 0 rfl) ?_
      refine va_calli (va_runV (As := [.int 1]) (rest := []) ⟨hx, hb, hml, hown, hts⟩ (c_X8_no l dC dI H.size a0 1 (Value.int v1na0_0) a0g_1 a0g_2 a0g_3 a0g_4 a0g_5 a0g_6 a0g_7 a0g_8 a0g_9 a0g_10 a0g_12 a0g_13 (Value.int a0_14) a0g_15 a0g_16 a0g_17 a0g_18 a0g_19 a0g_20 a0g_21 a0g_22 a0g_23 a0g_24 a0g_25 a0g_26 a0g_27 a0g_28 a0g_29 a0g_30 a0g_31 a0g_32 a0g_33 a0g_34 a0g_35 a0g_36 a0g_37 a0g_38 a0g_39 v1na0_11 ) (cwV 1 hts gX8_rest_X8_no rfl rfl rfl zd_X8_no ⟨Nat.le_of_ble_eq_true rfl, Nat.le_of_ble_eq_true rfl⟩) ⟨ax_blind (fun _ _ _ _ _ => trivial), zr_8 (zp_K hK) (zp_P1 hP) (q0 := 0) rfl, ax_pre (zp_P1 hP) (zp_K hK) (zp_D1 hD) (fun _ _ => trivial)⟩ rfl rfl hl.1 rfl (lv_room (Nat.le_of_ble_eq_true rfl)) dX8_rest_26 ⟨Nat.le_of_ble_eq_true rfl, Nat.le_of_ble_eq_true rfl⟩) hS (fun q _ h => zp_F1 hD hS hA q h) (zp_F1 hD hS hA) (fun r26 u t H locs ht hvm hw => zx_1 (fun v26na0_11 hB hz1 hk1 hS1 => zo1 hB ht hP hD hk1 (zp_F1 hD hS hA) hS1 (fun hP hK1 hD hS => ?_)))
      have hw : r26 = (-1) := hw
      have hw := hw.symm
      subst hw
      exact W.iret (v := (-1)) hx hb hr (fun t ht hW => ⟨⟨(-1), (), rfl, rfl, v1na0_0, v26na0_11, by rw [ht]; exact hP, va_K.moved hW.alike hK, hD⟩, hS.F ht⟩) hS.2.2 dX8_rest_29
    · obtain ⟨hw, h16_0, h16_1, h16_2, h16_3⟩ := hw
      subst hw
      have l16k2_a0_14 : (1 : Int) ≤ a0_14.toInt := h16_0
      have u16k2_a0_14 : a0_14.toInt ≤ (0 : Int) := ba0_14_u
      exact absurd (Int.le_trans l16k2_a0_14 u16k2_a0_14) (by decide)
  · obtain ⟨hw, h13⟩ := hw
    subst hw
    refine va_calli (va_runV (As := [.int a0_14, .int 0]) (rest := []) ⟨hx, hb, hml, hown, hts⟩ (c_X8_whyB l dC dI H.size a0 a0_14 0 (Value.int v1na0_0) a0g_1 a0g_2 a0g_3 a0g_4 a0g_5 a0g_6 a0g_7 a0g_8 a0g_9 a0g_10 (Value.int v1na0_11) a0g_12 a0g_13 (Value.int a0_14) a0g_15 a0g_16 a0g_17 a0g_18 a0g_19 a0g_20 a0g_21 a0g_22 a0g_23 a0g_24 a0g_25 a0g_26 a0g_27 a0g_28 a0g_29 a0g_30 a0g_31 a0g_32 a0g_33 a0g_34 a0g_35 a0g_36 a0g_37 a0g_38 a0g_39 ba0_14_l (Int.le_trans ba0_14_u zq4) zq5 (Int.le_trans zq6 zq4)) (cwV 2 hts gX8_rest_X8_why rfl rfl rfl zd_X8_why ⟨Nat.le_of_ble_eq_true rfl, Nat.le_of_ble_eq_true rfl⟩) ⟨ax_blind (fun _ _ _ _ _ => trivial), zr_8 (zp_K hK) (zp_P1 hP) (q0 := 0) rfl, ax_pre (zp_P1 hP) (zp_K hK) (zp_D1 hD) (fun _ _ => trivial)⟩ rfl rfl hl.1 rfl (lv_room (Nat.le_of_ble_eq_true rfl)) dX8_rest_16 ⟨Nat.le_of_ble_eq_true rfl, Nat.le_of_ble_eq_true rfl⟩) hS (fun q _ h => zp_F1 hD hS hA q h) (zp_F1 hD hS hA) (fun r16 u t H locs ht hvm hw hB hz1 hk1 hS1 => zo1 hB ht hP hD hk1 (zp_F1 hD hS hA) hS1 (fun hP hK1 hD hS => ?_))
    rcases hw with hw | hw | hw
    · obtain ⟨hw, h16_0, h16_1, h16_2, h16_3⟩ := hw
      subst hw
      have l16k0_a0_14 : (1 : Int) ≤ a0_14.toInt := h16_0
      have u16k0_a0_14 : a0_14.toInt ≤ (0 : Int) := ba0_14_u
      exact absurd (Int.le_trans l16k0_a0_14 u16k0_a0_14) (by decide)
    · obtain ⟨hw, h16_0, h16_1⟩ := hw
      subst hw
      have l16k1_a0_14 : (0 : Int) ≤ a0_14.toInt := ba0_14_l
      have u16k1_a0_14 : a0_14.toInt ≤ (0 : Int) := ba0_14_u
      refine lv_istore_n (lv' := [(2, .int 1), (0, .ref a0), (1, .int a1)]) hx hb dX8_rest_19 rfl hl (by decide) rfl (fun ls hl => ?_)
      refine lv_iload_n hx hb dX8_rest_20 rfl (lv_at hl 0 rfl) ?_
      refine lv_if_eq (tgt := 30) hx hb dX8_rest_21 (by decide) (fun c21 => absurd c21 (by decide +kernel)) (fun _ => ?_)
      refine lv_aload_n hx hb dX8_rest_24 rfl (lv_at hl 1 rfl) ?_
      refine lv_iload_n hx hb dX8_rest_25 rfl (lv_at hl 0 rfl) ?_
      refine va_calli (va_runV (As := [.int 1]) (rest := []) ⟨hx, hb, hml, hown, hts⟩ (c_X8_no l dC dI H.size a0 1 (Value.int v1na0_0) a0g_1 a0g_2 a0g_3 a0g_4 a0g_5 a0g_6 a0g_7 a0g_8 a0g_9 a0g_10 a0g_12 a0g_13 (Value.int a0_14) a0g_15 a0g_16 a0g_17 a0g_18 a0g_19 a0g_20 a0g_21 a0g_22 a0g_23 a0g_24 a0g_25 a0g_26 a0g_27 a0g_28 a0g_29 a0g_30 a0g_31 a0g_32 a0g_33 a0g_34 a0g_35 a0g_36 a0g_37 a0g_38 a0g_39 v1na0_11 ) (cwV 1 hts gX8_rest_X8_no rfl rfl rfl zd_X8_no ⟨Nat.le_of_ble_eq_true rfl, Nat.le_of_ble_eq_true rfl⟩) ⟨ax_blind (fun _ _ _ _ _ => trivial), zr_8 (zp_K hK) (zp_P1 hP) (q0 := 0) rfl, ax_pre (zp_P1 hP) (zp_K hK) (zp_D1 hD) (fun _ _ => trivial)⟩ rfl rfl hl.1 rfl (lv_room (Nat.le_of_ble_eq_true rfl)) dX8_rest_26 ⟨Nat.le_of_ble_eq_true rfl, Nat.le_of_ble_eq_true rfl⟩) hS (fun q _ h => zp_F1 hD hS hA q h) (zp_F1 hD hS hA) (fun r26 u t H locs ht hvm hw => zx_1 (fun v26na0_11 hB hz1 hk1 hS1 => zo1 hB ht hP hD hk1 (zp_F1 hD hS hA) hS1 (fun hP hK1 hD hS => ?_)))
      have hw : r26 = (-1) := hw
      have hw := hw.symm
      subst hw
      exact W.iret (v := (-1)) hx hb hr (fun t ht hW => ⟨⟨(-1), (), rfl, rfl, v1na0_0, v26na0_11, by rw [ht]; exact hP, va_K.moved hW.alike hK, hD⟩, hS.F ht⟩) hS.2.2 dX8_rest_29
    · obtain ⟨hw, h16_0, h16_1, h16_2, h16_3⟩ := hw
      subst hw
      have l16k2_a0_14 : (1 : Int) ≤ a0_14.toInt := h16_0
      have u16k2_a0_14 : a0_14.toInt ≤ (0 : Int) := ba0_14_u
      exact absurd (Int.le_trans l16k2_a0_14 u16k2_a0_14) (by decide)

set_option maxHeartbeats 4000000 in
set_option maxRecDepth 100000 in
theorem c0_X8_drawn (l : Launch) (dC : Nat → ClassId) (dI : Nat → Nat → Nat) (sz : Nat) (a0 : Nat) (a1 : Int32) (a2 : Int32) (a3 : Int32) (a0_0 : Int32) (a0g_1 a0g_2 a0g_3 a0g_4 a0g_5 a0g_6 a0g_7 a0g_8 a0g_9 a0g_10 a0g_12 a0g_13 a0g_15 a0g_16 a0g_17 a0g_18 a0g_19 a0g_20 a0g_21 a0g_22 a0g_23 a0g_24 a0g_25 a0g_26 a0g_27 a0g_28 a0g_29 a0g_30 a0g_31 a0g_32 a0g_33 a0g_34 a0g_35 a0g_36 a0g_37 a0g_38 a0g_39 : Value) (a0_11 : Int32) (a0_14 : Int32) (ba0_14_l : (0 : Int) ≤ a0_14.toInt) (ba0_14_u : a0_14.toInt ≤ (0 : Int)) : zm l yX8_drawn wsX8_drawn ({ frames := 2, cells := 0, slots := 0, locals := 50 }) [.ref a0, .int a1, .int a2, .int a3] dC dI sz [(a0, .inr (8, [Value.int a0_0, a0g_1, a0g_2, a0g_3, a0g_4, a0g_5, a0g_6, a0g_7, a0g_8, a0g_9, a0g_10, Value.int a0_11, a0g_12, a0g_13, Value.int a0_14, a0g_15, a0g_16, a0g_17, a0g_18, a0g_19, a0g_20, a0g_21, a0g_22, a0g_23, a0g_24, a0g_25, a0g_26, a0g_27, a0g_28, a0g_29, a0g_30, a0g_31, a0g_32, a0g_33, a0g_34, a0g_35, a0g_36, a0g_37, a0g_38, a0g_39]))] [] (fun A _ => True) (fun A => va_Qi (fun (r : Int32) (_ : Unit) => r = (-1)) (fun (_ : Unit) (t : State) => ∃ na0_0 : Int32, ∃ na0_11 : Int32, ax_B dC dI A [(a0, .inr (8, [Value.int na0_0, a0g_1, a0g_2, a0g_3, a0g_4, a0g_5, a0g_6, a0g_7, a0g_8, a0g_9, a0g_10, Value.int na0_11, a0g_12, a0g_13, Value.int a0_14, a0g_15, a0g_16, a0g_17, a0g_18, a0g_19, a0g_20, a0g_21, a0g_22, a0g_23, a0g_24, a0g_25, a0g_26, a0g_27, a0g_28, a0g_29, a0g_30, a0g_31, a0g_32, a0g_33, a0g_34, a0g_35, a0g_36, a0g_37, a0g_38, a0g_39]))] [] t) A) := by
  refine zh (cc := cX8_drawn) (maxL := 5) (ret := (some .int)) zn_RX8 rfl (Nat.le_of_ble_eq_true rfl) (fun p e s m below meth c A ls hx hb hml hr hts (hown : s.vm.findClass RX8 = some m.cls) hlocks hA hS hP hK hD hE (hl : lv_has ls 5 [(0, .ref a0), (1, .int a1), (2, .int a2), (3, .int a3)]) => ?_)
  refine lv_aload_n hx hb dX8_drawn_0 rfl (lv_at hl 0 rfl) ?_
  refine va_callv (va_runV (As := []) (rest := []) ⟨hx, hb, hml, hown, hts⟩ (c_X8_good l dC dI s.heap.size a0 a0_0 a0g_1 a0g_2 a0g_3 a0g_4 a0g_5 a0g_6 a0g_7 a0g_8 a0g_9 a0g_10 a0g_12 a0g_13 (Value.int a0_14) a0g_15 a0g_16 a0g_17 a0g_18 a0g_19 a0g_20 a0g_21 a0g_22 a0g_23 a0g_24 a0g_25 a0g_26 a0g_27 a0g_28 a0g_29 a0g_30 a0g_31 a0g_32 a0g_33 a0g_34 a0g_35 a0g_36 a0g_37 a0g_38 a0g_39 a0_11 ) (cwV 0 hts gX8_drawn_X8_good rfl rfl rfl zd_X8_good ⟨Nat.le_of_ble_eq_true rfl, Nat.le_of_ble_eq_true rfl⟩) ⟨ax_blind (fun _ _ _ _ _ => trivial), zr_8 (zp_K hK) (zp_P1 hP) (q0 := 0) rfl, ax_pre (zp_P1 hP) (zp_K hK) (zp_D1 hD) (fun _ _ => trivial)⟩ rfl rfl hl.1 rfl (lv_room (Nat.le_of_ble_eq_true rfl)) dX8_drawn_1 ⟨Nat.le_of_ble_eq_true rfl, Nat.le_of_ble_eq_true rfl⟩) hS (fun q _ h => zp_F1 hD hS hA q h) (zp_F1 hD hS hA) (fun u t H locs ht hvm hw => zx_2 (fun v1na0_0 v1na0_11 hB hz1 hk1 hS1 => zo1 hB ht hP hD hk1 (zp_F1 hD hS hA) hS1 (fun hP hK1 hD hS => ?_)))
  refine lv_aload_n hx hb dX8_drawn_4 rfl (lv_at hl 0 rfl) ?_
  refine lv_aload_n hx hb dX8_drawn_5 rfl (lv_at hl 0 rfl) ?_
  refine lv_iload_n hx hb dX8_drawn_6 rfl (lv_at hl 1 rfl) ?_
  refine va_calli (va_runV (As := [.int a1]) (rest := [.ref a0]) ⟨hx, hb, hml, hown, hts⟩ (c0_X8_isFigure l dC dI H.size a0 a1 (Value.int v1na0_0) a0g_1 a0g_2 a0g_3 a0g_4 a0g_5 a0g_6 a0g_7 a0g_8 a0g_9 a0g_10 (Value.int v1na0_11) a0g_12 a0g_13 a0g_15 a0g_16 a0g_17 a0g_18 a0g_19 a0g_20 a0g_21 a0g_22 a0g_23 a0g_24 a0g_25 a0g_26 a0g_27 a0g_28 a0g_29 a0g_30 a0g_31 a0g_32 a0g_33 a0g_34 a0g_35 a0g_36 a0g_37 a0g_38 a0g_39 a0_14 ba0_14_l ba0_14_u) (cwV 1 hts gX8_drawn_X8_isFigure rfl rfl rfl zd_X8_isFigure ⟨Nat.le_of_ble_eq_true rfl, Nat.le_of_ble_eq_true rfl⟩) ⟨ax_blind (fun _ _ _ _ _ => trivial), zr_8 (zp_K hK) (zp_P1 hP) (q0 := 0) rfl, ax_pre (zp_P1 hP) (zp_K hK) (zp_D1 hD) (fun _ _ => trivial)⟩ rfl rfl hl.1 rfl (lv_room (Nat.le_of_ble_eq_true rfl)) dX8_drawn_7 ⟨Nat.le_of_ble_eq_true rfl, Nat.le_of_ble_eq_true rfl⟩) hS (fun q _ h => zp_F1 hD hS hA q h) (zp_F1 hD hS hA) (fun r7 u t H locs ht hvm hw hB hz1 hk1 hS1 => zo1 hB ht hP hD hk1 (zp_F1 hD hS hA) hS1 (fun hP hK1 hD hS => ?_))
  have hw : r7 = 0 := hw
  have hw := hw.symm
  subst hw
  refine lv_iload_n hx hb dX8_drawn_10 rfl (lv_at hl 1 rfl) ?_
  refine lv_iload_n hx hb dX8_drawn_11 rfl (lv_at hl 2 rfl) ?_
  refine lv_iload_n hx hb dX8_drawn_12 rfl (lv_at hl 3 rfl) ?_
  refine va_calli (va_runV (As := [.int 0, .int a1, .int a2, .int a3]) (rest := []) ⟨hx, hb, hml, hown, hts⟩ (c0_X8_drawWhy l dC dI H.size a0 0 a1 a2 a3 (Value.int v1na0_0) a0g_1 a0g_2 a0g_3 a0g_4 a0g_5 a0g_6 a0g_7 a0g_8 a0g_9 a0g_10 (Value.int v1na0_11) a0g_12 a0g_13 (Value.int a0_14) a0g_15 a0g_16 a0g_17 a0g_18 a0g_19 a0g_20 a0g_21 a0g_22 a0g_23 a0g_24 a0g_25 a0g_26 a0g_27 a0g_28 a0g_29 a0g_30 a0g_31 a0g_32 a0g_33 a0g_34 a0g_35 a0g_36 a0g_37 a0g_38 a0g_39 zq5 zq6) (cwV 4 hts gX8_drawn_X8_drawWhy rfl rfl rfl zd_X8_drawWhy ⟨Nat.le_of_ble_eq_true rfl, Nat.le_of_ble_eq_true rfl⟩) ⟨ax_blind (fun _ _ _ _ _ => trivial), zr_8 (zp_K hK) (zp_P1 hP) (q0 := 0) rfl, ax_pre (zp_P1 hP) (zp_K hK) (zp_D1 hD) (fun _ _ => trivial)⟩ rfl rfl hl.1 rfl (lv_room (Nat.le_of_ble_eq_true rfl)) dX8_drawn_13 ⟨Nat.le_of_ble_eq_true rfl, Nat.le_of_ble_eq_true rfl⟩) hS (fun q _ h => zp_F1 hD hS hA q h) (zp_F1 hD hS hA) (fun r13 u t H locs ht hvm hw hB hz1 hk1 hS1 => zo1 hB ht hP hD hk1 (zp_F1 hD hS hA) hS1 (fun hP hK1 hD hS => ?_))
  have hw : r13 = 1 := hw
  have hw := hw.symm
  subst hw
  refine lv_istore (lv' := [(4, .int 1), (0, .ref a0), (1, .int a1), (2, .int a2), (3, .int a3)]) hx hb dX8_drawn_16 hl (by decide) rfl (fun ls hl => ?_)
  refine lv_iload hx hb dX8_drawn_18 (lv_at hl 0 rfl) ?_
  refine lv_if_eq (tgt := 32) hx hb dX8_drawn_20 (by decide) (fun c20 => absurd c20 (by decide +kernel)) (fun _ => ?_)
  refine lv_aload_n hx hb dX8_drawn_23 rfl (lv_at hl 1 rfl) ?_
  refine lv_iload hx hb dX8_drawn_24 (lv_at hl 0 rfl) ?_
  refine va_calli (va_runV (As := [.int 1]) (rest := []) ⟨hx, hb, hml, hown, hts⟩ (c_X8_no l dC dI H.size a0 1 (Value.int v1na0_0) a0g_1 a0g_2 a0g_3 a0g_4 a0g_5 a0g_6 a0g_7 a0g_8 a0g_9 a0g_10 a0g_12 a0g_13 (Value.int a0_14) a0g_15 a0g_16 a0g_17 a0g_18 a0g_19 a0g_20 a0g_21 a0g_22 a0g_23 a0g_24 a0g_25 a0g_26 a0g_27 a0g_28 a0g_29 a0g_30 a0g_31 a0g_32 a0g_33 a0g_34 a0g_35 a0g_36 a0g_37 a0g_38 a0g_39 v1na0_11 ) (cwV 1 hts gX8_drawn_X8_no rfl rfl rfl zd_X8_no ⟨Nat.le_of_ble_eq_true rfl, Nat.le_of_ble_eq_true rfl⟩) ⟨ax_blind (fun _ _ _ _ _ => trivial), zr_8 (zp_K hK) (zp_P1 hP) (q0 := 0) rfl, ax_pre (zp_P1 hP) (zp_K hK) (zp_D1 hD) (fun _ _ => trivial)⟩ rfl rfl hl.1 rfl (lv_room (Nat.le_of_ble_eq_true rfl)) dX8_drawn_26 ⟨Nat.le_of_ble_eq_true rfl, Nat.le_of_ble_eq_true rfl⟩) hS (fun q _ h => zp_F1 hD hS hA q h) (zp_F1 hD hS hA) (fun r26 u t H locs ht hvm hw => zx_1 (fun v26na0_11 hB hz1 hk1 hS1 => zo1 hB ht hP hD hk1 (zp_F1 hD hS hA) hS1 (fun hP hK1 hD hS => ?_)))
  have hw : r26 = (-1) := hw
  have hw := hw.symm
  subst hw
  refine lv_goto (tgt := 36) hx hb dX8_drawn_29 (by decide) ?_
  exact W.iret (v := (-1)) hx hb hr (fun t ht hW => ⟨⟨(-1), (), rfl, rfl, v1na0_0, v26na0_11, by rw [ht]; exact hP, va_K.moved hW.alike hK, hD⟩, hS.F ht⟩) hS.2.2 dX8_drawn_36
end P280_05_safe
section P280_06_safe
set_option maxHeartbeats 4000000 in
set_option maxRecDepth 100000 in
theorem c0_X8_firstShut (l : Launch) (dC : Nat → ClassId) (dI : Nat → Nat → Nat) (sz : Nat) (a0 : Nat) (a1 : Int32) (a2 : Int32) (a0_0 : Int32) (a0g_1 a0g_2 a0g_3 a0g_4 a0g_5 a0g_6 a0g_7 a0g_8 a0g_9 a0g_10 a0g_12 a0g_13 a0g_15 a0g_16 a0g_17 a0g_18 a0g_19 a0g_20 a0g_21 a0g_22 a0g_23 a0g_24 a0g_25 a0g_26 a0g_27 a0g_28 a0g_29 a0g_30 a0g_31 a0g_32 a0g_33 a0g_34 a0g_35 a0g_36 a0g_37 a0g_38 a0g_39 : Value) (a0_11 : Int32) (a0_14 : Int32) (ba0_14_l : (0 : Int) ≤ a0_14.toInt) (ba0_14_u : a0_14.toInt ≤ (0 : Int)) : zm l yX8_firstShut wsX8_firstShut ({ frames := 2, cells := 0, slots := 0, locals := 50 }) [.ref a0, .int a1, .int a2] dC dI sz [(a0, .inr (8, [Value.int a0_0, a0g_1, a0g_2, a0g_3, a0g_4, a0g_5, a0g_6, a0g_7, a0g_8, a0g_9, a0g_10, Value.int a0_11, a0g_12, a0g_13, Value.int a0_14, a0g_15, a0g_16, a0g_17, a0g_18, a0g_19, a0g_20, a0g_21, a0g_22, a0g_23, a0g_24, a0g_25, a0g_26, a0g_27, a0g_28, a0g_29, a0g_30, a0g_31, a0g_32, a0g_33, a0g_34, a0g_35, a0g_36, a0g_37, a0g_38, a0g_39]))] [] (fun A _ => True) (fun A => va_Qi (fun (r : Int32) (_ : Unit) => r = (-1)) (fun (_ : Unit) (t : State) => ∃ na0_0 : Int32, ∃ na0_11 : Int32, ax_B dC dI A [(a0, .inr (8, [Value.int na0_0, a0g_1, a0g_2, a0g_3, a0g_4, a0g_5, a0g_6, a0g_7, a0g_8, a0g_9, a0g_10, Value.int na0_11, a0g_12, a0g_13, Value.int a0_14, a0g_15, a0g_16, a0g_17, a0g_18, a0g_19, a0g_20, a0g_21, a0g_22, a0g_23, a0g_24, a0g_25, a0g_26, a0g_27, a0g_28, a0g_29, a0g_30, a0g_31, a0g_32, a0g_33, a0g_34, a0g_35, a0g_36, a0g_37, a0g_38, a0g_39]))] [] t) A) := by
  refine zh (cc := cX8_firstShut) (maxL := 4) (ret := (some .int)) zn_RX8 rfl (Nat.le_of_ble_eq_true rfl) (fun p e s m below meth c A ls hx hb hml hr hts (hown : s.vm.findClass RX8 = some m.cls) hlocks hA hS hP hK hD hE (hl : lv_has ls 4 [(0, .ref a0), (1, .int a1), (2, .int a2)]) => ?_)
  refine lv_aload_n hx hb dX8_firstShut_0 rfl (lv_at hl 0 rfl) ?_
  refine va_callv (va_runV (As := []) (rest := []) ⟨hx, hb, hml, hown, hts⟩ (c_X8_good l dC dI s.heap.size a0 a0_0 a0g_1 a0g_2 a0g_3 a0g_4 a0g_5 a0g_6 a0g_7 a0g_8 a0g_9 a0g_10 a0g_12 a0g_13 (Value.int a0_14) a0g_15 a0g_16 a0g_17 a0g_18 a0g_19 a0g_20 a0g_21 a0g_22 a0g_23 a0g_24 a0g_25 a0g_26 a0g_27 a0g_28 a0g_29 a0g_30 a0g_31 a0g_32 a0g_33 a0g_34 a0g_35 a0g_36 a0g_37 a0g_38 a0g_39 a0_11 ) (cwV 0 hts gX8_firstShut_X8_good rfl rfl rfl zd_X8_good ⟨Nat.le_of_ble_eq_true rfl, Nat.le_of_ble_eq_true rfl⟩) ⟨ax_blind (fun _ _ _ _ _ => trivial), zr_8 (zp_K hK) (zp_P1 hP) (q0 := 0) rfl, ax_pre (zp_P1 hP) (zp_K hK) (zp_D1 hD) (fun _ _ => trivial)⟩ rfl rfl hl.1 rfl (lv_room (Nat.le_of_ble_eq_true rfl)) dX8_firstShut_1 ⟨Nat.le_of_ble_eq_true rfl, Nat.le_of_ble_eq_true rfl⟩) hS (fun q _ h => zp_F1 hD hS hA q h) (zp_F1 hD hS hA) (fun u t H locs ht hvm hw => zx_2 (fun v1na0_0 v1na0_11 hB hz1 hk1 hS1 => zo1 hB ht hP hD hk1 (zp_F1 hD hS hA) hS1 (fun hP hK1 hD hS => ?_)))
  refine lv_aload_n hx hb dX8_firstShut_4 rfl (lv_at hl 0 rfl) ?_
  refine lv_aload_n hx hb dX8_firstShut_5 rfl (lv_at hl 0 rfl) ?_
  refine va_get (D := (dC, dI)) (ci := 8) (v := .int a0_14) (C := RX8) (T := TX8) (N := 40) hx hb hts zi_X8_firstShut_8 hown hK hP 0 rfl rfl 14 (by decide) (hts (.fieldLink RX8 173 "WaxTurnsModel" "hasGallery" "Z") (zm_X8_firstShut_r1 (List.mem_of_getElem? (i := 0) rfl))) (fun _ h9 => h9) rfl dX8_firstShut_6 ?_
  refine lv_iconst (v := (-1)) hx hb dX8_firstShut_9 zk_iconst_n1 ?_
  refine lv_iload_n hx hb dX8_firstShut_10 rfl (lv_at hl 1 rfl) ?_
  refine lv_iload_n hx hb dX8_firstShut_11 rfl (lv_at hl 2 rfl) ?_
  refine va_calli (va_runV (As := [.int a0_14, .int (-1), .int a1, .int a2]) (rest := []) ⟨hx, hb, hml, hown, hts⟩ (c0_X8_drawWhy l dC dI H.size a0 a0_14 (-1) a1 a2 (Value.int v1na0_0) a0g_1 a0g_2 a0g_3 a0g_4 a0g_5 a0g_6 a0g_7 a0g_8 a0g_9 a0g_10 (Value.int v1na0_11) a0g_12 a0g_13 (Value.int a0_14) a0g_15 a0g_16 a0g_17 a0g_18 a0g_19 a0g_20 a0g_21 a0g_22 a0g_23 a0g_24 a0g_25 a0g_26 a0g_27 a0g_28 a0g_29 a0g_30 a0g_31 a0g_32 a0g_33 a0g_34 a0g_35 a0g_36 a0g_37 a0g_38 a0g_39 ba0_14_l ba0_14_u) (cwV 4 hts gX8_firstShut_X8_drawWhy rfl rfl rfl zd_X8_drawWhy ⟨Nat.le_of_ble_eq_true rfl, Nat.le_of_ble_eq_true rfl⟩) ⟨ax_blind (fun _ _ _ _ _ => trivial), zr_8 (zp_K hK) (zp_P1 hP) (q0 := 0) rfl, ax_pre (zp_P1 hP) (zp_K hK) (zp_D1 hD) (fun _ _ => trivial)⟩ rfl rfl hl.1 rfl (lv_room (Nat.le_of_ble_eq_true rfl)) dX8_firstShut_12 ⟨Nat.le_of_ble_eq_true rfl, Nat.le_of_ble_eq_true rfl⟩) hS (fun q _ h => zp_F1 hD hS hA q h) (zp_F1 hD hS hA) (fun r12 u t H locs ht hvm hw hB hz1 hk1 hS1 => zo1 hB ht hP hD hk1 (zp_F1 hD hS hA) hS1 (fun hP hK1 hD hS => ?_))
  have hw : r12 = 1 := hw
  have hw := hw.symm
  subst hw
  refine lv_istore_n (lv' := [(3, .int 1), (0, .ref a0), (1, .int a1), (2, .int a2)]) hx hb dX8_firstShut_15 rfl hl (by decide) rfl (fun ls hl => ?_)
  refine lv_iload_n hx hb dX8_firstShut_16 rfl (lv_at hl 0 rfl) ?_
  refine lv_if_eq (tgt := 28) hx hb dX8_firstShut_17 (by decide) (fun c17 => absurd c17 (by decide +kernel)) (fun _ => ?_)
  refine lv_aload_n hx hb dX8_firstShut_20 rfl (lv_at hl 1 rfl) ?_
  refine lv_iload_n hx hb dX8_firstShut_21 rfl (lv_at hl 0 rfl) ?_
  refine va_calli (va_runV (As := [.int 1]) (rest := []) ⟨hx, hb, hml, hown, hts⟩ (c_X8_no l dC dI H.size a0 1 (Value.int v1na0_0) a0g_1 a0g_2 a0g_3 a0g_4 a0g_5 a0g_6 a0g_7 a0g_8 a0g_9 a0g_10 a0g_12 a0g_13 (Value.int a0_14) a0g_15 a0g_16 a0g_17 a0g_18 a0g_19 a0g_20 a0g_21 a0g_22 a0g_23 a0g_24 a0g_25 a0g_26 a0g_27 a0g_28 a0g_29 a0g_30 a0g_31 a0g_32 a0g_33 a0g_34 a0g_35 a0g_36 a0g_37 a0g_38 a0g_39 v1na0_11 ) (cwV 1 hts gX8_firstShut_X8_no rfl rfl rfl zd_X8_no ⟨Nat.le_of_ble_eq_true rfl, Nat.le_of_ble_eq_true rfl⟩) ⟨ax_blind (fun _ _ _ _ _ => trivial), zr_8 (zp_K hK) (zp_P1 hP) (q0 := 0) rfl, ax_pre (zp_P1 hP) (zp_K hK) (zp_D1 hD) (fun _ _ => trivial)⟩ rfl rfl hl.1 rfl (lv_room (Nat.le_of_ble_eq_true rfl)) dX8_firstShut_22 ⟨Nat.le_of_ble_eq_true rfl, Nat.le_of_ble_eq_true rfl⟩) hS (fun q _ h => zp_F1 hD hS hA q h) (zp_F1 hD hS hA) (fun r22 u t H locs ht hvm hw => zx_1 (fun v22na0_11 hB hz1 hk1 hS1 => zo1 hB ht hP hD hk1 (zp_F1 hD hS hA) hS1 (fun hP hK1 hD hS => ?_)))
  have hw : r22 = (-1) := hw
  have hw := hw.symm
  subst hw
  refine lv_goto (tgt := 32) hx hb dX8_firstShut_25 (by decide) ?_
  exact W.iret (v := (-1)) hx hb hr (fun t ht hW => ⟨⟨(-1), (), rfl, rfl, v1na0_0, v22na0_11, by rw [ht]; exact hP, va_K.moved hW.alike hK, hD⟩, hS.F ht⟩) hS.2.2 dX8_firstShut_32

set_option maxHeartbeats 4000000 in
set_option maxRecDepth 100000 in
theorem c0_X8_go (l : Launch) (dC : Nat → ClassId) (dI : Nat → Nat → Nat) (sz : Nat) (a0 : Nat) (a1 : Int32) (a0_0 : Int32) (a0g_1 a0g_2 a0g_3 a0g_4 a0g_5 a0g_6 a0g_7 a0g_8 a0g_9 a0g_10 a0g_12 a0g_13 a0g_15 a0g_16 a0g_17 a0g_18 a0g_19 a0g_20 a0g_21 a0g_22 a0g_23 a0g_24 a0g_25 a0g_26 a0g_27 a0g_28 a0g_29 a0g_30 a0g_31 a0g_32 a0g_33 a0g_34 a0g_35 a0g_36 a0g_37 a0g_38 a0g_39 : Value) (a0_11 : Int32) (a0_14 : Int32) (ba0_14_l : (0 : Int) ≤ a0_14.toInt) (ba0_14_u : a0_14.toInt ≤ (0 : Int)) : zm l yX8_go wsX8_go ({ frames := 1, cells := 0, slots := 0, locals := 22 }) [.ref a0, .int a1] dC dI sz [(a0, .inr (8, [Value.int a0_0, a0g_1, a0g_2, a0g_3, a0g_4, a0g_5, a0g_6, a0g_7, a0g_8, a0g_9, a0g_10, Value.int a0_11, a0g_12, a0g_13, Value.int a0_14, a0g_15, a0g_16, a0g_17, a0g_18, a0g_19, a0g_20, a0g_21, a0g_22, a0g_23, a0g_24, a0g_25, a0g_26, a0g_27, a0g_28, a0g_29, a0g_30, a0g_31, a0g_32, a0g_33, a0g_34, a0g_35, a0g_36, a0g_37, a0g_38, a0g_39]))] [] (fun A _ => True) (fun A => va_Qi (fun (r : Int32) (_ : Unit) => r = (-1)) (fun (_ : Unit) (t : State) => ∃ na0_0 : Int32, ∃ na0_11 : Int32, ax_B dC dI A [(a0, .inr (8, [Value.int na0_0, a0g_1, a0g_2, a0g_3, a0g_4, a0g_5, a0g_6, a0g_7, a0g_8, a0g_9, a0g_10, Value.int na0_11, a0g_12, a0g_13, Value.int a0_14, a0g_15, a0g_16, a0g_17, a0g_18, a0g_19, a0g_20, a0g_21, a0g_22, a0g_23, a0g_24, a0g_25, a0g_26, a0g_27, a0g_28, a0g_29, a0g_30, a0g_31, a0g_32, a0g_33, a0g_34, a0g_35, a0g_36, a0g_37, a0g_38, a0g_39]))] [] t) A) := by
  refine zh (cc := cX8_go) (maxL := 5) (ret := (some .int)) zn_RX8 rfl (Nat.le_of_ble_eq_true rfl) (fun p e s m below meth c A ls hx hb hml hr hts (hown : s.vm.findClass RX8 = some m.cls) hlocks hA hS hP hK hD hE (hl : lv_has ls 5 [(0, .ref a0), (1, .int a1)]) => ?_)
  refine ai_open (fun K hK0 => ?_)
  refine (hK0 _ _ _).mpr ?_
  refine lv_aload_n hx hb dX8_go_0 rfl (lv_at hl 0 rfl) ?_
  refine va_callv (va_runV (As := []) (rest := []) ⟨hx, hb, hml, hown, hts⟩ (c_X8_good l dC dI s.heap.size a0 a0_0 a0g_1 a0g_2 a0g_3 a0g_4 a0g_5 a0g_6 a0g_7 a0g_8 a0g_9 a0g_10 a0g_12 a0g_13 (Value.int a0_14) a0g_15 a0g_16 a0g_17 a0g_18 a0g_19 a0g_20 a0g_21 a0g_22 a0g_23 a0g_24 a0g_25 a0g_26 a0g_27 a0g_28 a0g_29 a0g_30 a0g_31 a0g_32 a0g_33 a0g_34 a0g_35 a0g_36 a0g_37 a0g_38 a0g_39 a0_11 ) (cwV 0 hts gX8_go_X8_good rfl rfl rfl zd_X8_good ⟨Nat.le_of_ble_eq_true rfl, Nat.le_of_ble_eq_true rfl⟩) ⟨ax_blind (fun _ _ _ _ _ => trivial), zr_8 (zp_K hK) (zp_P1 hP) (q0 := 0) rfl, ax_pre (zp_P1 hP) (zp_K hK) (zp_D1 hD) (fun _ _ => trivial)⟩ rfl rfl hl.1 rfl (lv_room (Nat.le_of_ble_eq_true rfl)) dX8_go_1 ⟨Nat.le_of_ble_eq_true rfl, Nat.le_of_ble_eq_true rfl⟩) hS (fun q _ h => zp_F1 hD hS hA q h) (zp_F1 hD hS hA) (fun u t H locs ht hvm hw => zx_2 (fun v1na0_0 v1na0_11 hB hz1 hk1 hS1 => zo1 hB ht hP hD hk1 (zp_F1 hD hS hA) hS1 (fun hP hK1 hD hS => ?_)))
  refine lv_aload_n hx hb dX8_go_4 rfl (lv_at hl 0 rfl) ?_
  refine lv_aload_n hx hb dX8_go_5 rfl (lv_at hl 0 rfl) ?_
  refine va_get (D := (dC, dI)) (ci := 8) (v := .int a0_14) (C := RX8) (T := TX8) (N := 40) hx hb hts zi_X8_go_8 hown hK hP 0 rfl rfl 14 (by decide) (hts (.fieldLink RX8 173 "WaxTurnsModel" "hasGallery" "Z") (zm_X8_go_r1 (List.mem_of_getElem? (i := 0) rfl))) (fun _ h9 => h9) rfl dX8_go_6 ?_
  refine lv_iload_n hx hb dX8_go_9 rfl (lv_at hl 1 rfl) ?_
  refine lv_iconst (v := 1) hx hb dX8_go_10 zk_iconst_1 ?_
  refine lv_bipush (v := 60) hx hb dX8_go_11 zk_bipush_60 ?_
  refine va_calli (va_runS (As := [.int a1, .int 1, .int 60]) (rest := [.int a0_14, .ref a0]) ⟨hx, hb, hml, hown, hts⟩ (c_X8_in l dC dI H.size a1 1 60 ) (va_cwS 3 hts gX8_go_X8_in rfl rfl rfl zd_X8_in.2 ⟨Nat.le_of_ble_eq_true rfl, Nat.le_of_ble_eq_true rfl⟩) ⟨ax_blind (fun _ _ _ _ _ => trivial), ax_pre (zp_P0 hP) (zp_K hK) (zp_D0 hD) (fun _ _ => trivial)⟩ rfl rfl hl.1 rfl (lv_room (Nat.le_of_ble_eq_true rfl)) dX8_go_13 ⟨Nat.le_of_ble_eq_true rfl, Nat.le_of_ble_eq_true rfl⟩) hS (fun q _ h => zp_F0 hD hS hA q h) (zp_F0 hD hS hA) (fun r13 u t H locs ht hvm hw hB hz1 hk1 hS1 => zo0 hB ht hP hD hk1 (zp_F0 hD hS hA) hS1 (fun hP hK1 hD hS => ?_))
  rcases hw with hw | hw
  · obtain ⟨hw, h13⟩ := hw
    subst hw
    have l13k0_a1 : (1 : Int) ≤ a1.toInt := Int.le_trans zq1 h13.1
    have u13k0_a1 : a1.toInt ≤ (60 : Int) := Int.le_trans h13.2 zq46
    refine va_calli (va_runV (As := [.int a0_14, .int 1]) (rest := []) ⟨hx, hb, hml, hown, hts⟩ (c_X8_whyB l dC dI H.size a0 a0_14 1 (Value.int v1na0_0) a0g_1 a0g_2 a0g_3 a0g_4 a0g_5 a0g_6 a0g_7 a0g_8 a0g_9 a0g_10 (Value.int v1na0_11) a0g_12 a0g_13 (Value.int a0_14) a0g_15 a0g_16 a0g_17 a0g_18 a0g_19 a0g_20 a0g_21 a0g_22 a0g_23 a0g_24 a0g_25 a0g_26 a0g_27 a0g_28 a0g_29 a0g_30 a0g_31 a0g_32 a0g_33 a0g_34 a0g_35 a0g_36 a0g_37 a0g_38 a0g_39 ba0_14_l (Int.le_trans ba0_14_u zq4) (Int.le_trans zq4 zq1) zq0) (cwV 2 hts gX8_go_X8_why rfl rfl rfl zd_X8_why ⟨Nat.le_of_ble_eq_true rfl, Nat.le_of_ble_eq_true rfl⟩) ⟨ax_blind (fun _ _ _ _ _ => trivial), zr_8 (zp_K hK) (zp_P1 hP) (q0 := 0) rfl, ax_pre (zp_P1 hP) (zp_K hK) (zp_D1 hD) (fun _ _ => trivial)⟩ rfl rfl hl.1 rfl (lv_room (Nat.le_of_ble_eq_true rfl)) dX8_go_16 ⟨Nat.le_of_ble_eq_true rfl, Nat.le_of_ble_eq_true rfl⟩) hS (fun q _ h => zp_F1 hD hS hA q h) (zp_F1 hD hS hA) (fun r16 u t H locs ht hvm hw hB hz1 hk1 hS1 => zo1 hB ht hP hD hk1 (zp_F1 hD hS hA) hS1 (fun hP hK1 hD hS => ?_))
    rcases hw with hw | hw | hw
    · obtain ⟨hw, h16_0, h16_1, h16_2, h16_3⟩ := hw
      subst hw
      have l16k0_a0_14 : (1 : Int) ≤ a0_14.toInt := h16_0
      have u16k0_a0_14 : a0_14.toInt ≤ (0 : Int) := ba0_14_u
      exact absurd (Int.le_trans l16k0_a0_14 u16k0_a0_14) (by decide)
    · obtain ⟨hw, h16_0, h16_1⟩ := hw
      subst hw
      have l16k1_a0_14 : (0 : Int) ≤ a0_14.toInt := ba0_14_l
      have u16k1_a0_14 : a0_14.toInt ≤ (0 : Int) := ba0_14_u
      refine lv_istore_n (lv' := [(2, .int 1), (0, .ref a0), (1, .int a1)]) hx hb dX8_go_19 rfl hl (by decide) rfl (fun ls hl => ?_)
      refine lv_iload_n hx hb dX8_go_20 rfl (lv_at hl 0 rfl) ?_
      refine lv_if_ne (tgt := 41) hx hb dX8_go_21 (by decide) (fun _ => ?_) (fun c21 => absurd c21 (by decide +kernel))
      have J41 : ∀ (H : Heap) (locs : List Loc) (ls : Array Slot), va_P (dC, dI) vwCl [(a0, .inr (8, [Value.int v1na0_0, a0g_1, a0g_2, a0g_3, a0g_4, a0g_5, a0g_6, a0g_7, a0g_8, a0g_9, a0g_10, Value.int v1na0_11, a0g_12, a0g_13, Value.int a0_14, a0g_15, a0g_16, a0g_17, a0g_18, a0g_19, a0g_20, a0g_21, a0g_22, a0g_23, a0g_24, a0g_25, a0g_26, a0g_27, a0g_28, a0g_29, a0g_30, a0g_31, a0g_32, a0g_33, a0g_34, a0g_35, a0g_36, a0g_37, a0g_38, a0g_39]))] H → va_D A [(a0, .inr (8, [Value.int v1na0_0, a0g_1, a0g_2, a0g_3, a0g_4, a0g_5, a0g_6, a0g_7, a0g_8, a0g_9, a0g_10, Value.int v1na0_11, a0g_12, a0g_13, Value.int a0_14, a0g_15, a0g_16, a0g_17, a0g_18, a0g_19, a0g_20, a0g_21, a0g_22, a0g_23, a0g_24, a0g_25, a0g_26, a0g_27, a0g_28, a0g_29, a0g_30, a0g_31, a0g_32, a0g_33, a0g_34, a0g_35, a0g_36, a0g_37, a0g_38, a0g_39]))] → va_S A s.heap H locs → lv_has ls 5 [(0, .ref a0), (1, .int a1), (2, .int 1)] → K H locs (F0 m 41 ls []) := by
        intro  H locs ls   hP hD hS hl
        refine (hK0 _ _ _).mpr ?_
        refine lv_iload_n hx hb dX8_go_41 rfl (lv_at hl 2 rfl) ?_
        refine lv_if_eq (tgt := 51) hx hb dX8_go_42 (by decide) (fun c42 => absurd c42 (by decide +kernel)) (fun _ => ?_)
        refine lv_aload_n hx hb dX8_go_45 rfl (lv_at hl 0 rfl) ?_
        refine lv_iload_n hx hb dX8_go_46 rfl (lv_at hl 2 rfl) ?_
        refine va_calli (va_runV (As := [.int 1]) (rest := []) ⟨hx, hb, hml, hown, hts⟩ (c_X8_no l dC dI H.size a0 1 (Value.int v1na0_0) a0g_1 a0g_2 a0g_3 a0g_4 a0g_5 a0g_6 a0g_7 a0g_8 a0g_9 a0g_10 a0g_12 a0g_13 (Value.int a0_14) a0g_15 a0g_16 a0g_17 a0g_18 a0g_19 a0g_20 a0g_21 a0g_22 a0g_23 a0g_24 a0g_25 a0g_26 a0g_27 a0g_28 a0g_29 a0g_30 a0g_31 a0g_32 a0g_33 a0g_34 a0g_35 a0g_36 a0g_37 a0g_38 a0g_39 v1na0_11 ) (cwV 1 hts gX8_go_X8_no rfl rfl rfl zd_X8_no ⟨Nat.le_of_ble_eq_true rfl, Nat.le_of_ble_eq_true rfl⟩) ⟨ax_blind (fun _ _ _ _ _ => trivial), zr_8 (zp_K hK) (zp_P1 hP) (q0 := 0) rfl, ax_pre (zp_P1 hP) (zp_K hK) (zp_D1 hD) (fun _ _ => trivial)⟩ rfl rfl hl.1 rfl (lv_room (Nat.le_of_ble_eq_true rfl)) dX8_go_47 ⟨Nat.le_of_ble_eq_true rfl, Nat.le_of_ble_eq_true rfl⟩) hS (fun q _ h => zp_F1 hD hS hA q h) (zp_F1 hD hS hA) (fun r47 u t H locs ht hvm hw => zx_1 (fun v47na0_11 hB hz1 hk1 hS1 => zo1 hB ht hP hD hk1 (zp_F1 hD hS hA) hS1 (fun hP hK1 hD hS => ?_)))
        have hw : r47 = (-1) := hw
        have hw := hw.symm
        subst hw
        exact W.iret (v := (-1)) hx hb hr (fun t ht hW => ⟨⟨(-1), (), rfl, rfl, v1na0_0, v47na0_11, by rw [ht]; exact hP, va_K.moved hW.alike hK, hD⟩, hS.F ht⟩) hS.2.2 dX8_go_50
      exact (hK0 _ _ _).mp (J41  _ _ _   hP hD hS (lv_sub hl [1, 2, 0] rfl))
    · obtain ⟨hw, h16_0, h16_1, h16_2, h16_3⟩ := hw
      subst hw
      have l16k2_a0_14 : (1 : Int) ≤ a0_14.toInt := h16_0
      have u16k2_a0_14 : a0_14.toInt ≤ (0 : Int) := ba0_14_u
      exact absurd (Int.le_trans l16k2_a0_14 u16k2_a0_14) (by decide)
  · obtain ⟨hw, h13⟩ := hw
    subst hw
    refine va_calli (va_runV (As := [.int a0_14, .int 0]) (rest := []) ⟨hx, hb, hml, hown, hts⟩ (c_X8_whyB l dC dI H.size a0 a0_14 0 (Value.int v1na0_0) a0g_1 a0g_2 a0g_3 a0g_4 a0g_5 a0g_6 a0g_7 a0g_8 a0g_9 a0g_10 (Value.int v1na0_11) a0g_12 a0g_13 (Value.int a0_14) a0g_15 a0g_16 a0g_17 a0g_18 a0g_19 a0g_20 a0g_21 a0g_22 a0g_23 a0g_24 a0g_25 a0g_26 a0g_27 a0g_28 a0g_29 a0g_30 a0g_31 a0g_32 a0g_33 a0g_34 a0g_35 a0g_36 a0g_37 a0g_38 a0g_39 ba0_14_l (Int.le_trans ba0_14_u zq4) zq5 (Int.le_trans zq6 zq4)) (cwV 2 hts gX8_go_X8_why rfl rfl rfl zd_X8_why ⟨Nat.le_of_ble_eq_true rfl, Nat.le_of_ble_eq_true rfl⟩) ⟨ax_blind (fun _ _ _ _ _ => trivial), zr_8 (zp_K hK) (zp_P1 hP) (q0 := 0) rfl, ax_pre (zp_P1 hP) (zp_K hK) (zp_D1 hD) (fun _ _ => trivial)⟩ rfl rfl hl.1 rfl (lv_room (Nat.le_of_ble_eq_true rfl)) dX8_go_16 ⟨Nat.le_of_ble_eq_true rfl, Nat.le_of_ble_eq_true rfl⟩) hS (fun q _ h => zp_F1 hD hS hA q h) (zp_F1 hD hS hA) (fun r16 u t H locs ht hvm hw hB hz1 hk1 hS1 => zo1 hB ht hP hD hk1 (zp_F1 hD hS hA) hS1 (fun hP hK1 hD hS => ?_))
    rcases hw with hw | hw | hw
    · obtain ⟨hw, h16_0, h16_1, h16_2, h16_3⟩ := hw
      subst hw
      have l16k0_a0_14 : (1 : Int) ≤ a0_14.toInt := h16_0
      have u16k0_a0_14 : a0_14.toInt ≤ (0 : Int) := ba0_14_u
      exact absurd (Int.le_trans l16k0_a0_14 u16k0_a0_14) (by decide)
    · obtain ⟨hw, h16_0, h16_1⟩ := hw
      subst hw
      have l16k1_a0_14 : (0 : Int) ≤ a0_14.toInt := ba0_14_l
      have u16k1_a0_14 : a0_14.toInt ≤ (0 : Int) := ba0_14_u
      refine lv_istore_n (lv' := [(2, .int 1), (0, .ref a0), (1, .int a1)]) hx hb dX8_go_19 rfl hl (by decide) rfl (fun ls hl => ?_)
      refine lv_iload_n hx hb dX8_go_20 rfl (lv_at hl 0 rfl) ?_
      refine lv_if_ne (tgt := 41) hx hb dX8_go_21 (by decide) (fun _ => ?_) (fun c21 => absurd c21 (by decide +kernel))
      have J41 : ∀ (H : Heap) (locs : List Loc) (ls : Array Slot), va_P (dC, dI) vwCl [(a0, .inr (8, [Value.int v1na0_0, a0g_1, a0g_2, a0g_3, a0g_4, a0g_5, a0g_6, a0g_7, a0g_8, a0g_9, a0g_10, Value.int v1na0_11, a0g_12, a0g_13, Value.int a0_14, a0g_15, a0g_16, a0g_17, a0g_18, a0g_19, a0g_20, a0g_21, a0g_22, a0g_23, a0g_24, a0g_25, a0g_26, a0g_27, a0g_28, a0g_29, a0g_30, a0g_31, a0g_32, a0g_33, a0g_34, a0g_35, a0g_36, a0g_37, a0g_38, a0g_39]))] H → va_D A [(a0, .inr (8, [Value.int v1na0_0, a0g_1, a0g_2, a0g_3, a0g_4, a0g_5, a0g_6, a0g_7, a0g_8, a0g_9, a0g_10, Value.int v1na0_11, a0g_12, a0g_13, Value.int a0_14, a0g_15, a0g_16, a0g_17, a0g_18, a0g_19, a0g_20, a0g_21, a0g_22, a0g_23, a0g_24, a0g_25, a0g_26, a0g_27, a0g_28, a0g_29, a0g_30, a0g_31, a0g_32, a0g_33, a0g_34, a0g_35, a0g_36, a0g_37, a0g_38, a0g_39]))] → va_S A s.heap H locs → lv_has ls 5 [(0, .ref a0), (1, .int a1), (2, .int 1)] → K H locs (F0 m 41 ls []) := by
        intro  H locs ls   hP hD hS hl
        refine (hK0 _ _ _).mpr ?_
        refine lv_iload_n hx hb dX8_go_41 rfl (lv_at hl 2 rfl) ?_
        refine lv_if_eq (tgt := 51) hx hb dX8_go_42 (by decide) (fun c42 => absurd c42 (by decide +kernel)) (fun _ => ?_)
        refine lv_aload_n hx hb dX8_go_45 rfl (lv_at hl 0 rfl) ?_
        refine lv_iload_n hx hb dX8_go_46 rfl (lv_at hl 2 rfl) ?_
        refine va_calli (va_runV (As := [.int 1]) (rest := []) ⟨hx, hb, hml, hown, hts⟩ (c_X8_no l dC dI H.size a0 1 (Value.int v1na0_0) a0g_1 a0g_2 a0g_3 a0g_4 a0g_5 a0g_6 a0g_7 a0g_8 a0g_9 a0g_10 a0g_12 a0g_13 (Value.int a0_14) a0g_15 a0g_16 a0g_17 a0g_18 a0g_19 a0g_20 a0g_21 a0g_22 a0g_23 a0g_24 a0g_25 a0g_26 a0g_27 a0g_28 a0g_29 a0g_30 a0g_31 a0g_32 a0g_33 a0g_34 a0g_35 a0g_36 a0g_37 a0g_38 a0g_39 v1na0_11 ) (cwV 1 hts gX8_go_X8_no rfl rfl rfl zd_X8_no ⟨Nat.le_of_ble_eq_true rfl, Nat.le_of_ble_eq_true rfl⟩) ⟨ax_blind (fun _ _ _ _ _ => trivial), zr_8 (zp_K hK) (zp_P1 hP) (q0 := 0) rfl, ax_pre (zp_P1 hP) (zp_K hK) (zp_D1 hD) (fun _ _ => trivial)⟩ rfl rfl hl.1 rfl (lv_room (Nat.le_of_ble_eq_true rfl)) dX8_go_47 ⟨Nat.le_of_ble_eq_true rfl, Nat.le_of_ble_eq_true rfl⟩) hS (fun q _ h => zp_F1 hD hS hA q h) (zp_F1 hD hS hA) (fun r47 u t H locs ht hvm hw => zx_1 (fun v47na0_11 hB hz1 hk1 hS1 => zo1 hB ht hP hD hk1 (zp_F1 hD hS hA) hS1 (fun hP hK1 hD hS => ?_)))
        have hw : r47 = (-1) := hw
        have hw := hw.symm
        subst hw
        exact W.iret (v := (-1)) hx hb hr (fun t ht hW => ⟨⟨(-1), (), rfl, rfl, v1na0_0, v47na0_11, by rw [ht]; exact hP, va_K.moved hW.alike hK, hD⟩, hS.F ht⟩) hS.2.2 dX8_go_50
      exact (hK0 _ _ _).mp (J41  _ _ _   hP hD hS (lv_sub hl [1, 2, 0] rfl))
    · obtain ⟨hw, h16_0, h16_1, h16_2, h16_3⟩ := hw
      subst hw
      have l16k2_a0_14 : (1 : Int) ≤ a0_14.toInt := h16_0
      have u16k2_a0_14 : a0_14.toInt ≤ (0 : Int) := ba0_14_u
      exact absurd (Int.le_trans l16k2_a0_14 u16k2_a0_14) (by decide)

set_option maxHeartbeats 4000000 in
set_option maxRecDepth 100000 in
theorem c0_X8_put (l : Launch) (dC : Nat → ClassId) (dI : Nat → Nat → Nat) (sz : Nat) (a0 : Nat) (a1 : Int32) (a0_0 : Int32) (a0g_1 a0g_2 a0g_3 a0g_4 a0g_5 a0g_6 a0g_7 a0g_8 a0g_9 a0g_10 a0g_12 a0g_13 a0g_15 a0g_16 a0g_17 a0g_18 a0g_19 a0g_20 a0g_21 a0g_22 a0g_23 a0g_24 a0g_25 a0g_26 a0g_27 a0g_28 a0g_29 a0g_30 a0g_31 a0g_32 a0g_33 a0g_34 a0g_35 a0g_36 a0g_37 a0g_38 a0g_39 : Value) (a0_11 : Int32) (a0_14 : Int32) (ba0_14_l : (0 : Int) ≤ a0_14.toInt) (ba0_14_u : a0_14.toInt ≤ (0 : Int)) : zm l yX8_put wsX8_put ({ frames := 1, cells := 0, slots := 0, locals := 21 }) [.ref a0, .int a1] dC dI sz [(a0, .inr (8, [Value.int a0_0, a0g_1, a0g_2, a0g_3, a0g_4, a0g_5, a0g_6, a0g_7, a0g_8, a0g_9, a0g_10, Value.int a0_11, a0g_12, a0g_13, Value.int a0_14, a0g_15, a0g_16, a0g_17, a0g_18, a0g_19, a0g_20, a0g_21, a0g_22, a0g_23, a0g_24, a0g_25, a0g_26, a0g_27, a0g_28, a0g_29, a0g_30, a0g_31, a0g_32, a0g_33, a0g_34, a0g_35, a0g_36, a0g_37, a0g_38, a0g_39]))] [] (fun A _ => True) (fun A => va_Qi (fun (r : Int32) (_ : Unit) => r = (-1)) (fun (_ : Unit) (t : State) => ∃ na0_0 : Int32, ∃ na0_11 : Int32, ax_B dC dI A [(a0, .inr (8, [Value.int na0_0, a0g_1, a0g_2, a0g_3, a0g_4, a0g_5, a0g_6, a0g_7, a0g_8, a0g_9, a0g_10, Value.int na0_11, a0g_12, a0g_13, Value.int a0_14, a0g_15, a0g_16, a0g_17, a0g_18, a0g_19, a0g_20, a0g_21, a0g_22, a0g_23, a0g_24, a0g_25, a0g_26, a0g_27, a0g_28, a0g_29, a0g_30, a0g_31, a0g_32, a0g_33, a0g_34, a0g_35, a0g_36, a0g_37, a0g_38, a0g_39]))] [] t) A) := by
  refine zh (cc := cX8_put) (maxL := 3) (ret := (some .int)) zn_RX8 rfl (Nat.le_of_ble_eq_true rfl) (fun p e s m below meth c A ls hx hb hml hr hts (hown : s.vm.findClass RX8 = some m.cls) hlocks hA hS hP hK hD hE (hl : lv_has ls 3 [(0, .ref a0), (1, .int a1)]) => ?_)
  refine lv_aload_n hx hb dX8_put_0 rfl (lv_at hl 0 rfl) ?_
  refine va_callv (va_runV (As := []) (rest := []) ⟨hx, hb, hml, hown, hts⟩ (c_X8_good l dC dI s.heap.size a0 a0_0 a0g_1 a0g_2 a0g_3 a0g_4 a0g_5 a0g_6 a0g_7 a0g_8 a0g_9 a0g_10 a0g_12 a0g_13 (Value.int a0_14) a0g_15 a0g_16 a0g_17 a0g_18 a0g_19 a0g_20 a0g_21 a0g_22 a0g_23 a0g_24 a0g_25 a0g_26 a0g_27 a0g_28 a0g_29 a0g_30 a0g_31 a0g_32 a0g_33 a0g_34 a0g_35 a0g_36 a0g_37 a0g_38 a0g_39 a0_11 ) (cwV 0 hts gX8_put_X8_good rfl rfl rfl zd_X8_good ⟨Nat.le_of_ble_eq_true rfl, Nat.le_of_ble_eq_true rfl⟩) ⟨ax_blind (fun _ _ _ _ _ => trivial), zr_8 (zp_K hK) (zp_P1 hP) (q0 := 0) rfl, ax_pre (zp_P1 hP) (zp_K hK) (zp_D1 hD) (fun _ _ => trivial)⟩ rfl rfl hl.1 rfl (lv_room (Nat.le_of_ble_eq_true rfl)) dX8_put_1 ⟨Nat.le_of_ble_eq_true rfl, Nat.le_of_ble_eq_true rfl⟩) hS (fun q _ h => zp_F1 hD hS hA q h) (zp_F1 hD hS hA) (fun u t H locs ht hvm hw => zx_2 (fun v1na0_0 v1na0_11 hB hz1 hk1 hS1 => zo1 hB ht hP hD hk1 (zp_F1 hD hS hA) hS1 (fun hP hK1 hD hS => ?_)))
  refine lv_aload_n hx hb dX8_put_4 rfl (lv_at hl 0 rfl) ?_
  refine lv_iload_n hx hb dX8_put_5 rfl (lv_at hl 1 rfl) ?_
  refine va_calli (va_runV (As := [.int a1]) (rest := []) ⟨hx, hb, hml, hown, hts⟩ (c0_X8_isFigure l dC dI H.size a0 a1 (Value.int v1na0_0) a0g_1 a0g_2 a0g_3 a0g_4 a0g_5 a0g_6 a0g_7 a0g_8 a0g_9 a0g_10 (Value.int v1na0_11) a0g_12 a0g_13 a0g_15 a0g_16 a0g_17 a0g_18 a0g_19 a0g_20 a0g_21 a0g_22 a0g_23 a0g_24 a0g_25 a0g_26 a0g_27 a0g_28 a0g_29 a0g_30 a0g_31 a0g_32 a0g_33 a0g_34 a0g_35 a0g_36 a0g_37 a0g_38 a0g_39 a0_14 ba0_14_l ba0_14_u) (cwV 1 hts gX8_put_X8_isFigure rfl rfl rfl zd_X8_isFigure ⟨Nat.le_of_ble_eq_true rfl, Nat.le_of_ble_eq_true rfl⟩) ⟨ax_blind (fun _ _ _ _ _ => trivial), zr_8 (zp_K hK) (zp_P1 hP) (q0 := 0) rfl, ax_pre (zp_P1 hP) (zp_K hK) (zp_D1 hD) (fun _ _ => trivial)⟩ rfl rfl hl.1 rfl (lv_room (Nat.le_of_ble_eq_true rfl)) dX8_put_6 ⟨Nat.le_of_ble_eq_true rfl, Nat.le_of_ble_eq_true rfl⟩) hS (fun q _ h => zp_F1 hD hS hA q h) (zp_F1 hD hS hA) (fun r6 u t H locs ht hvm hw hB hz1 hk1 hS1 => zo1 hB ht hP hD hk1 (zp_F1 hD hS hA) hS1 (fun hP hK1 hD hS => ?_))
  have hw : r6 = 0 := hw
  have hw := hw.symm
  subst hw
  refine lv_if_ne (tgt := 18) hx hb dX8_put_9 (by decide) (fun c9 => absurd (by decide +kernel) c9) (fun _ => ?_)
  refine lv_aload_n hx hb dX8_put_12 rfl (lv_at hl 0 rfl) ?_
  refine lv_iconst (v := 1) hx hb dX8_put_13 zk_iconst_1 ?_
  refine va_calli (va_runV (As := [.int 1]) (rest := []) ⟨hx, hb, hml, hown, hts⟩ (c_X8_no l dC dI H.size a0 1 (Value.int v1na0_0) a0g_1 a0g_2 a0g_3 a0g_4 a0g_5 a0g_6 a0g_7 a0g_8 a0g_9 a0g_10 a0g_12 a0g_13 (Value.int a0_14) a0g_15 a0g_16 a0g_17 a0g_18 a0g_19 a0g_20 a0g_21 a0g_22 a0g_23 a0g_24 a0g_25 a0g_26 a0g_27 a0g_28 a0g_29 a0g_30 a0g_31 a0g_32 a0g_33 a0g_34 a0g_35 a0g_36 a0g_37 a0g_38 a0g_39 v1na0_11 ) (cwV 1 hts gX8_put_X8_no rfl rfl rfl zd_X8_no ⟨Nat.le_of_ble_eq_true rfl, Nat.le_of_ble_eq_true rfl⟩) ⟨ax_blind (fun _ _ _ _ _ => trivial), zr_8 (zp_K hK) (zp_P1 hP) (q0 := 0) rfl, ax_pre (zp_P1 hP) (zp_K hK) (zp_D1 hD) (fun _ _ => trivial)⟩ rfl rfl hl.1 rfl (lv_room (Nat.le_of_ble_eq_true rfl)) dX8_put_14 ⟨Nat.le_of_ble_eq_true rfl, Nat.le_of_ble_eq_true rfl⟩) hS (fun q _ h => zp_F1 hD hS hA q h) (zp_F1 hD hS hA) (fun r14 u t H locs ht hvm hw => zx_1 (fun v14na0_11 hB hz1 hk1 hS1 => zo1 hB ht hP hD hk1 (zp_F1 hD hS hA) hS1 (fun hP hK1 hD hS => ?_)))
  have hw : r14 = (-1) := hw
  have hw := hw.symm
  subst hw
  exact W.iret (v := (-1)) hx hb hr (fun t ht hW => ⟨⟨(-1), (), rfl, rfl, v1na0_0, v14na0_11, by rw [ht]; exact hP, va_K.moved hW.alike hK, hD⟩, hS.F ht⟩) hS.2.2 dX8_put_17

set_option maxHeartbeats 4000000 in
set_option maxRecDepth 100000 in
theorem c0_X8_wind (l : Launch) (dC : Nat → ClassId) (dI : Nat → Nat → Nat) (sz : Nat) (a0 : Nat) (a1 : Int32) (a0_0 : Int32) (a0g_1 a0g_2 a0g_3 a0g_4 a0g_5 a0g_6 a0g_7 a0g_8 a0g_9 a0g_10 a0g_12 a0g_13 a0g_15 a0g_16 a0g_17 a0g_18 a0g_19 a0g_20 a0g_21 a0g_22 a0g_23 a0g_24 a0g_25 a0g_26 a0g_27 a0g_28 a0g_29 a0g_30 a0g_31 a0g_32 a0g_33 a0g_34 a0g_35 a0g_36 a0g_37 a0g_38 a0g_39 : Value) (a0_11 : Int32) (a0_14 : Int32) (ba0_14_l : (0 : Int) ≤ a0_14.toInt) (ba0_14_u : a0_14.toInt ≤ (0 : Int)) : zm l yX8_wind wsX8_wind ({ frames := 1, cells := 0, slots := 0, locals := 21 }) [.ref a0, .int a1] dC dI sz [(a0, .inr (8, [Value.int a0_0, a0g_1, a0g_2, a0g_3, a0g_4, a0g_5, a0g_6, a0g_7, a0g_8, a0g_9, a0g_10, Value.int a0_11, a0g_12, a0g_13, Value.int a0_14, a0g_15, a0g_16, a0g_17, a0g_18, a0g_19, a0g_20, a0g_21, a0g_22, a0g_23, a0g_24, a0g_25, a0g_26, a0g_27, a0g_28, a0g_29, a0g_30, a0g_31, a0g_32, a0g_33, a0g_34, a0g_35, a0g_36, a0g_37, a0g_38, a0g_39]))] [] (fun A _ => True) (fun A => va_Qi (fun (r : Int32) (_ : Unit) => r = (-1)) (fun (_ : Unit) (t : State) => ∃ na0_0 : Int32, ∃ na0_11 : Int32, ax_B dC dI A [(a0, .inr (8, [Value.int na0_0, a0g_1, a0g_2, a0g_3, a0g_4, a0g_5, a0g_6, a0g_7, a0g_8, a0g_9, a0g_10, Value.int na0_11, a0g_12, a0g_13, Value.int a0_14, a0g_15, a0g_16, a0g_17, a0g_18, a0g_19, a0g_20, a0g_21, a0g_22, a0g_23, a0g_24, a0g_25, a0g_26, a0g_27, a0g_28, a0g_29, a0g_30, a0g_31, a0g_32, a0g_33, a0g_34, a0g_35, a0g_36, a0g_37, a0g_38, a0g_39]))] [] t) A) := by
  refine zh (cc := cX8_wind) (maxL := 3) (ret := (some .int)) zn_RX8 rfl (Nat.le_of_ble_eq_true rfl) (fun p e s m below meth c A ls hx hb hml hr hts (hown : s.vm.findClass RX8 = some m.cls) hlocks hA hS hP hK hD hE (hl : lv_has ls 3 [(0, .ref a0), (1, .int a1)]) => ?_)
  refine lv_aload_n hx hb dX8_wind_0 rfl (lv_at hl 0 rfl) ?_
  refine va_callv (va_runV (As := []) (rest := []) ⟨hx, hb, hml, hown, hts⟩ (c_X8_good l dC dI s.heap.size a0 a0_0 a0g_1 a0g_2 a0g_3 a0g_4 a0g_5 a0g_6 a0g_7 a0g_8 a0g_9 a0g_10 a0g_12 a0g_13 (Value.int a0_14) a0g_15 a0g_16 a0g_17 a0g_18 a0g_19 a0g_20 a0g_21 a0g_22 a0g_23 a0g_24 a0g_25 a0g_26 a0g_27 a0g_28 a0g_29 a0g_30 a0g_31 a0g_32 a0g_33 a0g_34 a0g_35 a0g_36 a0g_37 a0g_38 a0g_39 a0_11 ) (cwV 0 hts gX8_wind_X8_good rfl rfl rfl zd_X8_good ⟨Nat.le_of_ble_eq_true rfl, Nat.le_of_ble_eq_true rfl⟩) ⟨ax_blind (fun _ _ _ _ _ => trivial), zr_8 (zp_K hK) (zp_P1 hP) (q0 := 0) rfl, ax_pre (zp_P1 hP) (zp_K hK) (zp_D1 hD) (fun _ _ => trivial)⟩ rfl rfl hl.1 rfl (lv_room (Nat.le_of_ble_eq_true rfl)) dX8_wind_1 ⟨Nat.le_of_ble_eq_true rfl, Nat.le_of_ble_eq_true rfl⟩) hS (fun q _ h => zp_F1 hD hS hA q h) (zp_F1 hD hS hA) (fun u t H locs ht hvm hw => zx_2 (fun v1na0_0 v1na0_11 hB hz1 hk1 hS1 => zo1 hB ht hP hD hk1 (zp_F1 hD hS hA) hS1 (fun hP hK1 hD hS => ?_)))
  refine lv_aload_n hx hb dX8_wind_4 rfl (lv_at hl 0 rfl) ?_
  refine lv_iload_n hx hb dX8_wind_5 rfl (lv_at hl 1 rfl) ?_
  refine va_calli (va_runV (As := [.int a1]) (rest := []) ⟨hx, hb, hml, hown, hts⟩ (c0_X8_isFigure l dC dI H.size a0 a1 (Value.int v1na0_0) a0g_1 a0g_2 a0g_3 a0g_4 a0g_5 a0g_6 a0g_7 a0g_8 a0g_9 a0g_10 (Value.int v1na0_11) a0g_12 a0g_13 a0g_15 a0g_16 a0g_17 a0g_18 a0g_19 a0g_20 a0g_21 a0g_22 a0g_23 a0g_24 a0g_25 a0g_26 a0g_27 a0g_28 a0g_29 a0g_30 a0g_31 a0g_32 a0g_33 a0g_34 a0g_35 a0g_36 a0g_37 a0g_38 a0g_39 a0_14 ba0_14_l ba0_14_u) (cwV 1 hts gX8_wind_X8_isFigure rfl rfl rfl zd_X8_isFigure ⟨Nat.le_of_ble_eq_true rfl, Nat.le_of_ble_eq_true rfl⟩) ⟨ax_blind (fun _ _ _ _ _ => trivial), zr_8 (zp_K hK) (zp_P1 hP) (q0 := 0) rfl, ax_pre (zp_P1 hP) (zp_K hK) (zp_D1 hD) (fun _ _ => trivial)⟩ rfl rfl hl.1 rfl (lv_room (Nat.le_of_ble_eq_true rfl)) dX8_wind_6 ⟨Nat.le_of_ble_eq_true rfl, Nat.le_of_ble_eq_true rfl⟩) hS (fun q _ h => zp_F1 hD hS hA q h) (zp_F1 hD hS hA) (fun r6 u t H locs ht hvm hw hB hz1 hk1 hS1 => zo1 hB ht hP hD hk1 (zp_F1 hD hS hA) hS1 (fun hP hK1 hD hS => ?_))
  have hw : r6 = 0 := hw
  have hw := hw.symm
  subst hw
  refine lv_if_ne (tgt := 18) hx hb dX8_wind_9 (by decide) (fun c9 => absurd (by decide +kernel) c9) (fun _ => ?_)
  refine lv_aload_n hx hb dX8_wind_12 rfl (lv_at hl 0 rfl) ?_
  refine lv_iconst (v := 1) hx hb dX8_wind_13 zk_iconst_1 ?_
  refine va_calli (va_runV (As := [.int 1]) (rest := []) ⟨hx, hb, hml, hown, hts⟩ (c_X8_no l dC dI H.size a0 1 (Value.int v1na0_0) a0g_1 a0g_2 a0g_3 a0g_4 a0g_5 a0g_6 a0g_7 a0g_8 a0g_9 a0g_10 a0g_12 a0g_13 (Value.int a0_14) a0g_15 a0g_16 a0g_17 a0g_18 a0g_19 a0g_20 a0g_21 a0g_22 a0g_23 a0g_24 a0g_25 a0g_26 a0g_27 a0g_28 a0g_29 a0g_30 a0g_31 a0g_32 a0g_33 a0g_34 a0g_35 a0g_36 a0g_37 a0g_38 a0g_39 v1na0_11 ) (cwV 1 hts gX8_wind_X8_no rfl rfl rfl zd_X8_no ⟨Nat.le_of_ble_eq_true rfl, Nat.le_of_ble_eq_true rfl⟩) ⟨ax_blind (fun _ _ _ _ _ => trivial), zr_8 (zp_K hK) (zp_P1 hP) (q0 := 0) rfl, ax_pre (zp_P1 hP) (zp_K hK) (zp_D1 hD) (fun _ _ => trivial)⟩ rfl rfl hl.1 rfl (lv_room (Nat.le_of_ble_eq_true rfl)) dX8_wind_14 ⟨Nat.le_of_ble_eq_true rfl, Nat.le_of_ble_eq_true rfl⟩) hS (fun q _ h => zp_F1 hD hS hA q h) (zp_F1 hD hS hA) (fun r14 u t H locs ht hvm hw => zx_1 (fun v14na0_11 hB hz1 hk1 hS1 => zo1 hB ht hP hD hk1 (zp_F1 hD hS hA) hS1 (fun hP hK1 hD hS => ?_)))
  have hw : r14 = (-1) := hw
  have hw := hw.symm
  subst hw
  exact W.iret (v := (-1)) hx hb hr (fun t ht hW => ⟨⟨(-1), (), rfl, rfl, v1na0_0, v14na0_11, by rw [ht]; exact hP, va_K.moved hW.alike hK, hD⟩, hS.F ht⟩) hS.2.2 dX8_wind_17

set_option maxHeartbeats 4000000 in
set_option maxRecDepth 100000 in
theorem c0_X8_image (l : Launch) (dC : Nat → ClassId) (dI : Nat → Nat → Nat) (sz : Nat) (a0 : Nat) (a0_0 : Int32) (a0g_1 a0g_2 a0g_3 a0g_4 a0g_5 a0g_6 a0g_7 a0g_8 a0g_9 a0g_10 a0g_12 a0g_13 a0g_15 a0g_16 a0g_17 a0g_18 a0g_19 a0g_20 a0g_21 a0g_22 a0g_23 a0g_24 a0g_25 a0g_26 a0g_27 a0g_28 a0g_29 a0g_30 a0g_31 a0g_32 a0g_33 a0g_34 a0g_35 a0g_36 a0g_37 a0g_38 a0g_39 : Value) (a0_11 : Int32) (a0_14 : Int32) (ba0_14_l : (0 : Int) ≤ a0_14.toInt) (ba0_14_u : a0_14.toInt ≤ (0 : Int)) : zm l yX8_image wsX8_image ({ frames := 1, cells := 0, slots := 0, locals := 21 }) [.ref a0] dC dI sz [(a0, .inr (8, [Value.int a0_0, a0g_1, a0g_2, a0g_3, a0g_4, a0g_5, a0g_6, a0g_7, a0g_8, a0g_9, a0g_10, Value.int a0_11, a0g_12, a0g_13, Value.int a0_14, a0g_15, a0g_16, a0g_17, a0g_18, a0g_19, a0g_20, a0g_21, a0g_22, a0g_23, a0g_24, a0g_25, a0g_26, a0g_27, a0g_28, a0g_29, a0g_30, a0g_31, a0g_32, a0g_33, a0g_34, a0g_35, a0g_36, a0g_37, a0g_38, a0g_39]))] [] (fun A _ => True) (fun A => va_Qi (fun (r : Int32) (_ : Unit) => r = (-1)) (fun (_ : Unit) (t : State) => ∃ na0_0 : Int32, ∃ na0_11 : Int32, ax_B dC dI A [(a0, .inr (8, [Value.int na0_0, a0g_1, a0g_2, a0g_3, a0g_4, a0g_5, a0g_6, a0g_7, a0g_8, a0g_9, a0g_10, Value.int na0_11, a0g_12, a0g_13, Value.int a0_14, a0g_15, a0g_16, a0g_17, a0g_18, a0g_19, a0g_20, a0g_21, a0g_22, a0g_23, a0g_24, a0g_25, a0g_26, a0g_27, a0g_28, a0g_29, a0g_30, a0g_31, a0g_32, a0g_33, a0g_34, a0g_35, a0g_36, a0g_37, a0g_38, a0g_39]))] [] t) A) := by
  refine zh (cc := cX8_image) (maxL := 1) (ret := (some .int)) zn_RX8 rfl (Nat.le_of_ble_eq_true rfl) (fun p e s m below meth c A ls hx hb hml hr hts (hown : s.vm.findClass RX8 = some m.cls) hlocks hA hS hP hK hD hE (hl : lv_has ls 1 [(0, .ref a0)]) => ?_)
  refine lv_aload_n hx hb dX8_image_0 rfl (lv_at hl 0 rfl) ?_
  refine va_callv (va_runV (As := []) (rest := []) ⟨hx, hb, hml, hown, hts⟩ (c_X8_good l dC dI s.heap.size a0 a0_0 a0g_1 a0g_2 a0g_3 a0g_4 a0g_5 a0g_6 a0g_7 a0g_8 a0g_9 a0g_10 a0g_12 a0g_13 (Value.int a0_14) a0g_15 a0g_16 a0g_17 a0g_18 a0g_19 a0g_20 a0g_21 a0g_22 a0g_23 a0g_24 a0g_25 a0g_26 a0g_27 a0g_28 a0g_29 a0g_30 a0g_31 a0g_32 a0g_33 a0g_34 a0g_35 a0g_36 a0g_37 a0g_38 a0g_39 a0_11 ) (cwV 0 hts gX8_image_X8_good rfl rfl rfl zd_X8_good ⟨Nat.le_of_ble_eq_true rfl, Nat.le_of_ble_eq_true rfl⟩) ⟨ax_blind (fun _ _ _ _ _ => trivial), zr_8 (zp_K hK) (zp_P1 hP) (q0 := 0) rfl, ax_pre (zp_P1 hP) (zp_K hK) (zp_D1 hD) (fun _ _ => trivial)⟩ rfl rfl hl.1 rfl (lv_room (Nat.le_of_ble_eq_true rfl)) dX8_image_1 ⟨Nat.le_of_ble_eq_true rfl, Nat.le_of_ble_eq_true rfl⟩) hS (fun q _ h => zp_F1 hD hS hA q h) (zp_F1 hD hS hA) (fun u t H locs ht hvm hw => zx_2 (fun v1na0_0 v1na0_11 hB hz1 hk1 hS1 => zo1 hB ht hP hD hk1 (zp_F1 hD hS hA) hS1 (fun hP hK1 hD hS => ?_)))
  refine lv_aload_n hx hb dX8_image_4 rfl (lv_at hl 0 rfl) ?_
  refine va_get (D := (dC, dI)) (ci := 8) (v := .int a0_14) (C := RX8) (T := TX8) (N := 40) hx hb hts zi_X8_image_8 hown hK hP 0 rfl rfl 14 (by decide) (hts (.fieldLink RX8 173 "WaxTurnsModel" "hasGallery" "Z") (List.mem_cons_of_mem _ (List.mem_append_left _ (List.mem_of_getElem? (i := 0) rfl)))) (fun _ h9 => h9) rfl dX8_image_5 ?_
  refine lv_if_ne (tgt := 17) hx hb dX8_image_8 (by decide) (fun c8 => ?_) (fun c8 => ?_)
  · have gc8 := ai_ne c8
    have l8t_a0_14 : (1 : Int) ≤ a0_14.toInt := (by first | exact zg_l ba0_14_l gc8 (by decide) (by decide) | (have h1 := ba0_14_l; have h2 : (0 : Int32).toInt = 0 := (by decide); rw [h2] at gc8; omega))
    have u8t_a0_14 : a0_14.toInt ≤ (-1 : Int) := (by first | exact zg_u ba0_14_u gc8 (by decide) (by decide) | (have h1 := ba0_14_u; have h2 : (0 : Int32).toInt = 0 := (by decide); rw [h2] at gc8; omega))
    exact absurd (Int.le_trans l8t_a0_14 u8t_a0_14) (by decide)
  · have gc8 := ai_eq c8
    have u8f_a0_14 : a0_14.toInt ≤ (0 : Int) := ba0_14_u
    have l8f_a0_14 : (0 : Int) ≤ a0_14.toInt := ba0_14_l
    refine lv_aload_n hx hb dX8_image_11 rfl (lv_at hl 0 rfl) ?_
    refine lv_iconst (v := 1) hx hb dX8_image_12 zk_iconst_1 ?_
    refine va_calli (va_runV (As := [.int 1]) (rest := []) ⟨hx, hb, hml, hown, hts⟩ (c_X8_no l dC dI H.size a0 1 (Value.int v1na0_0) a0g_1 a0g_2 a0g_3 a0g_4 a0g_5 a0g_6 a0g_7 a0g_8 a0g_9 a0g_10 a0g_12 a0g_13 (Value.int a0_14) a0g_15 a0g_16 a0g_17 a0g_18 a0g_19 a0g_20 a0g_21 a0g_22 a0g_23 a0g_24 a0g_25 a0g_26 a0g_27 a0g_28 a0g_29 a0g_30 a0g_31 a0g_32 a0g_33 a0g_34 a0g_35 a0g_36 a0g_37 a0g_38 a0g_39 v1na0_11 ) (cwV 1 hts gX8_image_X8_no rfl rfl rfl zd_X8_no ⟨Nat.le_of_ble_eq_true rfl, Nat.le_of_ble_eq_true rfl⟩) ⟨ax_blind (fun _ _ _ _ _ => trivial), zr_8 (zp_K hK) (zp_P1 hP) (q0 := 0) rfl, ax_pre (zp_P1 hP) (zp_K hK) (zp_D1 hD) (fun _ _ => trivial)⟩ rfl rfl hl.1 rfl (lv_room (Nat.le_of_ble_eq_true rfl)) dX8_image_13 ⟨Nat.le_of_ble_eq_true rfl, Nat.le_of_ble_eq_true rfl⟩) hS (fun q _ h => zp_F1 hD hS hA q h) (zp_F1 hD hS hA) (fun r13 u t H locs ht hvm hw => zx_1 (fun v13na0_11 hB hz1 hk1 hS1 => zo1 hB ht hP hD hk1 (zp_F1 hD hS hA) hS1 (fun hP hK1 hD hS => ?_)))
    have hw : r13 = (-1) := hw
    have hw := hw.symm
    subst hw
    exact W.iret (v := (-1)) hx hb hr (fun t ht hW => ⟨⟨(-1), (), rfl, rfl, v1na0_0, v13na0_11, by rw [ht]; exact hP, va_K.moved hW.alike hK, hD⟩, hS.F ht⟩) hS.2.2 dX8_image_16

set_option maxHeartbeats 4000000 in
set_option maxRecDepth 100000 in
theorem c0_X8_watcher (l : Launch) (dC : Nat → ClassId) (dI : Nat → Nat → Nat) (sz : Nat) (a0 : Nat) (a1 : Int32) (a2 : Int32) (a0_0 : Int32) (a0g_1 a0g_2 a0g_3 a0g_4 a0g_5 a0g_6 a0g_7 a0g_8 a0g_9 a0g_10 a0g_12 a0g_13 a0g_15 a0g_16 a0g_17 a0g_18 a0g_19 a0g_20 a0g_21 a0g_22 a0g_23 a0g_24 a0g_25 a0g_26 a0g_27 a0g_28 a0g_29 a0g_30 a0g_31 a0g_32 a0g_33 a0g_34 a0g_35 a0g_36 a0g_37 a0g_38 a0g_39 : Value) (a0_11 : Int32) (a0_14 : Int32) (ba0_14_l : (0 : Int) ≤ a0_14.toInt) (ba0_14_u : a0_14.toInt ≤ (0 : Int)) : zm l yX8_watcher wsX8_watcher ({ frames := 1, cells := 0, slots := 0, locals := 21 }) [.ref a0, .int a1, .int a2] dC dI sz [(a0, .inr (8, [Value.int a0_0, a0g_1, a0g_2, a0g_3, a0g_4, a0g_5, a0g_6, a0g_7, a0g_8, a0g_9, a0g_10, Value.int a0_11, a0g_12, a0g_13, Value.int a0_14, a0g_15, a0g_16, a0g_17, a0g_18, a0g_19, a0g_20, a0g_21, a0g_22, a0g_23, a0g_24, a0g_25, a0g_26, a0g_27, a0g_28, a0g_29, a0g_30, a0g_31, a0g_32, a0g_33, a0g_34, a0g_35, a0g_36, a0g_37, a0g_38, a0g_39]))] [] (fun A _ => True) (fun A => va_Qi (fun (r : Int32) (_ : Unit) => r = (-1)) (fun (_ : Unit) (t : State) => ∃ na0_0 : Int32, ∃ na0_11 : Int32, ax_B dC dI A [(a0, .inr (8, [Value.int na0_0, a0g_1, a0g_2, a0g_3, a0g_4, a0g_5, a0g_6, a0g_7, a0g_8, a0g_9, a0g_10, Value.int na0_11, a0g_12, a0g_13, Value.int a0_14, a0g_15, a0g_16, a0g_17, a0g_18, a0g_19, a0g_20, a0g_21, a0g_22, a0g_23, a0g_24, a0g_25, a0g_26, a0g_27, a0g_28, a0g_29, a0g_30, a0g_31, a0g_32, a0g_33, a0g_34, a0g_35, a0g_36, a0g_37, a0g_38, a0g_39]))] [] t) A) := by
  refine zh (cc := cX8_watcher) (maxL := 3) (ret := (some .int)) zn_RX8 rfl (Nat.le_of_ble_eq_true rfl) (fun p e s m below meth c A ls hx hb hml hr hts (hown : s.vm.findClass RX8 = some m.cls) hlocks hA hS hP hK hD hE (hl : lv_has ls 3 [(0, .ref a0), (1, .int a1), (2, .int a2)]) => ?_)
  refine lv_aload_n hx hb dX8_watcher_0 rfl (lv_at hl 0 rfl) ?_
  refine va_callv (va_runV (As := []) (rest := []) ⟨hx, hb, hml, hown, hts⟩ (c_X8_good l dC dI s.heap.size a0 a0_0 a0g_1 a0g_2 a0g_3 a0g_4 a0g_5 a0g_6 a0g_7 a0g_8 a0g_9 a0g_10 a0g_12 a0g_13 (Value.int a0_14) a0g_15 a0g_16 a0g_17 a0g_18 a0g_19 a0g_20 a0g_21 a0g_22 a0g_23 a0g_24 a0g_25 a0g_26 a0g_27 a0g_28 a0g_29 a0g_30 a0g_31 a0g_32 a0g_33 a0g_34 a0g_35 a0g_36 a0g_37 a0g_38 a0g_39 a0_11 ) (cwV 0 hts gX8_watcher_X8_good rfl rfl rfl zd_X8_good ⟨Nat.le_of_ble_eq_true rfl, Nat.le_of_ble_eq_true rfl⟩) ⟨ax_blind (fun _ _ _ _ _ => trivial), zr_8 (zp_K hK) (zp_P1 hP) (q0 := 0) rfl, ax_pre (zp_P1 hP) (zp_K hK) (zp_D1 hD) (fun _ _ => trivial)⟩ rfl rfl hl.1 rfl (lv_room (Nat.le_of_ble_eq_true rfl)) dX8_watcher_1 ⟨Nat.le_of_ble_eq_true rfl, Nat.le_of_ble_eq_true rfl⟩) hS (fun q _ h => zp_F1 hD hS hA q h) (zp_F1 hD hS hA) (fun u t H locs ht hvm hw => zx_2 (fun v1na0_0 v1na0_11 hB hz1 hk1 hS1 => zo1 hB ht hP hD hk1 (zp_F1 hD hS hA) hS1 (fun hP hK1 hD hS => ?_)))
  refine lv_aload_n hx hb dX8_watcher_4 rfl (lv_at hl 0 rfl) ?_
  refine lv_iload_n hx hb dX8_watcher_5 rfl (lv_at hl 1 rfl) ?_
  refine va_calli (va_runV (As := [.int a1]) (rest := []) ⟨hx, hb, hml, hown, hts⟩ (c0_X8_isWatcher l dC dI H.size a0 a1 (Value.int v1na0_0) a0g_1 a0g_2 a0g_3 a0g_4 a0g_5 a0g_6 a0g_7 a0g_8 a0g_9 a0g_10 (Value.int v1na0_11) a0g_12 a0g_13 a0g_15 a0g_16 a0g_17 a0g_18 a0g_19 a0g_20 a0g_21 a0g_22 a0g_23 a0g_24 a0g_25 a0g_26 a0g_27 a0g_28 a0g_29 a0g_30 a0g_31 a0g_32 a0g_33 a0g_34 a0g_35 a0g_36 a0g_37 a0g_38 a0g_39 a0_14 ba0_14_l ba0_14_u) (cwV 1 hts gX8_watcher_X8_isWatcher rfl rfl rfl zd_X8_isWatcher ⟨Nat.le_of_ble_eq_true rfl, Nat.le_of_ble_eq_true rfl⟩) ⟨ax_blind (fun _ _ _ _ _ => trivial), zr_8 (zp_K hK) (zp_P1 hP) (q0 := 0) rfl, ax_pre (zp_P1 hP) (zp_K hK) (zp_D1 hD) (fun _ _ => trivial)⟩ rfl rfl hl.1 rfl (lv_room (Nat.le_of_ble_eq_true rfl)) dX8_watcher_6 ⟨Nat.le_of_ble_eq_true rfl, Nat.le_of_ble_eq_true rfl⟩) hS (fun q _ h => zp_F1 hD hS hA q h) (zp_F1 hD hS hA) (fun r6 u t H locs ht hvm hw hB hz1 hk1 hS1 => zo1 hB ht hP hD hk1 (zp_F1 hD hS hA) hS1 (fun hP hK1 hD hS => ?_))
  have hw : r6 = 0 := hw
  have hw := hw.symm
  subst hw
  refine lv_if_eq (tgt := 21) hx hb dX8_watcher_9 (by decide) (fun _ => ?_) (fun c9 => absurd (by decide +kernel) c9)
  refine lv_aload_n hx hb dX8_watcher_21 rfl (lv_at hl 0 rfl) ?_
  refine lv_iconst (v := 1) hx hb dX8_watcher_22 zk_iconst_1 ?_
  refine va_calli (va_runV (As := [.int 1]) (rest := []) ⟨hx, hb, hml, hown, hts⟩ (c_X8_no l dC dI H.size a0 1 (Value.int v1na0_0) a0g_1 a0g_2 a0g_3 a0g_4 a0g_5 a0g_6 a0g_7 a0g_8 a0g_9 a0g_10 a0g_12 a0g_13 (Value.int a0_14) a0g_15 a0g_16 a0g_17 a0g_18 a0g_19 a0g_20 a0g_21 a0g_22 a0g_23 a0g_24 a0g_25 a0g_26 a0g_27 a0g_28 a0g_29 a0g_30 a0g_31 a0g_32 a0g_33 a0g_34 a0g_35 a0g_36 a0g_37 a0g_38 a0g_39 v1na0_11 ) (cwV 1 hts gX8_watcher_X8_no rfl rfl rfl zd_X8_no ⟨Nat.le_of_ble_eq_true rfl, Nat.le_of_ble_eq_true rfl⟩) ⟨ax_blind (fun _ _ _ _ _ => trivial), zr_8 (zp_K hK) (zp_P1 hP) (q0 := 0) rfl, ax_pre (zp_P1 hP) (zp_K hK) (zp_D1 hD) (fun _ _ => trivial)⟩ rfl rfl hl.1 rfl (lv_room (Nat.le_of_ble_eq_true rfl)) dX8_watcher_23 ⟨Nat.le_of_ble_eq_true rfl, Nat.le_of_ble_eq_true rfl⟩) hS (fun q _ h => zp_F1 hD hS hA q h) (zp_F1 hD hS hA) (fun r23 u t H locs ht hvm hw => zx_1 (fun v23na0_11 hB hz1 hk1 hS1 => zo1 hB ht hP hD hk1 (zp_F1 hD hS hA) hS1 (fun hP hK1 hD hS => ?_)))
  have hw : r23 = (-1) := hw
  have hw := hw.symm
  subst hw
  exact W.iret (v := (-1)) hx hb hr (fun t ht hW => ⟨⟨(-1), (), rfl, rfl, v1na0_0, v23na0_11, by rw [ht]; exact hP, va_K.moved hW.alike hK, hD⟩, hS.F ht⟩) hS.2.2 dX8_watcher_26

set_option maxHeartbeats 4000000 in
set_option maxRecDepth 100000 in
theorem c0_X8_watch (l : Launch) (dC : Nat → ClassId) (dI : Nat → Nat → Nat) (sz : Nat) (a0 : Nat) (a1 : Int32) (a2 : Int32) (a0_0 : Int32) (a0g_1 a0g_2 a0g_3 a0g_4 a0g_5 a0g_6 a0g_7 a0g_8 a0g_9 a0g_10 a0g_12 a0g_13 a0g_15 a0g_16 a0g_17 a0g_18 a0g_19 a0g_20 a0g_21 a0g_22 a0g_23 a0g_24 a0g_25 a0g_26 a0g_27 a0g_28 a0g_29 a0g_30 a0g_31 a0g_32 a0g_33 a0g_34 a0g_35 a0g_36 a0g_37 a0g_38 a0g_39 : Value) (a0_11 : Int32) (a0_14 : Int32) (ba0_14_l : (0 : Int) ≤ a0_14.toInt) (ba0_14_u : a0_14.toInt ≤ (0 : Int)) : zm l yX8_watch wsX8_watch ({ frames := 2, cells := 0, slots := 0, locals := 45 }) [.ref a0, .int a1, .int a2] dC dI sz [(a0, .inr (8, [Value.int a0_0, a0g_1, a0g_2, a0g_3, a0g_4, a0g_5, a0g_6, a0g_7, a0g_8, a0g_9, a0g_10, Value.int a0_11, a0g_12, a0g_13, Value.int a0_14, a0g_15, a0g_16, a0g_17, a0g_18, a0g_19, a0g_20, a0g_21, a0g_22, a0g_23, a0g_24, a0g_25, a0g_26, a0g_27, a0g_28, a0g_29, a0g_30, a0g_31, a0g_32, a0g_33, a0g_34, a0g_35, a0g_36, a0g_37, a0g_38, a0g_39]))] [] (fun A _ => True) (fun A => va_Qi (fun (r : Int32) (_ : Unit) => r = (-1)) (fun (_ : Unit) (t : State) => ∃ na0_0 : Int32, ∃ na0_11 : Int32, ax_B dC dI A [(a0, .inr (8, [Value.int na0_0, a0g_1, a0g_2, a0g_3, a0g_4, a0g_5, a0g_6, a0g_7, a0g_8, a0g_9, a0g_10, Value.int na0_11, a0g_12, a0g_13, Value.int a0_14, a0g_15, a0g_16, a0g_17, a0g_18, a0g_19, a0g_20, a0g_21, a0g_22, a0g_23, a0g_24, a0g_25, a0g_26, a0g_27, a0g_28, a0g_29, a0g_30, a0g_31, a0g_32, a0g_33, a0g_34, a0g_35, a0g_36, a0g_37, a0g_38, a0g_39]))] [] t) A) := by
  refine zh (cc := cX8_watch) (maxL := 4) (ret := (some .int)) zn_RX8 rfl (Nat.le_of_ble_eq_true rfl) (fun p e s m below meth c A ls hx hb hml hr hts (hown : s.vm.findClass RX8 = some m.cls) hlocks hA hS hP hK hD hE (hl : lv_has ls 4 [(0, .ref a0), (1, .int a1), (2, .int a2)]) => ?_)
  refine lv_aload_n hx hb dX8_watch_0 rfl (lv_at hl 0 rfl) ?_
  refine va_callv (va_runV (As := []) (rest := []) ⟨hx, hb, hml, hown, hts⟩ (c_X8_good l dC dI s.heap.size a0 a0_0 a0g_1 a0g_2 a0g_3 a0g_4 a0g_5 a0g_6 a0g_7 a0g_8 a0g_9 a0g_10 a0g_12 a0g_13 (Value.int a0_14) a0g_15 a0g_16 a0g_17 a0g_18 a0g_19 a0g_20 a0g_21 a0g_22 a0g_23 a0g_24 a0g_25 a0g_26 a0g_27 a0g_28 a0g_29 a0g_30 a0g_31 a0g_32 a0g_33 a0g_34 a0g_35 a0g_36 a0g_37 a0g_38 a0g_39 a0_11 ) (cwV 0 hts gX8_watch_X8_good rfl rfl rfl zd_X8_good ⟨Nat.le_of_ble_eq_true rfl, Nat.le_of_ble_eq_true rfl⟩) ⟨ax_blind (fun _ _ _ _ _ => trivial), zr_8 (zp_K hK) (zp_P1 hP) (q0 := 0) rfl, ax_pre (zp_P1 hP) (zp_K hK) (zp_D1 hD) (fun _ _ => trivial)⟩ rfl rfl hl.1 rfl (lv_room (Nat.le_of_ble_eq_true rfl)) dX8_watch_1 ⟨Nat.le_of_ble_eq_true rfl, Nat.le_of_ble_eq_true rfl⟩) hS (fun q _ h => zp_F1 hD hS hA q h) (zp_F1 hD hS hA) (fun u t H locs ht hvm hw => zx_2 (fun v1na0_0 v1na0_11 hB hz1 hk1 hS1 => zo1 hB ht hP hD hk1 (zp_F1 hD hS hA) hS1 (fun hP hK1 hD hS => ?_)))
  refine lv_aload_n hx hb dX8_watch_4 rfl (lv_at hl 0 rfl) ?_
  refine lv_aload_n hx hb dX8_watch_5 rfl (lv_at hl 0 rfl) ?_
  refine lv_iload_n hx hb dX8_watch_6 rfl (lv_at hl 1 rfl) ?_
  refine va_calli (va_runV (As := [.int a1]) (rest := [.ref a0]) ⟨hx, hb, hml, hown, hts⟩ (c0_X8_isWatcher l dC dI H.size a0 a1 (Value.int v1na0_0) a0g_1 a0g_2 a0g_3 a0g_4 a0g_5 a0g_6 a0g_7 a0g_8 a0g_9 a0g_10 (Value.int v1na0_11) a0g_12 a0g_13 a0g_15 a0g_16 a0g_17 a0g_18 a0g_19 a0g_20 a0g_21 a0g_22 a0g_23 a0g_24 a0g_25 a0g_26 a0g_27 a0g_28 a0g_29 a0g_30 a0g_31 a0g_32 a0g_33 a0g_34 a0g_35 a0g_36 a0g_37 a0g_38 a0g_39 a0_14 ba0_14_l ba0_14_u) (cwV 1 hts gX8_watch_X8_isWatcher rfl rfl rfl zd_X8_isWatcher ⟨Nat.le_of_ble_eq_true rfl, Nat.le_of_ble_eq_true rfl⟩) ⟨ax_blind (fun _ _ _ _ _ => trivial), zr_8 (zp_K hK) (zp_P1 hP) (q0 := 0) rfl, ax_pre (zp_P1 hP) (zp_K hK) (zp_D1 hD) (fun _ _ => trivial)⟩ rfl rfl hl.1 rfl (lv_room (Nat.le_of_ble_eq_true rfl)) dX8_watch_7 ⟨Nat.le_of_ble_eq_true rfl, Nat.le_of_ble_eq_true rfl⟩) hS (fun q _ h => zp_F1 hD hS hA q h) (zp_F1 hD hS hA) (fun r7 u t H locs ht hvm hw hB hz1 hk1 hS1 => zo1 hB ht hP hD hk1 (zp_F1 hD hS hA) hS1 (fun hP hK1 hD hS => ?_))
  have hw : r7 = 0 := hw
  have hw := hw.symm
  subst hw
  refine lv_iconst (v := 1) hx hb dX8_watch_10 zk_iconst_1 ?_
  refine lv_iload_n hx hb dX8_watch_11 rfl (lv_at hl 2 rfl) ?_
  refine va_calli (va_runV (As := [.int 0, .int 1, .int a2]) (rest := []) ⟨hx, hb, hml, hown, hts⟩ (c_X8_aheadWhy l dC dI H.size a0 0 1 a2 (Value.int v1na0_0) a0g_1 a0g_2 a0g_3 a0g_4 a0g_5 a0g_6 a0g_7 a0g_8 a0g_9 a0g_10 (Value.int v1na0_11) a0g_12 a0g_13 (Value.int a0_14) a0g_15 a0g_16 a0g_17 a0g_18 a0g_19 a0g_20 a0g_21 a0g_22 a0g_23 a0g_24 a0g_25 a0g_26 a0g_27 a0g_28 a0g_29 a0g_30 a0g_31 a0g_32 a0g_33 a0g_34 a0g_35 a0g_36 a0g_37 a0g_38 a0g_39 zq5 (Int.le_trans zq6 zq4) (Int.le_trans zq4 zq1) zq0) (cwV 3 hts gX8_watch_X8_aheadWhy rfl rfl rfl zd_X8_aheadWhy ⟨Nat.le_of_ble_eq_true rfl, Nat.le_of_ble_eq_true rfl⟩) ⟨ax_blind (fun _ _ _ _ _ => trivial), zr_8 (zp_K hK) (zp_P1 hP) (q0 := 0) rfl, ax_pre (zp_P1 hP) (zp_K hK) (zp_D1 hD) (fun _ _ => trivial)⟩ rfl rfl hl.1 rfl (lv_room (Nat.le_of_ble_eq_true rfl)) dX8_watch_12 ⟨Nat.le_of_ble_eq_true rfl, Nat.le_of_ble_eq_true rfl⟩) hS (fun q _ h => zp_F1 hD hS hA q h) (zp_F1 hD hS hA) (fun r12 u t H locs ht hvm hw hB hz1 hk1 hS1 => zo1 hB ht hP hD hk1 (zp_F1 hD hS hA) hS1 (fun hP hK1 hD hS => ?_))
  rcases hw with hw | hw | hw
  · obtain ⟨hw, h12_0, h12_1⟩ := hw
    subst hw
    exact absurd h12_0 (by decide)
  · obtain ⟨hw, h12_0, h12_1⟩ := hw
    subst hw
    refine lv_istore_n (lv' := [(3, .int 1), (0, .ref a0), (1, .int a1), (2, .int a2)]) hx hb dX8_watch_15 rfl hl (by decide) rfl (fun ls hl => ?_)
    refine lv_iload_n hx hb dX8_watch_16 rfl (lv_at hl 0 rfl) ?_
    refine lv_if_eq (tgt := 26) hx hb dX8_watch_17 (by decide) (fun c17 => absurd c17 (by decide +kernel)) (fun _ => ?_)
    refine lv_aload_n hx hb dX8_watch_20 rfl (lv_at hl 1 rfl) ?_
    refine lv_iload_n hx hb dX8_watch_21 rfl (lv_at hl 0 rfl) ?_
    refine va_calli (va_runV (As := [.int 1]) (rest := []) ⟨hx, hb, hml, hown, hts⟩ (c_X8_no l dC dI H.size a0 1 (Value.int v1na0_0) a0g_1 a0g_2 a0g_3 a0g_4 a0g_5 a0g_6 a0g_7 a0g_8 a0g_9 a0g_10 a0g_12 a0g_13 (Value.int a0_14) a0g_15 a0g_16 a0g_17 a0g_18 a0g_19 a0g_20 a0g_21 a0g_22 a0g_23 a0g_24 a0g_25 a0g_26 a0g_27 a0g_28 a0g_29 a0g_30 a0g_31 a0g_32 a0g_33 a0g_34 a0g_35 a0g_36 a0g_37 a0g_38 a0g_39 v1na0_11 ) (cwV 1 hts gX8_watch_X8_no rfl rfl rfl zd_X8_no ⟨Nat.le_of_ble_eq_true rfl, Nat.le_of_ble_eq_true rfl⟩) ⟨ax_blind (fun _ _ _ _ _ => trivial), zr_8 (zp_K hK) (zp_P1 hP) (q0 := 0) rfl, ax_pre (zp_P1 hP) (zp_K hK) (zp_D1 hD) (fun _ _ => trivial)⟩ rfl rfl hl.1 rfl (lv_room (Nat.le_of_ble_eq_true rfl)) dX8_watch_22 ⟨Nat.le_of_ble_eq_true rfl, Nat.le_of_ble_eq_true rfl⟩) hS (fun q _ h => zp_F1 hD hS hA q h) (zp_F1 hD hS hA) (fun r22 u t H locs ht hvm hw => zx_1 (fun v22na0_11 hB hz1 hk1 hS1 => zo1 hB ht hP hD hk1 (zp_F1 hD hS hA) hS1 (fun hP hK1 hD hS => ?_)))
    have hw : r22 = (-1) := hw
    have hw := hw.symm
    subst hw
    exact W.iret (v := (-1)) hx hb hr (fun t ht hW => ⟨⟨(-1), (), rfl, rfl, v1na0_0, v22na0_11, by rw [ht]; exact hP, va_K.moved hW.alike hK, hD⟩, hS.F ht⟩) hS.2.2 dX8_watch_25
  · obtain ⟨hw, h12_0, h12_1, h12_2, h12_3⟩ := hw
    subst hw
    exact absurd h12_0 (by decide)
end P280_06_safe
section P280_07_safe
set_option maxHeartbeats 4000000 in
set_option maxRecDepth 100000 in
theorem c0_X8_meets (l : Launch) (dC : Nat → ClassId) (dI : Nat → Nat → Nat) (sz : Nat) (a0 : Nat) (a1 : Int32) (a0_0 : Int32) (a0g_1 a0g_2 a0g_3 a0g_4 a0g_5 a0g_6 a0g_7 a0g_8 a0g_9 a0g_10 a0g_12 a0g_13 a0g_15 a0g_16 a0g_17 a0g_18 a0g_19 a0g_20 a0g_21 a0g_22 a0g_23 a0g_24 a0g_25 a0g_26 a0g_27 a0g_28 a0g_29 a0g_30 a0g_31 a0g_32 a0g_33 a0g_34 a0g_35 a0g_36 a0g_37 a0g_38 a0g_39 : Value) (a0_11 : Int32) (a0_14 : Int32) (ba0_14_l : (0 : Int) ≤ a0_14.toInt) (ba0_14_u : a0_14.toInt ≤ (0 : Int)) : zm l yX8_meets wsX8_meets ({ frames := 1, cells := 0, slots := 0, locals := 21 }) [.ref a0, .int a1] dC dI sz [(a0, .inr (8, [Value.int a0_0, a0g_1, a0g_2, a0g_3, a0g_4, a0g_5, a0g_6, a0g_7, a0g_8, a0g_9, a0g_10, Value.int a0_11, a0g_12, a0g_13, Value.int a0_14, a0g_15, a0g_16, a0g_17, a0g_18, a0g_19, a0g_20, a0g_21, a0g_22, a0g_23, a0g_24, a0g_25, a0g_26, a0g_27, a0g_28, a0g_29, a0g_30, a0g_31, a0g_32, a0g_33, a0g_34, a0g_35, a0g_36, a0g_37, a0g_38, a0g_39]))] [] (fun A _ => True) (fun A => va_Qi (fun (r : Int32) (_ : Unit) => r = (-1)) (fun (_ : Unit) (t : State) => ∃ na0_0 : Int32, ∃ na0_11 : Int32, ax_B dC dI A [(a0, .inr (8, [Value.int na0_0, a0g_1, a0g_2, a0g_3, a0g_4, a0g_5, a0g_6, a0g_7, a0g_8, a0g_9, a0g_10, Value.int na0_11, a0g_12, a0g_13, Value.int a0_14, a0g_15, a0g_16, a0g_17, a0g_18, a0g_19, a0g_20, a0g_21, a0g_22, a0g_23, a0g_24, a0g_25, a0g_26, a0g_27, a0g_28, a0g_29, a0g_30, a0g_31, a0g_32, a0g_33, a0g_34, a0g_35, a0g_36, a0g_37, a0g_38, a0g_39]))] [] t) A) := by
  refine zh (cc := cX8_meets) (maxL := 4) (ret := (some .int)) zn_RX8 rfl (Nat.le_of_ble_eq_true rfl) (fun p e s m below meth c A ls hx hb hml hr hts (hown : s.vm.findClass RX8 = some m.cls) hlocks hA hS hP hK hD hE (hl : lv_has ls 4 [(0, .ref a0), (1, .int a1)]) => ?_)
  refine ai_open (fun K hK0 => ?_)
  refine (hK0 _ _ _).mpr ?_
  refine lv_aload_n hx hb dX8_meets_0 rfl (lv_at hl 0 rfl) ?_
  refine va_callv (va_runV (As := []) (rest := []) ⟨hx, hb, hml, hown, hts⟩ (c_X8_good l dC dI s.heap.size a0 a0_0 a0g_1 a0g_2 a0g_3 a0g_4 a0g_5 a0g_6 a0g_7 a0g_8 a0g_9 a0g_10 a0g_12 a0g_13 (Value.int a0_14) a0g_15 a0g_16 a0g_17 a0g_18 a0g_19 a0g_20 a0g_21 a0g_22 a0g_23 a0g_24 a0g_25 a0g_26 a0g_27 a0g_28 a0g_29 a0g_30 a0g_31 a0g_32 a0g_33 a0g_34 a0g_35 a0g_36 a0g_37 a0g_38 a0g_39 a0_11 ) (cwV 0 hts gX8_meets_X8_good rfl rfl rfl zd_X8_good ⟨Nat.le_of_ble_eq_true rfl, Nat.le_of_ble_eq_true rfl⟩) ⟨ax_blind (fun _ _ _ _ _ => trivial), zr_8 (zp_K hK) (zp_P1 hP) (q0 := 0) rfl, ax_pre (zp_P1 hP) (zp_K hK) (zp_D1 hD) (fun _ _ => trivial)⟩ rfl rfl hl.1 rfl (lv_room (Nat.le_of_ble_eq_true rfl)) dX8_meets_1 ⟨Nat.le_of_ble_eq_true rfl, Nat.le_of_ble_eq_true rfl⟩) hS (fun q _ h => zp_F1 hD hS hA q h) (zp_F1 hD hS hA) (fun u t H locs ht hvm hw => zx_2 (fun v1na0_0 v1na0_11 hB hz1 hk1 hS1 => zo1 hB ht hP hD hk1 (zp_F1 hD hS hA) hS1 (fun hP hK1 hD hS => ?_)))
  refine lv_aload_n hx hb dX8_meets_4 rfl (lv_at hl 0 rfl) ?_
  refine lv_iload_n hx hb dX8_meets_5 rfl (lv_at hl 1 rfl) ?_
  refine va_calli (va_runV (As := [.int a1]) (rest := []) ⟨hx, hb, hml, hown, hts⟩ (c0_X8_isWatcher l dC dI H.size a0 a1 (Value.int v1na0_0) a0g_1 a0g_2 a0g_3 a0g_4 a0g_5 a0g_6 a0g_7 a0g_8 a0g_9 a0g_10 (Value.int v1na0_11) a0g_12 a0g_13 a0g_15 a0g_16 a0g_17 a0g_18 a0g_19 a0g_20 a0g_21 a0g_22 a0g_23 a0g_24 a0g_25 a0g_26 a0g_27 a0g_28 a0g_29 a0g_30 a0g_31 a0g_32 a0g_33 a0g_34 a0g_35 a0g_36 a0g_37 a0g_38 a0g_39 a0_14 ba0_14_l ba0_14_u) (cwV 1 hts gX8_meets_X8_isWatcher rfl rfl rfl zd_X8_isWatcher ⟨Nat.le_of_ble_eq_true rfl, Nat.le_of_ble_eq_true rfl⟩) ⟨ax_blind (fun _ _ _ _ _ => trivial), zr_8 (zp_K hK) (zp_P1 hP) (q0 := 0) rfl, ax_pre (zp_P1 hP) (zp_K hK) (zp_D1 hD) (fun _ _ => trivial)⟩ rfl rfl hl.1 rfl (lv_room (Nat.le_of_ble_eq_true rfl)) dX8_meets_6 ⟨Nat.le_of_ble_eq_true rfl, Nat.le_of_ble_eq_true rfl⟩) hS (fun q _ h => zp_F1 hD hS hA q h) (zp_F1 hD hS hA) (fun r6 u t H locs ht hvm hw hB hz1 hk1 hS1 => zo1 hB ht hP hD hk1 (zp_F1 hD hS hA) hS1 (fun hP hK1 hD hS => ?_))
  have hw : r6 = 0 := hw
  have hw := hw.symm
  subst hw
  refine lv_if_ne (tgt := 18) hx hb dX8_meets_9 (by decide) (fun c9 => absurd (by decide +kernel) c9) (fun _ => ?_)
  refine lv_aload_n hx hb dX8_meets_12 rfl (lv_at hl 0 rfl) ?_
  refine lv_iconst (v := 1) hx hb dX8_meets_13 zk_iconst_1 ?_
  refine va_calli (va_runV (As := [.int 1]) (rest := []) ⟨hx, hb, hml, hown, hts⟩ (c_X8_no l dC dI H.size a0 1 (Value.int v1na0_0) a0g_1 a0g_2 a0g_3 a0g_4 a0g_5 a0g_6 a0g_7 a0g_8 a0g_9 a0g_10 a0g_12 a0g_13 (Value.int a0_14) a0g_15 a0g_16 a0g_17 a0g_18 a0g_19 a0g_20 a0g_21 a0g_22 a0g_23 a0g_24 a0g_25 a0g_26 a0g_27 a0g_28 a0g_29 a0g_30 a0g_31 a0g_32 a0g_33 a0g_34 a0g_35 a0g_36 a0g_37 a0g_38 a0g_39 v1na0_11 ) (cwV 1 hts gX8_meets_X8_no rfl rfl rfl zd_X8_no ⟨Nat.le_of_ble_eq_true rfl, Nat.le_of_ble_eq_true rfl⟩) ⟨ax_blind (fun _ _ _ _ _ => trivial), zr_8 (zp_K hK) (zp_P1 hP) (q0 := 0) rfl, ax_pre (zp_P1 hP) (zp_K hK) (zp_D1 hD) (fun _ _ => trivial)⟩ rfl rfl hl.1 rfl (lv_room (Nat.le_of_ble_eq_true rfl)) dX8_meets_14 ⟨Nat.le_of_ble_eq_true rfl, Nat.le_of_ble_eq_true rfl⟩) hS (fun q _ h => zp_F1 hD hS hA q h) (zp_F1 hD hS hA) (fun r14 u t H locs ht hvm hw => zx_1 (fun v14na0_11 hB hz1 hk1 hS1 => zo1 hB ht hP hD hk1 (zp_F1 hD hS hA) hS1 (fun hP hK1 hD hS => ?_)))
  have hw : r14 = (-1) := hw
  have hw := hw.symm
  subst hw
  exact W.iret (v := (-1)) hx hb hr (fun t ht hW => ⟨⟨(-1), (), rfl, rfl, v1na0_0, v14na0_11, by rw [ht]; exact hP, va_K.moved hW.alike hK, hD⟩, hS.F ht⟩) hS.2.2 dX8_meets_17

set_option maxHeartbeats 4000000 in
set_option maxRecDepth 100000 in
theorem c0_X8_patrol (l : Launch) (dC : Nat → ClassId) (dI : Nat → Nat → Nat) (sz : Nat) (a0 : Nat) (a1 : Int32) (a2 : Int32) (a0_0 : Int32) (a0g_1 a0g_2 a0g_3 a0g_4 a0g_5 a0g_6 a0g_7 a0g_8 a0g_9 a0g_10 a0g_12 a0g_13 a0g_15 a0g_16 a0g_17 a0g_18 a0g_19 a0g_20 a0g_21 a0g_22 a0g_23 a0g_24 a0g_25 a0g_26 a0g_27 a0g_28 a0g_29 a0g_30 a0g_31 a0g_32 a0g_33 a0g_34 a0g_35 a0g_36 a0g_37 a0g_38 a0g_39 : Value) (a0_11 : Int32) (a0_14 : Int32) (ba0_14_l : (0 : Int) ≤ a0_14.toInt) (ba0_14_u : a0_14.toInt ≤ (0 : Int)) : zm l yX8_patrol wsX8_patrol ({ frames := 1, cells := 0, slots := 0, locals := 22 }) [.ref a0, .int a1, .int a2] dC dI sz [(a0, .inr (8, [Value.int a0_0, a0g_1, a0g_2, a0g_3, a0g_4, a0g_5, a0g_6, a0g_7, a0g_8, a0g_9, a0g_10, Value.int a0_11, a0g_12, a0g_13, Value.int a0_14, a0g_15, a0g_16, a0g_17, a0g_18, a0g_19, a0g_20, a0g_21, a0g_22, a0g_23, a0g_24, a0g_25, a0g_26, a0g_27, a0g_28, a0g_29, a0g_30, a0g_31, a0g_32, a0g_33, a0g_34, a0g_35, a0g_36, a0g_37, a0g_38, a0g_39]))] [] (fun A _ => True) (fun A => va_Qi (fun (r : Int32) (_ : Unit) => r = (-1)) (fun (_ : Unit) (t : State) => ∃ na0_0 : Int32, ∃ na0_11 : Int32, ax_B dC dI A [(a0, .inr (8, [Value.int na0_0, a0g_1, a0g_2, a0g_3, a0g_4, a0g_5, a0g_6, a0g_7, a0g_8, a0g_9, a0g_10, Value.int na0_11, a0g_12, a0g_13, Value.int a0_14, a0g_15, a0g_16, a0g_17, a0g_18, a0g_19, a0g_20, a0g_21, a0g_22, a0g_23, a0g_24, a0g_25, a0g_26, a0g_27, a0g_28, a0g_29, a0g_30, a0g_31, a0g_32, a0g_33, a0g_34, a0g_35, a0g_36, a0g_37, a0g_38, a0g_39]))] [] t) A) := by
  refine zh (cc := cX8_patrol) (maxL := 9) (ret := (some .int)) zn_RX8 rfl (Nat.le_of_ble_eq_true rfl) (fun p e s m below meth c A ls hx hb hml hr hts (hown : s.vm.findClass RX8 = some m.cls) hlocks hA hS hP hK hD hE (hl : lv_has ls 9 [(0, .ref a0), (1, .int a1), (2, .int a2)]) => ?_)
  refine ai_open (fun K hK0 => ?_)
  refine (hK0 _ _ _).mpr ?_
  refine lv_aload_n hx hb dX8_patrol_0 rfl (lv_at hl 0 rfl) ?_
  refine va_callv (va_runV (As := []) (rest := []) ⟨hx, hb, hml, hown, hts⟩ (c_X8_good l dC dI s.heap.size a0 a0_0 a0g_1 a0g_2 a0g_3 a0g_4 a0g_5 a0g_6 a0g_7 a0g_8 a0g_9 a0g_10 a0g_12 a0g_13 (Value.int a0_14) a0g_15 a0g_16 a0g_17 a0g_18 a0g_19 a0g_20 a0g_21 a0g_22 a0g_23 a0g_24 a0g_25 a0g_26 a0g_27 a0g_28 a0g_29 a0g_30 a0g_31 a0g_32 a0g_33 a0g_34 a0g_35 a0g_36 a0g_37 a0g_38 a0g_39 a0_11 ) (cwV 0 hts gX8_patrol_X8_good rfl rfl rfl zd_X8_good ⟨Nat.le_of_ble_eq_true rfl, Nat.le_of_ble_eq_true rfl⟩) ⟨ax_blind (fun _ _ _ _ _ => trivial), zr_8 (zp_K hK) (zp_P1 hP) (q0 := 0) rfl, ax_pre (zp_P1 hP) (zp_K hK) (zp_D1 hD) (fun _ _ => trivial)⟩ rfl rfl hl.1 rfl (lv_room (Nat.le_of_ble_eq_true rfl)) dX8_patrol_1 ⟨Nat.le_of_ble_eq_true rfl, Nat.le_of_ble_eq_true rfl⟩) hS (fun q _ h => zp_F1 hD hS hA q h) (zp_F1 hD hS hA) (fun u t H locs ht hvm hw => zx_2 (fun v1na0_0 v1na0_11 hB hz1 hk1 hS1 => zo1 hB ht hP hD hk1 (zp_F1 hD hS hA) hS1 (fun hP hK1 hD hS => ?_)))
  refine lv_aload_n hx hb dX8_patrol_4 rfl (lv_at hl 0 rfl) ?_
  refine lv_aload_n hx hb dX8_patrol_5 rfl (lv_at hl 0 rfl) ?_
  refine lv_iload_n hx hb dX8_patrol_6 rfl (lv_at hl 1 rfl) ?_
  refine va_calli (va_runV (As := [.int a1]) (rest := [.ref a0]) ⟨hx, hb, hml, hown, hts⟩ (c0_X8_isWatcher l dC dI H.size a0 a1 (Value.int v1na0_0) a0g_1 a0g_2 a0g_3 a0g_4 a0g_5 a0g_6 a0g_7 a0g_8 a0g_9 a0g_10 (Value.int v1na0_11) a0g_12 a0g_13 a0g_15 a0g_16 a0g_17 a0g_18 a0g_19 a0g_20 a0g_21 a0g_22 a0g_23 a0g_24 a0g_25 a0g_26 a0g_27 a0g_28 a0g_29 a0g_30 a0g_31 a0g_32 a0g_33 a0g_34 a0g_35 a0g_36 a0g_37 a0g_38 a0g_39 a0_14 ba0_14_l ba0_14_u) (cwV 1 hts gX8_patrol_X8_isWatcher rfl rfl rfl zd_X8_isWatcher ⟨Nat.le_of_ble_eq_true rfl, Nat.le_of_ble_eq_true rfl⟩) ⟨ax_blind (fun _ _ _ _ _ => trivial), zr_8 (zp_K hK) (zp_P1 hP) (q0 := 0) rfl, ax_pre (zp_P1 hP) (zp_K hK) (zp_D1 hD) (fun _ _ => trivial)⟩ rfl rfl hl.1 rfl (lv_room (Nat.le_of_ble_eq_true rfl)) dX8_patrol_7 ⟨Nat.le_of_ble_eq_true rfl, Nat.le_of_ble_eq_true rfl⟩) hS (fun q _ h => zp_F1 hD hS hA q h) (zp_F1 hD hS hA) (fun r7 u t H locs ht hvm hw hB hz1 hk1 hS1 => zo1 hB ht hP hD hk1 (zp_F1 hD hS hA) hS1 (fun hP hK1 hD hS => ?_))
  have hw : r7 = 0 := hw
  have hw := hw.symm
  subst hw
  refine lv_iload_n hx hb dX8_patrol_10 rfl (lv_at hl 2 rfl) ?_
  refine lv_iconst (v := 1) hx hb dX8_patrol_11 zk_iconst_1 ?_
  refine lv_bipush (v := 60) hx hb dX8_patrol_12 zk_bipush_60 ?_
  refine va_calli (va_runS (As := [.int a2, .int 1, .int 60]) (rest := [.int 0, .ref a0]) ⟨hx, hb, hml, hown, hts⟩ (c_X8_in l dC dI H.size a2 1 60 ) (va_cwS 3 hts gX8_patrol_X8_in rfl rfl rfl zd_X8_in.2 ⟨Nat.le_of_ble_eq_true rfl, Nat.le_of_ble_eq_true rfl⟩) ⟨ax_blind (fun _ _ _ _ _ => trivial), ax_pre (zp_P0 hP) (zp_K hK) (zp_D0 hD) (fun _ _ => trivial)⟩ rfl rfl hl.1 rfl (lv_room (Nat.le_of_ble_eq_true rfl)) dX8_patrol_14 ⟨Nat.le_of_ble_eq_true rfl, Nat.le_of_ble_eq_true rfl⟩) hS (fun q _ h => zp_F0 hD hS hA q h) (zp_F0 hD hS hA) (fun r14 u t H locs ht hvm hw hB hz1 hk1 hS1 => zo0 hB ht hP hD hk1 (zp_F0 hD hS hA) hS1 (fun hP hK1 hD hS => ?_))
  rcases hw with hw | hw
  · obtain ⟨hw, h14⟩ := hw
    subst hw
    have l14k0_a2 : (1 : Int) ≤ a2.toInt := Int.le_trans zq1 h14.1
    have u14k0_a2 : a2.toInt ≤ (60 : Int) := Int.le_trans h14.2 zq46
    refine va_calli (va_runV (As := [.int 0, .int 1]) (rest := []) ⟨hx, hb, hml, hown, hts⟩ (c_X8_whyB l dC dI H.size a0 0 1 (Value.int v1na0_0) a0g_1 a0g_2 a0g_3 a0g_4 a0g_5 a0g_6 a0g_7 a0g_8 a0g_9 a0g_10 (Value.int v1na0_11) a0g_12 a0g_13 (Value.int a0_14) a0g_15 a0g_16 a0g_17 a0g_18 a0g_19 a0g_20 a0g_21 a0g_22 a0g_23 a0g_24 a0g_25 a0g_26 a0g_27 a0g_28 a0g_29 a0g_30 a0g_31 a0g_32 a0g_33 a0g_34 a0g_35 a0g_36 a0g_37 a0g_38 a0g_39 zq5 (Int.le_trans zq6 zq4) (Int.le_trans zq4 zq1) zq0) (cwV 2 hts gX8_patrol_X8_why rfl rfl rfl zd_X8_why ⟨Nat.le_of_ble_eq_true rfl, Nat.le_of_ble_eq_true rfl⟩) ⟨ax_blind (fun _ _ _ _ _ => trivial), zr_8 (zp_K hK) (zp_P1 hP) (q0 := 0) rfl, ax_pre (zp_P1 hP) (zp_K hK) (zp_D1 hD) (fun _ _ => trivial)⟩ rfl rfl hl.1 rfl (lv_room (Nat.le_of_ble_eq_true rfl)) dX8_patrol_17 ⟨Nat.le_of_ble_eq_true rfl, Nat.le_of_ble_eq_true rfl⟩) hS (fun q _ h => zp_F1 hD hS hA q h) (zp_F1 hD hS hA) (fun r17 u t H locs ht hvm hw hB hz1 hk1 hS1 => zo1 hB ht hP hD hk1 (zp_F1 hD hS hA) hS1 (fun hP hK1 hD hS => ?_))
    rcases hw with hw | hw | hw
    · obtain ⟨hw, h17_0, h17_1, h17_2, h17_3⟩ := hw
      subst hw
      exact absurd h17_0 (by decide)
    · obtain ⟨hw, h17_0, h17_1⟩ := hw
      subst hw
      refine lv_istore_n (lv' := [(3, .int 1), (0, .ref a0), (1, .int a1), (2, .int a2)]) hx hb dX8_patrol_20 rfl hl (by decide) rfl (fun ls hl => ?_)
      refine lv_iload_n hx hb dX8_patrol_21 rfl (lv_at hl 0 rfl) ?_
      refine lv_if_eq (tgt := 31) hx hb dX8_patrol_22 (by decide) (fun c22 => absurd c22 (by decide +kernel)) (fun _ => ?_)
      refine lv_aload_n hx hb dX8_patrol_25 rfl (lv_at hl 1 rfl) ?_
      refine lv_iload_n hx hb dX8_patrol_26 rfl (lv_at hl 0 rfl) ?_
      refine va_calli (va_runV (As := [.int 1]) (rest := []) ⟨hx, hb, hml, hown, hts⟩ (c_X8_no l dC dI H.size a0 1 (Value.int v1na0_0) a0g_1 a0g_2 a0g_3 a0g_4 a0g_5 a0g_6 a0g_7 a0g_8 a0g_9 a0g_10 a0g_12 a0g_13 (Value.int a0_14) a0g_15 a0g_16 a0g_17 a0g_18 a0g_19 a0g_20 a0g_21 a0g_22 a0g_23 a0g_24 a0g_25 a0g_26 a0g_27 a0g_28 a0g_29 a0g_30 a0g_31 a0g_32 a0g_33 a0g_34 a0g_35 a0g_36 a0g_37 a0g_38 a0g_39 v1na0_11 ) (cwV 1 hts gX8_patrol_X8_no rfl rfl rfl zd_X8_no ⟨Nat.le_of_ble_eq_true rfl, Nat.le_of_ble_eq_true rfl⟩) ⟨ax_blind (fun _ _ _ _ _ => trivial), zr_8 (zp_K hK) (zp_P1 hP) (q0 := 0) rfl, ax_pre (zp_P1 hP) (zp_K hK) (zp_D1 hD) (fun _ _ => trivial)⟩ rfl rfl hl.1 rfl (lv_room (Nat.le_of_ble_eq_true rfl)) dX8_patrol_27 ⟨Nat.le_of_ble_eq_true rfl, Nat.le_of_ble_eq_true rfl⟩) hS (fun q _ h => zp_F1 hD hS hA q h) (zp_F1 hD hS hA) (fun r27 u t H locs ht hvm hw => zx_1 (fun v27na0_11 hB hz1 hk1 hS1 => zo1 hB ht hP hD hk1 (zp_F1 hD hS hA) hS1 (fun hP hK1 hD hS => ?_)))
      have hw : r27 = (-1) := hw
      have hw := hw.symm
      subst hw
      exact W.iret (v := (-1)) hx hb hr (fun t ht hW => ⟨⟨(-1), (), rfl, rfl, v1na0_0, v27na0_11, by rw [ht]; exact hP, va_K.moved hW.alike hK, hD⟩, hS.F ht⟩) hS.2.2 dX8_patrol_30
    · obtain ⟨hw, h17_0, h17_1, h17_2, h17_3⟩ := hw
      subst hw
      exact absurd h17_0 (by decide)
  · obtain ⟨hw, h14⟩ := hw
    subst hw
    refine va_calli (va_runV (As := [.int 0, .int 0]) (rest := []) ⟨hx, hb, hml, hown, hts⟩ (c_X8_whyB l dC dI H.size a0 0 0 (Value.int v1na0_0) a0g_1 a0g_2 a0g_3 a0g_4 a0g_5 a0g_6 a0g_7 a0g_8 a0g_9 a0g_10 (Value.int v1na0_11) a0g_12 a0g_13 (Value.int a0_14) a0g_15 a0g_16 a0g_17 a0g_18 a0g_19 a0g_20 a0g_21 a0g_22 a0g_23 a0g_24 a0g_25 a0g_26 a0g_27 a0g_28 a0g_29 a0g_30 a0g_31 a0g_32 a0g_33 a0g_34 a0g_35 a0g_36 a0g_37 a0g_38 a0g_39 zq5 (Int.le_trans zq6 zq4) zq5 (Int.le_trans zq6 zq4)) (cwV 2 hts gX8_patrol_X8_why rfl rfl rfl zd_X8_why ⟨Nat.le_of_ble_eq_true rfl, Nat.le_of_ble_eq_true rfl⟩) ⟨ax_blind (fun _ _ _ _ _ => trivial), zr_8 (zp_K hK) (zp_P1 hP) (q0 := 0) rfl, ax_pre (zp_P1 hP) (zp_K hK) (zp_D1 hD) (fun _ _ => trivial)⟩ rfl rfl hl.1 rfl (lv_room (Nat.le_of_ble_eq_true rfl)) dX8_patrol_17 ⟨Nat.le_of_ble_eq_true rfl, Nat.le_of_ble_eq_true rfl⟩) hS (fun q _ h => zp_F1 hD hS hA q h) (zp_F1 hD hS hA) (fun r17 u t H locs ht hvm hw hB hz1 hk1 hS1 => zo1 hB ht hP hD hk1 (zp_F1 hD hS hA) hS1 (fun hP hK1 hD hS => ?_))
    rcases hw with hw | hw | hw
    · obtain ⟨hw, h17_0, h17_1, h17_2, h17_3⟩ := hw
      subst hw
      exact absurd h17_0 (by decide)
    · obtain ⟨hw, h17_0, h17_1⟩ := hw
      subst hw
      refine lv_istore_n (lv' := [(3, .int 1), (0, .ref a0), (1, .int a1), (2, .int a2)]) hx hb dX8_patrol_20 rfl hl (by decide) rfl (fun ls hl => ?_)
      refine lv_iload_n hx hb dX8_patrol_21 rfl (lv_at hl 0 rfl) ?_
      refine lv_if_eq (tgt := 31) hx hb dX8_patrol_22 (by decide) (fun c22 => absurd c22 (by decide +kernel)) (fun _ => ?_)
      refine lv_aload_n hx hb dX8_patrol_25 rfl (lv_at hl 1 rfl) ?_
      refine lv_iload_n hx hb dX8_patrol_26 rfl (lv_at hl 0 rfl) ?_
      refine va_calli (va_runV (As := [.int 1]) (rest := []) ⟨hx, hb, hml, hown, hts⟩ (c_X8_no l dC dI H.size a0 1 (Value.int v1na0_0) a0g_1 a0g_2 a0g_3 a0g_4 a0g_5 a0g_6 a0g_7 a0g_8 a0g_9 a0g_10 a0g_12 a0g_13 (Value.int a0_14) a0g_15 a0g_16 a0g_17 a0g_18 a0g_19 a0g_20 a0g_21 a0g_22 a0g_23 a0g_24 a0g_25 a0g_26 a0g_27 a0g_28 a0g_29 a0g_30 a0g_31 a0g_32 a0g_33 a0g_34 a0g_35 a0g_36 a0g_37 a0g_38 a0g_39 v1na0_11 ) (cwV 1 hts gX8_patrol_X8_no rfl rfl rfl zd_X8_no ⟨Nat.le_of_ble_eq_true rfl, Nat.le_of_ble_eq_true rfl⟩) ⟨ax_blind (fun _ _ _ _ _ => trivial), zr_8 (zp_K hK) (zp_P1 hP) (q0 := 0) rfl, ax_pre (zp_P1 hP) (zp_K hK) (zp_D1 hD) (fun _ _ => trivial)⟩ rfl rfl hl.1 rfl (lv_room (Nat.le_of_ble_eq_true rfl)) dX8_patrol_27 ⟨Nat.le_of_ble_eq_true rfl, Nat.le_of_ble_eq_true rfl⟩) hS (fun q _ h => zp_F1 hD hS hA q h) (zp_F1 hD hS hA) (fun r27 u t H locs ht hvm hw => zx_1 (fun v27na0_11 hB hz1 hk1 hS1 => zo1 hB ht hP hD hk1 (zp_F1 hD hS hA) hS1 (fun hP hK1 hD hS => ?_)))
      have hw : r27 = (-1) := hw
      have hw := hw.symm
      subst hw
      exact W.iret (v := (-1)) hx hb hr (fun t ht hW => ⟨⟨(-1), (), rfl, rfl, v1na0_0, v27na0_11, by rw [ht]; exact hP, va_K.moved hW.alike hK, hD⟩, hS.F ht⟩) hS.2.2 dX8_patrol_30
    · obtain ⟨hw, h17_0, h17_1, h17_2, h17_3⟩ := hw
      subst hw
      exact absurd h17_0 (by decide)

set_option maxHeartbeats 4000000 in
set_option maxRecDepth 100000 in
theorem c0_X8_odds (l : Launch) (dC : Nat → ClassId) (dI : Nat → Nat → Nat) (sz : Nat) (a0 : Nat) (a1 : Int32) (a2 : Int32) (a3 : Int32) (a0_0 : Int32) (a0g_1 a0g_2 a0g_3 a0g_4 a0g_5 a0g_6 a0g_7 a0g_8 a0g_9 a0g_10 a0g_12 a0g_13 a0g_15 a0g_16 a0g_17 a0g_18 a0g_19 a0g_20 a0g_21 a0g_22 a0g_23 a0g_24 a0g_25 a0g_26 a0g_27 a0g_28 a0g_29 a0g_30 a0g_31 a0g_32 a0g_33 a0g_34 a0g_35 a0g_36 a0g_37 a0g_38 a0g_39 : Value) (a0_11 : Int32) (a0_14 : Int32) (ba0_14_l : (0 : Int) ≤ a0_14.toInt) (ba0_14_u : a0_14.toInt ≤ (0 : Int)) : zm l yX8_odds wsX8_odds ({ frames := 1, cells := 0, slots := 0, locals := 22 }) [.ref a0, .int a1, .int a2, .int a3] dC dI sz [(a0, .inr (8, [Value.int a0_0, a0g_1, a0g_2, a0g_3, a0g_4, a0g_5, a0g_6, a0g_7, a0g_8, a0g_9, a0g_10, Value.int a0_11, a0g_12, a0g_13, Value.int a0_14, a0g_15, a0g_16, a0g_17, a0g_18, a0g_19, a0g_20, a0g_21, a0g_22, a0g_23, a0g_24, a0g_25, a0g_26, a0g_27, a0g_28, a0g_29, a0g_30, a0g_31, a0g_32, a0g_33, a0g_34, a0g_35, a0g_36, a0g_37, a0g_38, a0g_39]))] [] (fun A _ => True) (fun A => va_Ql (fun (r : Int64) (_ : Unit) => True) (fun (_ : Unit) (t : State) => ∃ na0_0 : Int32, ∃ na0_11 : Int32, ax_B dC dI A [(a0, .inr (8, [Value.int na0_0, a0g_1, a0g_2, a0g_3, a0g_4, a0g_5, a0g_6, a0g_7, a0g_8, a0g_9, a0g_10, Value.int na0_11, a0g_12, a0g_13, Value.int a0_14, a0g_15, a0g_16, a0g_17, a0g_18, a0g_19, a0g_20, a0g_21, a0g_22, a0g_23, a0g_24, a0g_25, a0g_26, a0g_27, a0g_28, a0g_29, a0g_30, a0g_31, a0g_32, a0g_33, a0g_34, a0g_35, a0g_36, a0g_37, a0g_38, a0g_39]))] [] t) A) := by
  refine zh (cc := cX8_odds) (maxL := 11) (ret := (some .long)) zn_RX8 rfl (Nat.le_of_ble_eq_true rfl) (fun p e s m below meth c A ls hx hb hml hr hts (hown : s.vm.findClass RX8 = some m.cls) hlocks hA hS hP hK hD hE (hl : lv_has ls 11 [(0, .ref a0), (1, .int a1), (2, .int a2), (3, .int a3)]) => ?_)
  refine ai_open (fun K hK0 => ?_)
  refine (hK0 _ _ _).mpr ?_
  refine lv_aload_n hx hb dX8_odds_0 rfl (lv_at hl 0 rfl) ?_
  refine va_callv (va_runV (As := []) (rest := []) ⟨hx, hb, hml, hown, hts⟩ (c_X8_good l dC dI s.heap.size a0 a0_0 a0g_1 a0g_2 a0g_3 a0g_4 a0g_5 a0g_6 a0g_7 a0g_8 a0g_9 a0g_10 a0g_12 a0g_13 (Value.int a0_14) a0g_15 a0g_16 a0g_17 a0g_18 a0g_19 a0g_20 a0g_21 a0g_22 a0g_23 a0g_24 a0g_25 a0g_26 a0g_27 a0g_28 a0g_29 a0g_30 a0g_31 a0g_32 a0g_33 a0g_34 a0g_35 a0g_36 a0g_37 a0g_38 a0g_39 a0_11 ) (cwV 0 hts gX8_odds_X8_good rfl rfl rfl zd_X8_good ⟨Nat.le_of_ble_eq_true rfl, Nat.le_of_ble_eq_true rfl⟩) ⟨ax_blind (fun _ _ _ _ _ => trivial), zr_8 (zp_K hK) (zp_P1 hP) (q0 := 0) rfl, ax_pre (zp_P1 hP) (zp_K hK) (zp_D1 hD) (fun _ _ => trivial)⟩ rfl rfl hl.1 rfl (lv_room (Nat.le_of_ble_eq_true rfl)) dX8_odds_1 ⟨Nat.le_of_ble_eq_true rfl, Nat.le_of_ble_eq_true rfl⟩) hS (fun q _ h => zp_F1 hD hS hA q h) (zp_F1 hD hS hA) (fun u t H locs ht hvm hw => zx_2 (fun v1na0_0 v1na0_11 hB hz1 hk1 hS1 => zo1 hB ht hP hD hk1 (zp_F1 hD hS hA) hS1 (fun hP hK1 hD hS => ?_)))
  refine lv_aload_n hx hb dX8_odds_4 rfl (lv_at hl 0 rfl) ?_
  refine lv_aload_n hx hb dX8_odds_5 rfl (lv_at hl 0 rfl) ?_
  refine lv_iload_n hx hb dX8_odds_6 rfl (lv_at hl 1 rfl) ?_
  refine va_calli (va_runV (As := [.int a1]) (rest := [.ref a0]) ⟨hx, hb, hml, hown, hts⟩ (c0_X8_isFigure l dC dI H.size a0 a1 (Value.int v1na0_0) a0g_1 a0g_2 a0g_3 a0g_4 a0g_5 a0g_6 a0g_7 a0g_8 a0g_9 a0g_10 (Value.int v1na0_11) a0g_12 a0g_13 a0g_15 a0g_16 a0g_17 a0g_18 a0g_19 a0g_20 a0g_21 a0g_22 a0g_23 a0g_24 a0g_25 a0g_26 a0g_27 a0g_28 a0g_29 a0g_30 a0g_31 a0g_32 a0g_33 a0g_34 a0g_35 a0g_36 a0g_37 a0g_38 a0g_39 a0_14 ba0_14_l ba0_14_u) (cwV 1 hts gX8_odds_X8_isFigure rfl rfl rfl zd_X8_isFigure ⟨Nat.le_of_ble_eq_true rfl, Nat.le_of_ble_eq_true rfl⟩) ⟨ax_blind (fun _ _ _ _ _ => trivial), zr_8 (zp_K hK) (zp_P1 hP) (q0 := 0) rfl, ax_pre (zp_P1 hP) (zp_K hK) (zp_D1 hD) (fun _ _ => trivial)⟩ rfl rfl hl.1 rfl (lv_room (Nat.le_of_ble_eq_true rfl)) dX8_odds_7 ⟨Nat.le_of_ble_eq_true rfl, Nat.le_of_ble_eq_true rfl⟩) hS (fun q _ h => zp_F1 hD hS hA q h) (zp_F1 hD hS hA) (fun r7 u t H locs ht hvm hw hB hz1 hk1 hS1 => zo1 hB ht hP hD hk1 (zp_F1 hD hS hA) hS1 (fun hP hK1 hD hS => ?_))
  have hw : r7 = 0 := hw
  have hw := hw.symm
  subst hw
  refine lv_iload_n hx hb dX8_odds_10 rfl (lv_at hl 2 rfl) ?_
  refine lv_iconst (v := 0) hx hb dX8_odds_11 zk_iconst_0 ?_
  refine lv_bipush (v := 8) hx hb dX8_odds_12 zk_bipush_8 ?_
  refine va_calli (va_runS (As := [.int a2, .int 0, .int 8]) (rest := [.int 0, .ref a0]) ⟨hx, hb, hml, hown, hts⟩ (c_X8_in l dC dI H.size a2 0 8 ) (va_cwS 3 hts gX8_odds_X8_in rfl rfl rfl zd_X8_in.2 ⟨Nat.le_of_ble_eq_true rfl, Nat.le_of_ble_eq_true rfl⟩) ⟨ax_blind (fun _ _ _ _ _ => trivial), ax_pre (zp_P0 hP) (zp_K hK) (zp_D0 hD) (fun _ _ => trivial)⟩ rfl rfl hl.1 rfl (lv_room (Nat.le_of_ble_eq_true rfl)) dX8_odds_14 ⟨Nat.le_of_ble_eq_true rfl, Nat.le_of_ble_eq_true rfl⟩) hS (fun q _ h => zp_F0 hD hS hA q h) (zp_F0 hD hS hA) (fun r14 u t H locs ht hvm hw hB hz1 hk1 hS1 => zo0 hB ht hP hD hk1 (zp_F0 hD hS hA) hS1 (fun hP hK1 hD hS => ?_))
  rcases hw with hw | hw
  · obtain ⟨hw, h14⟩ := hw
    subst hw
    have l14k0_a2 : (0 : Int) ≤ a2.toInt := Int.le_trans zq5 h14.1
    have u14k0_a2 : a2.toInt ≤ (8 : Int) := Int.le_trans h14.2 zq28
    refine va_calli (va_runV (As := [.int 0, .int 1]) (rest := []) ⟨hx, hb, hml, hown, hts⟩ (c_X8_whyB l dC dI H.size a0 0 1 (Value.int v1na0_0) a0g_1 a0g_2 a0g_3 a0g_4 a0g_5 a0g_6 a0g_7 a0g_8 a0g_9 a0g_10 (Value.int v1na0_11) a0g_12 a0g_13 (Value.int a0_14) a0g_15 a0g_16 a0g_17 a0g_18 a0g_19 a0g_20 a0g_21 a0g_22 a0g_23 a0g_24 a0g_25 a0g_26 a0g_27 a0g_28 a0g_29 a0g_30 a0g_31 a0g_32 a0g_33 a0g_34 a0g_35 a0g_36 a0g_37 a0g_38 a0g_39 zq5 (Int.le_trans zq6 zq4) (Int.le_trans zq4 zq1) zq0) (cwV 2 hts gX8_odds_X8_why rfl rfl rfl zd_X8_why ⟨Nat.le_of_ble_eq_true rfl, Nat.le_of_ble_eq_true rfl⟩) ⟨ax_blind (fun _ _ _ _ _ => trivial), zr_8 (zp_K hK) (zp_P1 hP) (q0 := 0) rfl, ax_pre (zp_P1 hP) (zp_K hK) (zp_D1 hD) (fun _ _ => trivial)⟩ rfl rfl hl.1 rfl (lv_room (Nat.le_of_ble_eq_true rfl)) dX8_odds_17 ⟨Nat.le_of_ble_eq_true rfl, Nat.le_of_ble_eq_true rfl⟩) hS (fun q _ h => zp_F1 hD hS hA q h) (zp_F1 hD hS hA) (fun r17 u t H locs ht hvm hw hB hz1 hk1 hS1 => zo1 hB ht hP hD hk1 (zp_F1 hD hS hA) hS1 (fun hP hK1 hD hS => ?_))
    rcases hw with hw | hw | hw
    · obtain ⟨hw, h17_0, h17_1, h17_2, h17_3⟩ := hw
      subst hw
      exact absurd h17_0 (by decide)
    · obtain ⟨hw, h17_0, h17_1⟩ := hw
      subst hw
      refine lv_istore (lv' := [(4, .int 1), (0, .ref a0), (1, .int a1), (2, .int a2), (3, .int a3)]) hx hb dX8_odds_20 hl (by decide) rfl (fun ls hl => ?_)
      refine lv_iload hx hb dX8_odds_22 (lv_at hl 0 rfl) ?_
      refine lv_if_eq (tgt := 35) hx hb dX8_odds_24 (by decide) (fun c24 => absurd c24 (by decide +kernel)) (fun _ => ?_)
      refine lv_aload_n hx hb dX8_odds_27 rfl (lv_at hl 1 rfl) ?_
      refine lv_iload hx hb dX8_odds_28 (lv_at hl 0 rfl) ?_
      refine va_calli (va_runV (As := [.int 1]) (rest := []) ⟨hx, hb, hml, hown, hts⟩ (c_X8_no l dC dI H.size a0 1 (Value.int v1na0_0) a0g_1 a0g_2 a0g_3 a0g_4 a0g_5 a0g_6 a0g_7 a0g_8 a0g_9 a0g_10 a0g_12 a0g_13 (Value.int a0_14) a0g_15 a0g_16 a0g_17 a0g_18 a0g_19 a0g_20 a0g_21 a0g_22 a0g_23 a0g_24 a0g_25 a0g_26 a0g_27 a0g_28 a0g_29 a0g_30 a0g_31 a0g_32 a0g_33 a0g_34 a0g_35 a0g_36 a0g_37 a0g_38 a0g_39 v1na0_11 ) (cwV 1 hts gX8_odds_X8_no rfl rfl rfl zd_X8_no ⟨Nat.le_of_ble_eq_true rfl, Nat.le_of_ble_eq_true rfl⟩) ⟨ax_blind (fun _ _ _ _ _ => trivial), zr_8 (zp_K hK) (zp_P1 hP) (q0 := 0) rfl, ax_pre (zp_P1 hP) (zp_K hK) (zp_D1 hD) (fun _ _ => trivial)⟩ rfl rfl hl.1 rfl (lv_room (Nat.le_of_ble_eq_true rfl)) dX8_odds_30 ⟨Nat.le_of_ble_eq_true rfl, Nat.le_of_ble_eq_true rfl⟩) hS (fun q _ h => zp_F1 hD hS hA q h) (zp_F1 hD hS hA) (fun r30 u t H locs ht hvm hw => zx_1 (fun v30na0_11 hB hz1 hk1 hS1 => zo1 hB ht hP hD hk1 (zp_F1 hD hS hA) hS1 (fun hP hK1 hD hS => ?_)))
      have hw : r30 = (-1) := hw
      have hw := hw.symm
      subst hw
      obtain ⟨x33, ex33⟩ : ∃ y : Int64, y = ((-1) : Int32).toInt64 := ⟨_, rfl⟩
      refine lv_i2l (v := x33) hx hb dX8_odds_33 ex33.symm ?_
      exact W.lret (v := x33) hx hb hr (fun t ht hW => ⟨⟨x33, (), rfl, trivial, v1na0_0, v30na0_11, by rw [ht]; exact hP, va_K.moved hW.alike hK, hD⟩, hS.F ht⟩) hS.2.2 dX8_odds_34
    · obtain ⟨hw, h17_0, h17_1, h17_2, h17_3⟩ := hw
      subst hw
      exact absurd h17_0 (by decide)
  · obtain ⟨hw, h14⟩ := hw
    subst hw
    refine va_calli (va_runV (As := [.int 0, .int 0]) (rest := []) ⟨hx, hb, hml, hown, hts⟩ (c_X8_whyB l dC dI H.size a0 0 0 (Value.int v1na0_0) a0g_1 a0g_2 a0g_3 a0g_4 a0g_5 a0g_6 a0g_7 a0g_8 a0g_9 a0g_10 (Value.int v1na0_11) a0g_12 a0g_13 (Value.int a0_14) a0g_15 a0g_16 a0g_17 a0g_18 a0g_19 a0g_20 a0g_21 a0g_22 a0g_23 a0g_24 a0g_25 a0g_26 a0g_27 a0g_28 a0g_29 a0g_30 a0g_31 a0g_32 a0g_33 a0g_34 a0g_35 a0g_36 a0g_37 a0g_38 a0g_39 zq5 (Int.le_trans zq6 zq4) zq5 (Int.le_trans zq6 zq4)) (cwV 2 hts gX8_odds_X8_why rfl rfl rfl zd_X8_why ⟨Nat.le_of_ble_eq_true rfl, Nat.le_of_ble_eq_true rfl⟩) ⟨ax_blind (fun _ _ _ _ _ => trivial), zr_8 (zp_K hK) (zp_P1 hP) (q0 := 0) rfl, ax_pre (zp_P1 hP) (zp_K hK) (zp_D1 hD) (fun _ _ => trivial)⟩ rfl rfl hl.1 rfl (lv_room (Nat.le_of_ble_eq_true rfl)) dX8_odds_17 ⟨Nat.le_of_ble_eq_true rfl, Nat.le_of_ble_eq_true rfl⟩) hS (fun q _ h => zp_F1 hD hS hA q h) (zp_F1 hD hS hA) (fun r17 u t H locs ht hvm hw hB hz1 hk1 hS1 => zo1 hB ht hP hD hk1 (zp_F1 hD hS hA) hS1 (fun hP hK1 hD hS => ?_))
    rcases hw with hw | hw | hw
    · obtain ⟨hw, h17_0, h17_1, h17_2, h17_3⟩ := hw
      subst hw
      exact absurd h17_0 (by decide)
    · obtain ⟨hw, h17_0, h17_1⟩ := hw
      subst hw
      refine lv_istore (lv' := [(4, .int 1), (0, .ref a0), (1, .int a1), (2, .int a2), (3, .int a3)]) hx hb dX8_odds_20 hl (by decide) rfl (fun ls hl => ?_)
      refine lv_iload hx hb dX8_odds_22 (lv_at hl 0 rfl) ?_
      refine lv_if_eq (tgt := 35) hx hb dX8_odds_24 (by decide) (fun c24 => absurd c24 (by decide +kernel)) (fun _ => ?_)
      refine lv_aload_n hx hb dX8_odds_27 rfl (lv_at hl 1 rfl) ?_
      refine lv_iload hx hb dX8_odds_28 (lv_at hl 0 rfl) ?_
      refine va_calli (va_runV (As := [.int 1]) (rest := []) ⟨hx, hb, hml, hown, hts⟩ (c_X8_no l dC dI H.size a0 1 (Value.int v1na0_0) a0g_1 a0g_2 a0g_3 a0g_4 a0g_5 a0g_6 a0g_7 a0g_8 a0g_9 a0g_10 a0g_12 a0g_13 (Value.int a0_14) a0g_15 a0g_16 a0g_17 a0g_18 a0g_19 a0g_20 a0g_21 a0g_22 a0g_23 a0g_24 a0g_25 a0g_26 a0g_27 a0g_28 a0g_29 a0g_30 a0g_31 a0g_32 a0g_33 a0g_34 a0g_35 a0g_36 a0g_37 a0g_38 a0g_39 v1na0_11 ) (cwV 1 hts gX8_odds_X8_no rfl rfl rfl zd_X8_no ⟨Nat.le_of_ble_eq_true rfl, Nat.le_of_ble_eq_true rfl⟩) ⟨ax_blind (fun _ _ _ _ _ => trivial), zr_8 (zp_K hK) (zp_P1 hP) (q0 := 0) rfl, ax_pre (zp_P1 hP) (zp_K hK) (zp_D1 hD) (fun _ _ => trivial)⟩ rfl rfl hl.1 rfl (lv_room (Nat.le_of_ble_eq_true rfl)) dX8_odds_30 ⟨Nat.le_of_ble_eq_true rfl, Nat.le_of_ble_eq_true rfl⟩) hS (fun q _ h => zp_F1 hD hS hA q h) (zp_F1 hD hS hA) (fun r30 u t H locs ht hvm hw => zx_1 (fun v30na0_11 hB hz1 hk1 hS1 => zo1 hB ht hP hD hk1 (zp_F1 hD hS hA) hS1 (fun hP hK1 hD hS => ?_)))
      have hw : r30 = (-1) := hw
      have hw := hw.symm
      subst hw
      obtain ⟨x33, ex33⟩ : ∃ y : Int64, y = ((-1) : Int32).toInt64 := ⟨_, rfl⟩
      refine lv_i2l (v := x33) hx hb dX8_odds_33 ex33.symm ?_
      exact W.lret (v := x33) hx hb hr (fun t ht hW => ⟨⟨x33, (), rfl, trivial, v1na0_0, v30na0_11, by rw [ht]; exact hP, va_K.moved hW.alike hK, hD⟩, hS.F ht⟩) hS.2.2 dX8_odds_34
    · obtain ⟨hw, h17_0, h17_1, h17_2, h17_3⟩ := hw
      subst hw
      exact absurd h17_0 (by decide)

set_option maxHeartbeats 4000000 in
set_option maxRecDepth 100000 in
theorem c0_X8_mean (l : Launch) (dC : Nat → ClassId) (dI : Nat → Nat → Nat) (sz : Nat) (a0 : Nat) (a1 : Int32) (a2 : Int32) (a3 : Int32) (a0_0 : Int32) (a0g_1 a0g_2 a0g_3 a0g_4 a0g_5 a0g_6 a0g_7 a0g_8 a0g_9 a0g_10 a0g_12 a0g_13 a0g_15 a0g_16 a0g_17 a0g_18 a0g_19 a0g_20 a0g_21 a0g_22 a0g_23 a0g_24 a0g_25 a0g_26 a0g_27 a0g_28 a0g_29 a0g_30 a0g_31 a0g_32 a0g_33 a0g_34 a0g_35 a0g_36 a0g_37 a0g_38 a0g_39 : Value) (a0_11 : Int32) (a0_14 : Int32) (ba0_14_l : (0 : Int) ≤ a0_14.toInt) (ba0_14_u : a0_14.toInt ≤ (0 : Int)) : zm l yX8_mean wsX8_mean ({ frames := 1, cells := 0, slots := 0, locals := 22 }) [.ref a0, .int a1, .int a2, .int a3] dC dI sz [(a0, .inr (8, [Value.int a0_0, a0g_1, a0g_2, a0g_3, a0g_4, a0g_5, a0g_6, a0g_7, a0g_8, a0g_9, a0g_10, Value.int a0_11, a0g_12, a0g_13, Value.int a0_14, a0g_15, a0g_16, a0g_17, a0g_18, a0g_19, a0g_20, a0g_21, a0g_22, a0g_23, a0g_24, a0g_25, a0g_26, a0g_27, a0g_28, a0g_29, a0g_30, a0g_31, a0g_32, a0g_33, a0g_34, a0g_35, a0g_36, a0g_37, a0g_38, a0g_39]))] [] (fun A _ => True) (fun A => va_Ql (fun (r : Int64) (_ : Unit) => True) (fun (_ : Unit) (t : State) => ∃ na0_0 : Int32, ∃ na0_11 : Int32, ax_B dC dI A [(a0, .inr (8, [Value.int na0_0, a0g_1, a0g_2, a0g_3, a0g_4, a0g_5, a0g_6, a0g_7, a0g_8, a0g_9, a0g_10, Value.int na0_11, a0g_12, a0g_13, Value.int a0_14, a0g_15, a0g_16, a0g_17, a0g_18, a0g_19, a0g_20, a0g_21, a0g_22, a0g_23, a0g_24, a0g_25, a0g_26, a0g_27, a0g_28, a0g_29, a0g_30, a0g_31, a0g_32, a0g_33, a0g_34, a0g_35, a0g_36, a0g_37, a0g_38, a0g_39]))] [] t) A) := by
  refine zh (cc := cX8_mean) (maxL := 5) (ret := (some .long)) zn_RX8 rfl (Nat.le_of_ble_eq_true rfl) (fun p e s m below meth c A ls hx hb hml hr hts (hown : s.vm.findClass RX8 = some m.cls) hlocks hA hS hP hK hD hE (hl : lv_has ls 5 [(0, .ref a0), (1, .int a1), (2, .int a2), (3, .int a3)]) => ?_)
  refine lv_aload_n hx hb dX8_mean_0 rfl (lv_at hl 0 rfl) ?_
  refine va_callv (va_runV (As := []) (rest := []) ⟨hx, hb, hml, hown, hts⟩ (c_X8_good l dC dI s.heap.size a0 a0_0 a0g_1 a0g_2 a0g_3 a0g_4 a0g_5 a0g_6 a0g_7 a0g_8 a0g_9 a0g_10 a0g_12 a0g_13 (Value.int a0_14) a0g_15 a0g_16 a0g_17 a0g_18 a0g_19 a0g_20 a0g_21 a0g_22 a0g_23 a0g_24 a0g_25 a0g_26 a0g_27 a0g_28 a0g_29 a0g_30 a0g_31 a0g_32 a0g_33 a0g_34 a0g_35 a0g_36 a0g_37 a0g_38 a0g_39 a0_11 ) (cwV 0 hts gX8_mean_X8_good rfl rfl rfl zd_X8_good ⟨Nat.le_of_ble_eq_true rfl, Nat.le_of_ble_eq_true rfl⟩) ⟨ax_blind (fun _ _ _ _ _ => trivial), zr_8 (zp_K hK) (zp_P1 hP) (q0 := 0) rfl, ax_pre (zp_P1 hP) (zp_K hK) (zp_D1 hD) (fun _ _ => trivial)⟩ rfl rfl hl.1 rfl (lv_room (Nat.le_of_ble_eq_true rfl)) dX8_mean_1 ⟨Nat.le_of_ble_eq_true rfl, Nat.le_of_ble_eq_true rfl⟩) hS (fun q _ h => zp_F1 hD hS hA q h) (zp_F1 hD hS hA) (fun u t H locs ht hvm hw => zx_2 (fun v1na0_0 v1na0_11 hB hz1 hk1 hS1 => zo1 hB ht hP hD hk1 (zp_F1 hD hS hA) hS1 (fun hP hK1 hD hS => ?_)))
  refine lv_aload_n hx hb dX8_mean_4 rfl (lv_at hl 0 rfl) ?_
  refine lv_aload_n hx hb dX8_mean_5 rfl (lv_at hl 0 rfl) ?_
  refine lv_iload_n hx hb dX8_mean_6 rfl (lv_at hl 1 rfl) ?_
  refine va_calli (va_runV (As := [.int a1]) (rest := [.ref a0]) ⟨hx, hb, hml, hown, hts⟩ (c0_X8_isFigure l dC dI H.size a0 a1 (Value.int v1na0_0) a0g_1 a0g_2 a0g_3 a0g_4 a0g_5 a0g_6 a0g_7 a0g_8 a0g_9 a0g_10 (Value.int v1na0_11) a0g_12 a0g_13 a0g_15 a0g_16 a0g_17 a0g_18 a0g_19 a0g_20 a0g_21 a0g_22 a0g_23 a0g_24 a0g_25 a0g_26 a0g_27 a0g_28 a0g_29 a0g_30 a0g_31 a0g_32 a0g_33 a0g_34 a0g_35 a0g_36 a0g_37 a0g_38 a0g_39 a0_14 ba0_14_l ba0_14_u) (cwV 1 hts gX8_mean_X8_isFigure rfl rfl rfl zd_X8_isFigure ⟨Nat.le_of_ble_eq_true rfl, Nat.le_of_ble_eq_true rfl⟩) ⟨ax_blind (fun _ _ _ _ _ => trivial), zr_8 (zp_K hK) (zp_P1 hP) (q0 := 0) rfl, ax_pre (zp_P1 hP) (zp_K hK) (zp_D1 hD) (fun _ _ => trivial)⟩ rfl rfl hl.1 rfl (lv_room (Nat.le_of_ble_eq_true rfl)) dX8_mean_7 ⟨Nat.le_of_ble_eq_true rfl, Nat.le_of_ble_eq_true rfl⟩) hS (fun q _ h => zp_F1 hD hS hA q h) (zp_F1 hD hS hA) (fun r7 u t H locs ht hvm hw hB hz1 hk1 hS1 => zo1 hB ht hP hD hk1 (zp_F1 hD hS hA) hS1 (fun hP hK1 hD hS => ?_))
  have hw : r7 = 0 := hw
  have hw := hw.symm
  subst hw
  refine lv_iload_n hx hb dX8_mean_10 rfl (lv_at hl 2 rfl) ?_
  refine lv_iconst (v := 0) hx hb dX8_mean_11 zk_iconst_0 ?_
  refine lv_bipush (v := 8) hx hb dX8_mean_12 zk_bipush_8 ?_
  refine va_calli (va_runS (As := [.int a2, .int 0, .int 8]) (rest := [.int 0, .ref a0]) ⟨hx, hb, hml, hown, hts⟩ (c_X8_in l dC dI H.size a2 0 8 ) (va_cwS 3 hts gX8_mean_X8_in rfl rfl rfl zd_X8_in.2 ⟨Nat.le_of_ble_eq_true rfl, Nat.le_of_ble_eq_true rfl⟩) ⟨ax_blind (fun _ _ _ _ _ => trivial), ax_pre (zp_P0 hP) (zp_K hK) (zp_D0 hD) (fun _ _ => trivial)⟩ rfl rfl hl.1 rfl (lv_room (Nat.le_of_ble_eq_true rfl)) dX8_mean_14 ⟨Nat.le_of_ble_eq_true rfl, Nat.le_of_ble_eq_true rfl⟩) hS (fun q _ h => zp_F0 hD hS hA q h) (zp_F0 hD hS hA) (fun r14 u t H locs ht hvm hw hB hz1 hk1 hS1 => zo0 hB ht hP hD hk1 (zp_F0 hD hS hA) hS1 (fun hP hK1 hD hS => ?_))
  rcases hw with hw | hw
  · obtain ⟨hw, h14⟩ := hw
    subst hw
    have l14k0_a2 : (0 : Int) ≤ a2.toInt := Int.le_trans zq5 h14.1
    have u14k0_a2 : a2.toInt ≤ (8 : Int) := Int.le_trans h14.2 zq28
    refine va_calli (va_runV (As := [.int 0, .int 1]) (rest := []) ⟨hx, hb, hml, hown, hts⟩ (c_X8_whyB l dC dI H.size a0 0 1 (Value.int v1na0_0) a0g_1 a0g_2 a0g_3 a0g_4 a0g_5 a0g_6 a0g_7 a0g_8 a0g_9 a0g_10 (Value.int v1na0_11) a0g_12 a0g_13 (Value.int a0_14) a0g_15 a0g_16 a0g_17 a0g_18 a0g_19 a0g_20 a0g_21 a0g_22 a0g_23 a0g_24 a0g_25 a0g_26 a0g_27 a0g_28 a0g_29 a0g_30 a0g_31 a0g_32 a0g_33 a0g_34 a0g_35 a0g_36 a0g_37 a0g_38 a0g_39 zq5 (Int.le_trans zq6 zq4) (Int.le_trans zq4 zq1) zq0) (cwV 2 hts gX8_mean_X8_why rfl rfl rfl zd_X8_why ⟨Nat.le_of_ble_eq_true rfl, Nat.le_of_ble_eq_true rfl⟩) ⟨ax_blind (fun _ _ _ _ _ => trivial), zr_8 (zp_K hK) (zp_P1 hP) (q0 := 0) rfl, ax_pre (zp_P1 hP) (zp_K hK) (zp_D1 hD) (fun _ _ => trivial)⟩ rfl rfl hl.1 rfl (lv_room (Nat.le_of_ble_eq_true rfl)) dX8_mean_17 ⟨Nat.le_of_ble_eq_true rfl, Nat.le_of_ble_eq_true rfl⟩) hS (fun q _ h => zp_F1 hD hS hA q h) (zp_F1 hD hS hA) (fun r17 u t H locs ht hvm hw hB hz1 hk1 hS1 => zo1 hB ht hP hD hk1 (zp_F1 hD hS hA) hS1 (fun hP hK1 hD hS => ?_))
    rcases hw with hw | hw | hw
    · obtain ⟨hw, h17_0, h17_1, h17_2, h17_3⟩ := hw
      subst hw
      exact absurd h17_0 (by decide)
    · obtain ⟨hw, h17_0, h17_1⟩ := hw
      subst hw
      refine lv_istore (lv' := [(4, .int 1), (0, .ref a0), (1, .int a1), (2, .int a2), (3, .int a3)]) hx hb dX8_mean_20 hl (by decide) rfl (fun ls hl => ?_)
      refine lv_iload hx hb dX8_mean_22 (lv_at hl 0 rfl) ?_
      refine lv_if_eq (tgt := 35) hx hb dX8_mean_24 (by decide) (fun c24 => absurd c24 (by decide +kernel)) (fun _ => ?_)
      refine lv_aload_n hx hb dX8_mean_27 rfl (lv_at hl 1 rfl) ?_
      refine lv_iload hx hb dX8_mean_28 (lv_at hl 0 rfl) ?_
      refine va_calli (va_runV (As := [.int 1]) (rest := []) ⟨hx, hb, hml, hown, hts⟩ (c_X8_no l dC dI H.size a0 1 (Value.int v1na0_0) a0g_1 a0g_2 a0g_3 a0g_4 a0g_5 a0g_6 a0g_7 a0g_8 a0g_9 a0g_10 a0g_12 a0g_13 (Value.int a0_14) a0g_15 a0g_16 a0g_17 a0g_18 a0g_19 a0g_20 a0g_21 a0g_22 a0g_23 a0g_24 a0g_25 a0g_26 a0g_27 a0g_28 a0g_29 a0g_30 a0g_31 a0g_32 a0g_33 a0g_34 a0g_35 a0g_36 a0g_37 a0g_38 a0g_39 v1na0_11 ) (cwV 1 hts gX8_mean_X8_no rfl rfl rfl zd_X8_no ⟨Nat.le_of_ble_eq_true rfl, Nat.le_of_ble_eq_true rfl⟩) ⟨ax_blind (fun _ _ _ _ _ => trivial), zr_8 (zp_K hK) (zp_P1 hP) (q0 := 0) rfl, ax_pre (zp_P1 hP) (zp_K hK) (zp_D1 hD) (fun _ _ => trivial)⟩ rfl rfl hl.1 rfl (lv_room (Nat.le_of_ble_eq_true rfl)) dX8_mean_30 ⟨Nat.le_of_ble_eq_true rfl, Nat.le_of_ble_eq_true rfl⟩) hS (fun q _ h => zp_F1 hD hS hA q h) (zp_F1 hD hS hA) (fun r30 u t H locs ht hvm hw => zx_1 (fun v30na0_11 hB hz1 hk1 hS1 => zo1 hB ht hP hD hk1 (zp_F1 hD hS hA) hS1 (fun hP hK1 hD hS => ?_)))
      have hw : r30 = (-1) := hw
      have hw := hw.symm
      subst hw
      obtain ⟨x33, ex33⟩ : ∃ y : Int64, y = ((-1) : Int32).toInt64 := ⟨_, rfl⟩
      refine lv_i2l (v := x33) hx hb dX8_mean_33 ex33.symm ?_
      exact W.lret (v := x33) hx hb hr (fun t ht hW => ⟨⟨x33, (), rfl, trivial, v1na0_0, v30na0_11, by rw [ht]; exact hP, va_K.moved hW.alike hK, hD⟩, hS.F ht⟩) hS.2.2 dX8_mean_34
    · obtain ⟨hw, h17_0, h17_1, h17_2, h17_3⟩ := hw
      subst hw
      exact absurd h17_0 (by decide)
  · obtain ⟨hw, h14⟩ := hw
    subst hw
    refine va_calli (va_runV (As := [.int 0, .int 0]) (rest := []) ⟨hx, hb, hml, hown, hts⟩ (c_X8_whyB l dC dI H.size a0 0 0 (Value.int v1na0_0) a0g_1 a0g_2 a0g_3 a0g_4 a0g_5 a0g_6 a0g_7 a0g_8 a0g_9 a0g_10 (Value.int v1na0_11) a0g_12 a0g_13 (Value.int a0_14) a0g_15 a0g_16 a0g_17 a0g_18 a0g_19 a0g_20 a0g_21 a0g_22 a0g_23 a0g_24 a0g_25 a0g_26 a0g_27 a0g_28 a0g_29 a0g_30 a0g_31 a0g_32 a0g_33 a0g_34 a0g_35 a0g_36 a0g_37 a0g_38 a0g_39 zq5 (Int.le_trans zq6 zq4) zq5 (Int.le_trans zq6 zq4)) (cwV 2 hts gX8_mean_X8_why rfl rfl rfl zd_X8_why ⟨Nat.le_of_ble_eq_true rfl, Nat.le_of_ble_eq_true rfl⟩) ⟨ax_blind (fun _ _ _ _ _ => trivial), zr_8 (zp_K hK) (zp_P1 hP) (q0 := 0) rfl, ax_pre (zp_P1 hP) (zp_K hK) (zp_D1 hD) (fun _ _ => trivial)⟩ rfl rfl hl.1 rfl (lv_room (Nat.le_of_ble_eq_true rfl)) dX8_mean_17 ⟨Nat.le_of_ble_eq_true rfl, Nat.le_of_ble_eq_true rfl⟩) hS (fun q _ h => zp_F1 hD hS hA q h) (zp_F1 hD hS hA) (fun r17 u t H locs ht hvm hw hB hz1 hk1 hS1 => zo1 hB ht hP hD hk1 (zp_F1 hD hS hA) hS1 (fun hP hK1 hD hS => ?_))
    rcases hw with hw | hw | hw
    · obtain ⟨hw, h17_0, h17_1, h17_2, h17_3⟩ := hw
      subst hw
      exact absurd h17_0 (by decide)
    · obtain ⟨hw, h17_0, h17_1⟩ := hw
      subst hw
      refine lv_istore (lv' := [(4, .int 1), (0, .ref a0), (1, .int a1), (2, .int a2), (3, .int a3)]) hx hb dX8_mean_20 hl (by decide) rfl (fun ls hl => ?_)
      refine lv_iload hx hb dX8_mean_22 (lv_at hl 0 rfl) ?_
      refine lv_if_eq (tgt := 35) hx hb dX8_mean_24 (by decide) (fun c24 => absurd c24 (by decide +kernel)) (fun _ => ?_)
      refine lv_aload_n hx hb dX8_mean_27 rfl (lv_at hl 1 rfl) ?_
      refine lv_iload hx hb dX8_mean_28 (lv_at hl 0 rfl) ?_
      refine va_calli (va_runV (As := [.int 1]) (rest := []) ⟨hx, hb, hml, hown, hts⟩ (c_X8_no l dC dI H.size a0 1 (Value.int v1na0_0) a0g_1 a0g_2 a0g_3 a0g_4 a0g_5 a0g_6 a0g_7 a0g_8 a0g_9 a0g_10 a0g_12 a0g_13 (Value.int a0_14) a0g_15 a0g_16 a0g_17 a0g_18 a0g_19 a0g_20 a0g_21 a0g_22 a0g_23 a0g_24 a0g_25 a0g_26 a0g_27 a0g_28 a0g_29 a0g_30 a0g_31 a0g_32 a0g_33 a0g_34 a0g_35 a0g_36 a0g_37 a0g_38 a0g_39 v1na0_11 ) (cwV 1 hts gX8_mean_X8_no rfl rfl rfl zd_X8_no ⟨Nat.le_of_ble_eq_true rfl, Nat.le_of_ble_eq_true rfl⟩) ⟨ax_blind (fun _ _ _ _ _ => trivial), zr_8 (zp_K hK) (zp_P1 hP) (q0 := 0) rfl, ax_pre (zp_P1 hP) (zp_K hK) (zp_D1 hD) (fun _ _ => trivial)⟩ rfl rfl hl.1 rfl (lv_room (Nat.le_of_ble_eq_true rfl)) dX8_mean_30 ⟨Nat.le_of_ble_eq_true rfl, Nat.le_of_ble_eq_true rfl⟩) hS (fun q _ h => zp_F1 hD hS hA q h) (zp_F1 hD hS hA) (fun r30 u t H locs ht hvm hw => zx_1 (fun v30na0_11 hB hz1 hk1 hS1 => zo1 hB ht hP hD hk1 (zp_F1 hD hS hA) hS1 (fun hP hK1 hD hS => ?_)))
      have hw : r30 = (-1) := hw
      have hw := hw.symm
      subst hw
      obtain ⟨x33, ex33⟩ : ∃ y : Int64, y = ((-1) : Int32).toInt64 := ⟨_, rfl⟩
      refine lv_i2l (v := x33) hx hb dX8_mean_33 ex33.symm ?_
      exact W.lret (v := x33) hx hb hr (fun t ht hW => ⟨⟨x33, (), rfl, trivial, v1na0_0, v30na0_11, by rw [ht]; exact hP, va_K.moved hW.alike hK, hD⟩, hS.F ht⟩) hS.2.2 dX8_mean_34
    · obtain ⟨hw, h17_0, h17_1, h17_2, h17_3⟩ := hw
      subst hw
      exact absurd h17_0 (by decide)

set_option maxHeartbeats 4000000 in
set_option maxRecDepth 100000 in
theorem c0_X8_dares (l : Launch) (dC : Nat → ClassId) (dI : Nat → Nat → Nat) (sz : Nat) (a0 : Nat) (a1 : Int32) (a2 : Int32) (a3 : Int32) (a4 : Int32) (a0_0 : Int32) (a0g_1 a0g_2 a0g_3 a0g_4 a0g_5 a0g_6 a0g_7 a0g_8 a0g_9 a0g_10 a0g_12 a0g_13 a0g_15 a0g_16 a0g_17 a0g_18 a0g_19 a0g_20 a0g_21 a0g_22 a0g_23 a0g_24 a0g_25 a0g_26 a0g_27 a0g_28 a0g_29 a0g_30 a0g_31 a0g_32 a0g_33 a0g_34 a0g_35 a0g_36 a0g_37 a0g_38 a0g_39 : Value) (a0_11 : Int32) (a0_14 : Int32) (ba0_14_l : (0 : Int) ≤ a0_14.toInt) (ba0_14_u : a0_14.toInt ≤ (0 : Int)) : zm l yX8_dares wsX8_dares ({ frames := 1, cells := 0, slots := 0, locals := 22 }) [.ref a0, .int a1, .int a2, .int a3, .int a4] dC dI sz [(a0, .inr (8, [Value.int a0_0, a0g_1, a0g_2, a0g_3, a0g_4, a0g_5, a0g_6, a0g_7, a0g_8, a0g_9, a0g_10, Value.int a0_11, a0g_12, a0g_13, Value.int a0_14, a0g_15, a0g_16, a0g_17, a0g_18, a0g_19, a0g_20, a0g_21, a0g_22, a0g_23, a0g_24, a0g_25, a0g_26, a0g_27, a0g_28, a0g_29, a0g_30, a0g_31, a0g_32, a0g_33, a0g_34, a0g_35, a0g_36, a0g_37, a0g_38, a0g_39]))] [] (fun A _ => True) (fun A => va_Qi (fun (r : Int32) (_ : Unit) => r = (-100)) (fun (_ : Unit) (t : State) => ∃ na0_0 : Int32, ∃ na0_11 : Int32, ax_B dC dI A [(a0, .inr (8, [Value.int na0_0, a0g_1, a0g_2, a0g_3, a0g_4, a0g_5, a0g_6, a0g_7, a0g_8, a0g_9, a0g_10, Value.int na0_11, a0g_12, a0g_13, Value.int a0_14, a0g_15, a0g_16, a0g_17, a0g_18, a0g_19, a0g_20, a0g_21, a0g_22, a0g_23, a0g_24, a0g_25, a0g_26, a0g_27, a0g_28, a0g_29, a0g_30, a0g_31, a0g_32, a0g_33, a0g_34, a0g_35, a0g_36, a0g_37, a0g_38, a0g_39]))] [] t) A) := by
  refine zh (cc := cX8_dares) (maxL := 6) (ret := (some .int)) zn_RX8 rfl (Nat.le_of_ble_eq_true rfl) (fun p e s m below meth c A ls hx hb hml hr hts (hown : s.vm.findClass RX8 = some m.cls) hlocks hA hS hP hK hD hE (hl : lv_has ls 6 [(0, .ref a0), (1, .int a1), (2, .int a2), (3, .int a3), (4, .int a4)]) => ?_)
  refine lv_aload_n hx hb dX8_dares_0 rfl (lv_at hl 0 rfl) ?_
  refine va_callv (va_runV (As := []) (rest := []) ⟨hx, hb, hml, hown, hts⟩ (c_X8_good l dC dI s.heap.size a0 a0_0 a0g_1 a0g_2 a0g_3 a0g_4 a0g_5 a0g_6 a0g_7 a0g_8 a0g_9 a0g_10 a0g_12 a0g_13 (Value.int a0_14) a0g_15 a0g_16 a0g_17 a0g_18 a0g_19 a0g_20 a0g_21 a0g_22 a0g_23 a0g_24 a0g_25 a0g_26 a0g_27 a0g_28 a0g_29 a0g_30 a0g_31 a0g_32 a0g_33 a0g_34 a0g_35 a0g_36 a0g_37 a0g_38 a0g_39 a0_11 ) (cwV 0 hts gX8_dares_X8_good rfl rfl rfl zd_X8_good ⟨Nat.le_of_ble_eq_true rfl, Nat.le_of_ble_eq_true rfl⟩) ⟨ax_blind (fun _ _ _ _ _ => trivial), zr_8 (zp_K hK) (zp_P1 hP) (q0 := 0) rfl, ax_pre (zp_P1 hP) (zp_K hK) (zp_D1 hD) (fun _ _ => trivial)⟩ rfl rfl hl.1 rfl (lv_room (Nat.le_of_ble_eq_true rfl)) dX8_dares_1 ⟨Nat.le_of_ble_eq_true rfl, Nat.le_of_ble_eq_true rfl⟩) hS (fun q _ h => zp_F1 hD hS hA q h) (zp_F1 hD hS hA) (fun u t H locs ht hvm hw => zx_2 (fun v1na0_0 v1na0_11 hB hz1 hk1 hS1 => zo1 hB ht hP hD hk1 (zp_F1 hD hS hA) hS1 (fun hP hK1 hD hS => ?_)))
  refine lv_aload_n hx hb dX8_dares_4 rfl (lv_at hl 0 rfl) ?_
  refine lv_aload_n hx hb dX8_dares_5 rfl (lv_at hl 0 rfl) ?_
  refine va_get (D := (dC, dI)) (ci := 8) (v := .int a0_14) (C := RX8) (T := TX8) (N := 40) hx hb hts zi_X8_dares_8 hown hK hP 0 rfl rfl 14 (by decide) (hts (.fieldLink RX8 173 "WaxTurnsModel" "hasGallery" "Z") (List.mem_cons_of_mem _ (List.mem_append_left _ (List.mem_of_getElem? (i := 0) rfl)))) (fun _ h9 => h9) rfl dX8_dares_6 ?_
  refine lv_iload_n hx hb dX8_dares_9 rfl (lv_at hl 1 rfl) ?_
  refine lv_iconst (v := 0) hx hb dX8_dares_10 zk_iconst_0 ?_
  refine lv_bipush (v := 9) hx hb dX8_dares_11 zk_bipush_9 ?_
  refine va_calli (va_runS (As := [.int a1, .int 0, .int 9]) (rest := [.int a0_14, .ref a0]) ⟨hx, hb, hml, hown, hts⟩ (c_X8_in l dC dI H.size a1 0 9 ) (va_cwS 3 hts gX8_dares_X8_in rfl rfl rfl zd_X8_in.2 ⟨Nat.le_of_ble_eq_true rfl, Nat.le_of_ble_eq_true rfl⟩) ⟨ax_blind (fun _ _ _ _ _ => trivial), ax_pre (zp_P0 hP) (zp_K hK) (zp_D0 hD) (fun _ _ => trivial)⟩ rfl rfl hl.1 rfl (lv_room (Nat.le_of_ble_eq_true rfl)) dX8_dares_13 ⟨Nat.le_of_ble_eq_true rfl, Nat.le_of_ble_eq_true rfl⟩) hS (fun q _ h => zp_F0 hD hS hA q h) (zp_F0 hD hS hA) (fun r13 u t H locs ht hvm hw hB hz1 hk1 hS1 => zo0 hB ht hP hD hk1 (zp_F0 hD hS hA) hS1 (fun hP hK1 hD hS => ?_))
  rcases hw with hw | hw
  · obtain ⟨hw, h13⟩ := hw
    subst hw
    have l13k0_a1 : (0 : Int) ≤ a1.toInt := Int.le_trans zq5 h13.1
    have u13k0_a1 : a1.toInt ≤ (9 : Int) := Int.le_trans h13.2 zq3
    refine va_calli (va_runV (As := [.int a0_14, .int 1]) (rest := []) ⟨hx, hb, hml, hown, hts⟩ (c_X8_whyB l dC dI H.size a0 a0_14 1 (Value.int v1na0_0) a0g_1 a0g_2 a0g_3 a0g_4 a0g_5 a0g_6 a0g_7 a0g_8 a0g_9 a0g_10 (Value.int v1na0_11) a0g_12 a0g_13 (Value.int a0_14) a0g_15 a0g_16 a0g_17 a0g_18 a0g_19 a0g_20 a0g_21 a0g_22 a0g_23 a0g_24 a0g_25 a0g_26 a0g_27 a0g_28 a0g_29 a0g_30 a0g_31 a0g_32 a0g_33 a0g_34 a0g_35 a0g_36 a0g_37 a0g_38 a0g_39 ba0_14_l (Int.le_trans ba0_14_u zq4) (Int.le_trans zq4 zq1) zq0) (cwV 2 hts gX8_dares_X8_why rfl rfl rfl zd_X8_why ⟨Nat.le_of_ble_eq_true rfl, Nat.le_of_ble_eq_true rfl⟩) ⟨ax_blind (fun _ _ _ _ _ => trivial), zr_8 (zp_K hK) (zp_P1 hP) (q0 := 0) rfl, ax_pre (zp_P1 hP) (zp_K hK) (zp_D1 hD) (fun _ _ => trivial)⟩ rfl rfl hl.1 rfl (lv_room (Nat.le_of_ble_eq_true rfl)) dX8_dares_16 ⟨Nat.le_of_ble_eq_true rfl, Nat.le_of_ble_eq_true rfl⟩) hS (fun q _ h => zp_F1 hD hS hA q h) (zp_F1 hD hS hA) (fun r16 u t H locs ht hvm hw hB hz1 hk1 hS1 => zo1 hB ht hP hD hk1 (zp_F1 hD hS hA) hS1 (fun hP hK1 hD hS => ?_))
    rcases hw with hw | hw | hw
    · obtain ⟨hw, h16_0, h16_1, h16_2, h16_3⟩ := hw
      subst hw
      have l16k0_a0_14 : (1 : Int) ≤ a0_14.toInt := h16_0
      have u16k0_a0_14 : a0_14.toInt ≤ (0 : Int) := ba0_14_u
      exact absurd (Int.le_trans l16k0_a0_14 u16k0_a0_14) (by decide)
    · obtain ⟨hw, h16_0, h16_1⟩ := hw
      subst hw
      have l16k1_a0_14 : (0 : Int) ≤ a0_14.toInt := ba0_14_l
      have u16k1_a0_14 : a0_14.toInt ≤ (0 : Int) := ba0_14_u
      refine lv_istore (lv' := [(5, .int 1), (0, .ref a0), (1, .int a1), (2, .int a2), (3, .int a3), (4, .int a4)]) hx hb dX8_dares_19 hl (by decide) rfl (fun ls hl => ?_)
      refine lv_iload hx hb dX8_dares_21 (lv_at hl 0 rfl) ?_
      refine lv_if_ne (tgt := 46) hx hb dX8_dares_23 (by decide) (fun _ => ?_) (fun c23 => absurd c23 (by decide +kernel))
      refine lv_aload_n hx hb dX8_dares_46 rfl (lv_at hl 1 rfl) ?_
      refine lv_iload hx hb dX8_dares_47 (lv_at hl 0 rfl) ?_
      refine va_put (D := (dC, dI)) (ci := 8) (v := .int 1) (ty := .int) (C := RX8) (T := TX8) (N := 40) hx hb hts zi_X8_dares_8 tyX8 tyX8_ok nmX8 hown hK hP hD hS 0 rfl rfl 11 (by decide) (hts (.fieldLink RX8 62 "WaxTurnsModel" "trouble" "I") (List.mem_cons_of_mem _ (List.mem_append_left _ (List.mem_of_getElem? (i := 1) rfl)))) (fun _ h9 => h9) rfl (tyX8_ok 11 (by decide)) rfl rfl (Nat.le_of_ble_eq_true rfl) dX8_dares_49 (fun H locs hP hD hS => ?_)
      refine zs_0 (y := (a0, .inr (8, [Value.int v1na0_0, a0g_1, a0g_2, a0g_3, a0g_4, a0g_5, a0g_6, a0g_7, a0g_8, a0g_9, a0g_10, Value.int 1, a0g_12, a0g_13, Value.int a0_14, a0g_15, a0g_16, a0g_17, a0g_18, a0g_19, a0g_20, a0g_21, a0g_22, a0g_23, a0g_24, a0g_25, a0g_26, a0g_27, a0g_28, a0g_29, a0g_30, a0g_31, a0g_32, a0g_33, a0g_34, a0g_35, a0g_36, a0g_37, a0g_38, a0g_39]))) hP hD rfl (fun hP hD => ?_)
      refine lv_bipush (v := (-100)) hx hb dX8_dares_52 zk_bipush_n100 ?_
      exact W.iret (v := (-100)) hx hb hr (fun t ht hW => ⟨⟨(-100), (), rfl, rfl, v1na0_0, 1, by rw [ht]; exact hP, va_K.moved hW.alike hK, hD⟩, hS.F ht⟩) hS.2.2 dX8_dares_54
    · obtain ⟨hw, h16_0, h16_1, h16_2, h16_3⟩ := hw
      subst hw
      have l16k2_a0_14 : (1 : Int) ≤ a0_14.toInt := h16_0
      have u16k2_a0_14 : a0_14.toInt ≤ (0 : Int) := ba0_14_u
      exact absurd (Int.le_trans l16k2_a0_14 u16k2_a0_14) (by decide)
  · obtain ⟨hw, h13⟩ := hw
    subst hw
    refine va_calli (va_runV (As := [.int a0_14, .int 0]) (rest := []) ⟨hx, hb, hml, hown, hts⟩ (c_X8_whyB l dC dI H.size a0 a0_14 0 (Value.int v1na0_0) a0g_1 a0g_2 a0g_3 a0g_4 a0g_5 a0g_6 a0g_7 a0g_8 a0g_9 a0g_10 (Value.int v1na0_11) a0g_12 a0g_13 (Value.int a0_14) a0g_15 a0g_16 a0g_17 a0g_18 a0g_19 a0g_20 a0g_21 a0g_22 a0g_23 a0g_24 a0g_25 a0g_26 a0g_27 a0g_28 a0g_29 a0g_30 a0g_31 a0g_32 a0g_33 a0g_34 a0g_35 a0g_36 a0g_37 a0g_38 a0g_39 ba0_14_l (Int.le_trans ba0_14_u zq4) zq5 (Int.le_trans zq6 zq4)) (cwV 2 hts gX8_dares_X8_why rfl rfl rfl zd_X8_why ⟨Nat.le_of_ble_eq_true rfl, Nat.le_of_ble_eq_true rfl⟩) ⟨ax_blind (fun _ _ _ _ _ => trivial), zr_8 (zp_K hK) (zp_P1 hP) (q0 := 0) rfl, ax_pre (zp_P1 hP) (zp_K hK) (zp_D1 hD) (fun _ _ => trivial)⟩ rfl rfl hl.1 rfl (lv_room (Nat.le_of_ble_eq_true rfl)) dX8_dares_16 ⟨Nat.le_of_ble_eq_true rfl, Nat.le_of_ble_eq_true rfl⟩) hS (fun q _ h => zp_F1 hD hS hA q h) (zp_F1 hD hS hA) (fun r16 u t H locs ht hvm hw hB hz1 hk1 hS1 => zo1 hB ht hP hD hk1 (zp_F1 hD hS hA) hS1 (fun hP hK1 hD hS => ?_))
    rcases hw with hw | hw | hw
    · obtain ⟨hw, h16_0, h16_1, h16_2, h16_3⟩ := hw
      subst hw
      have l16k0_a0_14 : (1 : Int) ≤ a0_14.toInt := h16_0
      have u16k0_a0_14 : a0_14.toInt ≤ (0 : Int) := ba0_14_u
      exact absurd (Int.le_trans l16k0_a0_14 u16k0_a0_14) (by decide)
    · obtain ⟨hw, h16_0, h16_1⟩ := hw
      subst hw
      have l16k1_a0_14 : (0 : Int) ≤ a0_14.toInt := ba0_14_l
      have u16k1_a0_14 : a0_14.toInt ≤ (0 : Int) := ba0_14_u
      refine lv_istore (lv' := [(5, .int 1), (0, .ref a0), (1, .int a1), (2, .int a2), (3, .int a3), (4, .int a4)]) hx hb dX8_dares_19 hl (by decide) rfl (fun ls hl => ?_)
      refine lv_iload hx hb dX8_dares_21 (lv_at hl 0 rfl) ?_
      refine lv_if_ne (tgt := 46) hx hb dX8_dares_23 (by decide) (fun _ => ?_) (fun c23 => absurd c23 (by decide +kernel))
      refine lv_aload_n hx hb dX8_dares_46 rfl (lv_at hl 1 rfl) ?_
      refine lv_iload hx hb dX8_dares_47 (lv_at hl 0 rfl) ?_
      refine va_put (D := (dC, dI)) (ci := 8) (v := .int 1) (ty := .int) (C := RX8) (T := TX8) (N := 40) hx hb hts zi_X8_dares_8 tyX8 tyX8_ok nmX8 hown hK hP hD hS 0 rfl rfl 11 (by decide) (hts (.fieldLink RX8 62 "WaxTurnsModel" "trouble" "I") (List.mem_cons_of_mem _ (List.mem_append_left _ (List.mem_of_getElem? (i := 1) rfl)))) (fun _ h9 => h9) rfl (tyX8_ok 11 (by decide)) rfl rfl (Nat.le_of_ble_eq_true rfl) dX8_dares_49 (fun H locs hP hD hS => ?_)
      refine zs_0 (y := (a0, .inr (8, [Value.int v1na0_0, a0g_1, a0g_2, a0g_3, a0g_4, a0g_5, a0g_6, a0g_7, a0g_8, a0g_9, a0g_10, Value.int 1, a0g_12, a0g_13, Value.int a0_14, a0g_15, a0g_16, a0g_17, a0g_18, a0g_19, a0g_20, a0g_21, a0g_22, a0g_23, a0g_24, a0g_25, a0g_26, a0g_27, a0g_28, a0g_29, a0g_30, a0g_31, a0g_32, a0g_33, a0g_34, a0g_35, a0g_36, a0g_37, a0g_38, a0g_39]))) hP hD rfl (fun hP hD => ?_)
      refine lv_bipush (v := (-100)) hx hb dX8_dares_52 zk_bipush_n100 ?_
      exact W.iret (v := (-100)) hx hb hr (fun t ht hW => ⟨⟨(-100), (), rfl, rfl, v1na0_0, 1, by rw [ht]; exact hP, va_K.moved hW.alike hK, hD⟩, hS.F ht⟩) hS.2.2 dX8_dares_54
    · obtain ⟨hw, h16_0, h16_1, h16_2, h16_3⟩ := hw
      subst hw
      have l16k2_a0_14 : (1 : Int) ≤ a0_14.toInt := h16_0
      have u16k2_a0_14 : a0_14.toInt ≤ (0 : Int) := ba0_14_u
      exact absurd (Int.le_trans l16k2_a0_14 u16k2_a0_14) (by decide)
end P280_07_safe
section P280_08_safe
set_option maxHeartbeats 4000000 in
set_option maxRecDepth 100000 in
theorem c0_X8_size (l : Launch) (dC : Nat → ClassId) (dI : Nat → Nat → Nat) (sz : Nat) (a0 : Nat) (a1 : Int32) (a0_0 : Int32) (a0g_1 a0g_3 a0g_4 a0g_5 a0g_6 a0g_7 a0g_8 a0g_9 a0g_10 a0g_11 a0g_12 a0g_13 a0g_15 a0g_16 a0g_17 a0g_18 a0g_19 a0g_20 a0g_21 a0g_22 a0g_23 a0g_24 a0g_25 a0g_26 a0g_27 a0g_28 a0g_29 a0g_30 a0g_31 a0g_32 a0g_33 a0g_34 a0g_35 a0g_36 a0g_37 a0g_38 a0g_39 : Value) (a0_2 : Int32) (a0_14 : Int32) (ba0_2_l : (0 : Int) ≤ a0_2.toInt) (ba0_2_u : a0_2.toInt ≤ (900 : Int)) (ba0_14_l : (0 : Int) ≤ a0_14.toInt) (ba0_14_u : a0_14.toInt ≤ (0 : Int)) : zm l yX8_size wsX8_size ({ frames := 1, cells := 0, slots := 0, locals := 22 }) [.ref a0, .int a1] dC dI sz [(a0, .inr (8, [Value.int a0_0, a0g_1, Value.int a0_2, a0g_3, a0g_4, a0g_5, a0g_6, a0g_7, a0g_8, a0g_9, a0g_10, a0g_11, a0g_12, a0g_13, Value.int a0_14, a0g_15, a0g_16, a0g_17, a0g_18, a0g_19, a0g_20, a0g_21, a0g_22, a0g_23, a0g_24, a0g_25, a0g_26, a0g_27, a0g_28, a0g_29, a0g_30, a0g_31, a0g_32, a0g_33, a0g_34, a0g_35, a0g_36, a0g_37, a0g_38, a0g_39]))] [] (fun A _ => True) (fun A => va_Qi (fun (r : Int32) (_ : Unit) => (-1 : Int) ≤ r.toInt ∧ r.toInt ≤ (900 : Int)) (fun (_ : Unit) (t : State) => ∃ na0_0 : Int32, ax_B dC dI A [(a0, .inr (8, [Value.int na0_0, a0g_1, Value.int a0_2, a0g_3, a0g_4, a0g_5, a0g_6, a0g_7, a0g_8, a0g_9, a0g_10, a0g_11, a0g_12, a0g_13, Value.int a0_14, a0g_15, a0g_16, a0g_17, a0g_18, a0g_19, a0g_20, a0g_21, a0g_22, a0g_23, a0g_24, a0g_25, a0g_26, a0g_27, a0g_28, a0g_29, a0g_30, a0g_31, a0g_32, a0g_33, a0g_34, a0g_35, a0g_36, a0g_37, a0g_38, a0g_39]))] [] t) A) := by
  refine zh (cc := cX8_size) (maxL := 2) (ret := (some .int)) zn_RX8 rfl (Nat.le_of_ble_eq_true rfl) (fun p e s m below meth c A ls hx hb hml hr hts (hown : s.vm.findClass RX8 = some m.cls) hlocks hA hS hP hK hD hE (hl : lv_has ls 2 [(0, .ref a0), (1, .int a1)]) => ?_)
  refine lv_aload_n hx hb dX8_size_0 rfl (lv_at hl 0 rfl) ?_
  refine lv_iconst (v := 0) hx hb dX8_size_1 zk_iconst_0 ?_
  refine va_put (D := (dC, dI)) (ci := 8) (v := .int 0) (ty := .int) (C := RX8) (T := TX8) (N := 40) hx hb hts zi_X8_size_8 tyX8 tyX8_ok nmX8 hown hK hP hD hS 0 rfl rfl 0 (by decide) (hts (.fieldLink RX8 59 "WaxTurnsModel" "thrown" "I") (List.mem_cons_of_mem _ (List.mem_append_left _ (List.mem_of_getElem? (i := 0) rfl)))) (fun _ h9 => h9) rfl (tyX8_ok 0 (by decide)) rfl rfl (Nat.le_of_ble_eq_true rfl) dX8_size_2 (fun H locs hP hD hS => ?_)
  refine zs_0 (y := (a0, .inr (8, [Value.int 0, a0g_1, Value.int a0_2, a0g_3, a0g_4, a0g_5, a0g_6, a0g_7, a0g_8, a0g_9, a0g_10, a0g_11, a0g_12, a0g_13, Value.int a0_14, a0g_15, a0g_16, a0g_17, a0g_18, a0g_19, a0g_20, a0g_21, a0g_22, a0g_23, a0g_24, a0g_25, a0g_26, a0g_27, a0g_28, a0g_29, a0g_30, a0g_31, a0g_32, a0g_33, a0g_34, a0g_35, a0g_36, a0g_37, a0g_38, a0g_39]))) hP hD rfl (fun hP hD => ?_)
  refine lv_iload_n hx hb dX8_size_5 rfl (lv_at hl 1 rfl) ?_
  refine lv_bipush (v := 13) hx hb dX8_size_6 zk_bipush_13 ?_
  refine lv_icmp_ne (tgt := 16) hx hb dX8_size_8 (by decide) (fun c8 => ?_) (fun c8 => ?_)
  · have gc8 := ai_ne c8
    refine lv_aload_n hx hb dX8_size_16 rfl (lv_at hl 0 rfl) ?_
    refine va_get (D := (dC, dI)) (ci := 8) (v := .int a0_14) (C := RX8) (T := TX8) (N := 40) hx hb hts zi_X8_size_8 hown hK hP 0 rfl rfl 14 (by decide) (hts (.fieldLink RX8 173 "WaxTurnsModel" "hasGallery" "Z") (List.mem_cons_of_mem _ (List.mem_append_left _ (List.mem_of_getElem? (i := 2) rfl)))) (fun _ h9 => h9) rfl dX8_size_17 ?_
    refine lv_if_ne (tgt := 39) hx hb dX8_size_20 (by decide) (fun c20 => ?_) (fun c20 => ?_)
    · have gc20 := ai_ne c20
      have l20t_a0_14 : (1 : Int) ≤ a0_14.toInt := (by first | exact zg_l ba0_14_l gc20 (by decide) (by decide) | (have h1 := ba0_14_l; have h2 : (0 : Int32).toInt = 0 := (by decide); rw [h2] at gc20; omega))
      have u20t_a0_14 : a0_14.toInt ≤ (-1 : Int) := (by first | exact zg_u ba0_14_u gc20 (by decide) (by decide) | (have h1 := ba0_14_u; have h2 : (0 : Int32).toInt = 0 := (by decide); rw [h2] at gc20; omega))
      exact absurd (Int.le_trans l20t_a0_14 u20t_a0_14) (by decide)
    · have gc20 := ai_eq c20
      have u20f_a0_14 : a0_14.toInt ≤ (0 : Int) := ba0_14_u
      have l20f_a0_14 : (0 : Int) ≤ a0_14.toInt := ba0_14_l
      refine lv_iload_n hx hb dX8_size_23 rfl (lv_at hl 1 rfl) ?_
      refine lv_iconst (v := 0) hx hb dX8_size_24 zk_iconst_0 ?_
      refine lv_bipush (v := 12) hx hb dX8_size_25 zk_bipush_12 ?_
      refine va_calli (va_runS (As := [.int a1, .int 0, .int 12]) (rest := []) ⟨hx, hb, hml, hown, hts⟩ (c_X8_in l dC dI H.size a1 0 12 ) (va_cwS 3 hts gX8_size_X8_in rfl rfl rfl zd_X8_in.2 ⟨Nat.le_of_ble_eq_true rfl, Nat.le_of_ble_eq_true rfl⟩) ⟨ax_blind (fun _ _ _ _ _ => trivial), ax_pre (zp_P0 hP) (zp_K hK) (zp_D0 hD) (fun _ _ => trivial)⟩ rfl rfl hl.1 rfl (lv_room (Nat.le_of_ble_eq_true rfl)) dX8_size_27 ⟨Nat.le_of_ble_eq_true rfl, Nat.le_of_ble_eq_true rfl⟩) hS (fun q _ h => zp_F0 hD hS hA q h) (zp_F0 hD hS hA) (fun r27 u t H locs ht hvm hw hB hz1 hk1 hS1 => zo0 hB ht hP hD hk1 (zp_F0 hD hS hA) hS1 (fun hP hK1 hD hS => ?_))
      rcases hw with hw | hw
      · obtain ⟨hw, h27⟩ := hw
        subst hw
        have l27k0_a1 : (0 : Int) ≤ a1.toInt := Int.le_trans zq5 h27.1
        have u27k0_a1 : a1.toInt ≤ (12 : Int) := Int.le_trans h27.2 zq120
        refine lv_if_eq (tgt := 37) hx hb dX8_size_30 (by decide) (fun c30 => absurd c30 (by decide +kernel)) (fun _ => ?_)
        refine lv_iconst (v := 0) hx hb dX8_size_33 zk_iconst_0 ?_
        refine lv_goto (tgt := 38) hx hb dX8_size_34 (by decide) ?_
        exact W.iret (v := 0) hx hb hr (fun t ht hW => ⟨⟨0, (), rfl, ⟨(Int.le_trans zq69 zq5), (Int.le_trans zq6 zq40)⟩, 0, by rw [ht]; exact hP, va_K.moved hW.alike hK, hD⟩, hS.F ht⟩) hS.2.2 dX8_size_38
      · obtain ⟨hw, h27⟩ := hw
        subst hw
        refine lv_if_eq (tgt := 37) hx hb dX8_size_30 (by decide) (fun _ => ?_) (fun c30 => absurd (by decide +kernel) c30)
        refine lv_iconst (v := (-1)) hx hb dX8_size_37 zk_iconst_n1 ?_
        exact W.iret (v := (-1)) hx hb hr (fun t ht hW => ⟨⟨(-1), (), rfl, ⟨zq70, (Int.le_trans zq71 zq228)⟩, 0, by rw [ht]; exact hP, va_K.moved hW.alike hK, hD⟩, hS.F ht⟩) hS.2.2 dX8_size_38
  · have gc8 := ai_eq c8
    have u8f_a1 : a1.toInt ≤ (13 : Int) := Int.le_trans (Int.le_of_eq gc8) zq122
    have l8f_a1 : (13 : Int) ≤ a1.toInt := Int.le_trans zq121 (Int.le_of_eq gc8.symm)
    refine lv_aload_n hx hb dX8_size_11 rfl (lv_at hl 0 rfl) ?_
    refine va_get (D := (dC, dI)) (ci := 8) (v := .int a0_2) (C := RX8) (T := TX8) (N := 40) hx hb hts zi_X8_size_8 hown hK hP 0 rfl rfl 2 (by decide) (hts (.fieldLink RX8 65 "WaxTurnsModel" "taped" "I") (List.mem_cons_of_mem _ (List.mem_append_left _ (List.mem_of_getElem? (i := 1) rfl)))) (fun _ h9 => h9) rfl dX8_size_12 ?_
    exact W.iret (v := a0_2) hx hb hr (fun t ht hW => ⟨⟨a0_2, (), rfl, ⟨(Int.le_trans zq69 ba0_2_l), ba0_2_u⟩, 0, by rw [ht]; exact hP, va_K.moved hW.alike hK, hD⟩, hS.F ht⟩) hS.2.2 dX8_size_15

set_option maxHeartbeats 4000000 in
set_option maxRecDepth 100000 in
theorem c0_X8_led (l : Launch) (dC : Nat → ClassId) (dI : Nat → Nat → Nat) (sz : Nat) (a0 : Nat) (a1 : Int32) (a0_0 : Int32) (a0g_1 a0g_2 a0g_3 a0g_4 a0g_5 a0g_6 a0g_7 a0g_8 a0g_9 a0g_10 a0g_11 a0g_12 a0g_13 a0g_15 a0g_16 a0g_17 a0g_18 a0g_19 a0g_20 a0g_21 a0g_22 a0g_23 a0g_24 a0g_25 a0g_26 a0g_27 a0g_28 a0g_29 a0g_30 a0g_31 a0g_32 a0g_33 a0g_34 a0g_35 a0g_36 a0g_37 a0g_38 a0g_39 : Value) (a0_14 : Int32) (ba0_14_l : (0 : Int) ≤ a0_14.toInt) (ba0_14_u : a0_14.toInt ≤ (0 : Int)) : zm l yX8_led wsX8_led ({ frames := 0, cells := 0, slots := 0, locals := 0 }) [.ref a0, .int a1] dC dI sz [(a0, .inr (8, [Value.int a0_0, a0g_1, a0g_2, a0g_3, a0g_4, a0g_5, a0g_6, a0g_7, a0g_8, a0g_9, a0g_10, a0g_11, a0g_12, a0g_13, Value.int a0_14, a0g_15, a0g_16, a0g_17, a0g_18, a0g_19, a0g_20, a0g_21, a0g_22, a0g_23, a0g_24, a0g_25, a0g_26, a0g_27, a0g_28, a0g_29, a0g_30, a0g_31, a0g_32, a0g_33, a0g_34, a0g_35, a0g_36, a0g_37, a0g_38, a0g_39]))] [] (fun A _ => True) (fun A => va_Qi (fun (r : Int32) (_ : Unit) => r = 0) (fun (_ : Unit) (t : State) => ∃ na0_0 : Int32, ax_B dC dI A [(a0, .inr (8, [Value.int na0_0, a0g_1, a0g_2, a0g_3, a0g_4, a0g_5, a0g_6, a0g_7, a0g_8, a0g_9, a0g_10, a0g_11, a0g_12, a0g_13, Value.int a0_14, a0g_15, a0g_16, a0g_17, a0g_18, a0g_19, a0g_20, a0g_21, a0g_22, a0g_23, a0g_24, a0g_25, a0g_26, a0g_27, a0g_28, a0g_29, a0g_30, a0g_31, a0g_32, a0g_33, a0g_34, a0g_35, a0g_36, a0g_37, a0g_38, a0g_39]))] [] t) A) := by
  refine zh (cc := cX8_led) (maxL := 4) (ret := (some .int)) zn_RX8 rfl (Nat.le_of_ble_eq_true rfl) (fun p e s m below meth c A ls hx hb hml hr hts (hown : s.vm.findClass RX8 = some m.cls) hlocks hA hS hP hK hD hE (hl : lv_has ls 4 [(0, .ref a0), (1, .int a1)]) => ?_)
  refine ai_open (fun K hK0 => ?_)
  refine (hK0 _ _ _).mpr ?_
  refine lv_iconst (v := 0) hx hb dX8_led_0 zk_iconst_0 ?_
  refine lv_istore_n (lv' := [(2, .int 0), (0, .ref a0), (1, .int a1)]) hx hb dX8_led_1 rfl hl (by decide) rfl (fun ls hl => ?_)
  refine lv_iconst (v := 0) hx hb dX8_led_2 zk_iconst_0 ?_
  refine lv_istore_n (lv' := [(3, .int 0), (2, .int 0), (0, .ref a0), (1, .int a1)]) hx hb dX8_led_3 rfl hl (by decide) rfl (fun ls hl => ?_)
  refine lv_aload_n hx hb dX8_led_4 rfl (lv_at hl 2 rfl) ?_
  refine va_get (D := (dC, dI)) (ci := 8) (v := .int a0_14) (C := RX8) (T := TX8) (N := 40) hx hb hts zi_X8_led_8 hown hK hP 0 rfl rfl 14 (by decide) (hts (.fieldLink RX8 173 "WaxTurnsModel" "hasGallery" "Z") (List.mem_cons_of_mem _ (List.mem_append_left _ (List.mem_of_getElem? (i := 0) rfl)))) (fun _ h9 => h9) rfl dX8_led_5 ?_
  have J55 : ∀ (H : Heap) (locs : List Loc) (ls : Array Slot), va_P (dC, dI) vwCl [(a0, .inr (8, [Value.int a0_0, a0g_1, a0g_2, a0g_3, a0g_4, a0g_5, a0g_6, a0g_7, a0g_8, a0g_9, a0g_10, a0g_11, a0g_12, a0g_13, Value.int a0_14, a0g_15, a0g_16, a0g_17, a0g_18, a0g_19, a0g_20, a0g_21, a0g_22, a0g_23, a0g_24, a0g_25, a0g_26, a0g_27, a0g_28, a0g_29, a0g_30, a0g_31, a0g_32, a0g_33, a0g_34, a0g_35, a0g_36, a0g_37, a0g_38, a0g_39]))] H → va_D A [(a0, .inr (8, [Value.int a0_0, a0g_1, a0g_2, a0g_3, a0g_4, a0g_5, a0g_6, a0g_7, a0g_8, a0g_9, a0g_10, a0g_11, a0g_12, a0g_13, Value.int a0_14, a0g_15, a0g_16, a0g_17, a0g_18, a0g_19, a0g_20, a0g_21, a0g_22, a0g_23, a0g_24, a0g_25, a0g_26, a0g_27, a0g_28, a0g_29, a0g_30, a0g_31, a0g_32, a0g_33, a0g_34, a0g_35, a0g_36, a0g_37, a0g_38, a0g_39]))] → va_S A s.heap H locs → lv_has ls 4 [(0, .ref a0)] → K H locs (F0 m 55 ls []) := by
    intro  H locs ls   hP hD hS hl
    refine (hK0 _ _ _).mpr ?_
    refine lv_aload_n hx hb dX8_led_55 rfl (lv_at hl 0 rfl) ?_
    refine lv_iconst (v := 1) hx hb dX8_led_56 zk_iconst_1 ?_
    refine va_put (D := (dC, dI)) (ci := 8) (v := .int 1) (ty := .int) (C := RX8) (T := TX8) (N := 40) hx hb hts zi_X8_led_8 tyX8 tyX8_ok nmX8 hown hK hP hD hS 0 rfl rfl 0 (by decide) (hts (.fieldLink RX8 59 "WaxTurnsModel" "thrown" "I") (List.mem_cons_of_mem _ (List.mem_append_left _ (List.mem_of_getElem? (i := 3) rfl)))) (fun _ h9 => h9) rfl (tyX8_ok 0 (by decide)) rfl rfl (Nat.le_of_ble_eq_true rfl) dX8_led_57 (fun H locs hP hD hS => ?_)
    refine zs_0 (y := (a0, .inr (8, [Value.int 1, a0g_1, a0g_2, a0g_3, a0g_4, a0g_5, a0g_6, a0g_7, a0g_8, a0g_9, a0g_10, a0g_11, a0g_12, a0g_13, Value.int a0_14, a0g_15, a0g_16, a0g_17, a0g_18, a0g_19, a0g_20, a0g_21, a0g_22, a0g_23, a0g_24, a0g_25, a0g_26, a0g_27, a0g_28, a0g_29, a0g_30, a0g_31, a0g_32, a0g_33, a0g_34, a0g_35, a0g_36, a0g_37, a0g_38, a0g_39]))) hP hD rfl (fun hP hD => ?_)
    refine lv_iconst (v := 0) hx hb dX8_led_60 zk_iconst_0 ?_
    exact W.iret (v := 0) hx hb hr (fun t ht hW => ⟨⟨0, (), rfl, rfl, 1, by rw [ht]; exact hP, va_K.moved hW.alike hK, hD⟩, hS.F ht⟩) hS.2.2 dX8_led_61
  refine lv_if_eq (tgt := 55) hx hb dX8_led_8 (by decide) (fun c8 => ?_) (fun c8 => ?_)
  · have gc8 := ai_eq c8
    have u8t_a0_14 : a0_14.toInt ≤ (0 : Int) := ba0_14_u
    have l8t_a0_14 : (0 : Int) ≤ a0_14.toInt := ba0_14_l
    exact (hK0 _ _ _).mp (J55  _ _ _   hP hD hS (lv_sub hl [2] rfl))
  · have gc8 := ai_ne c8
    have l8f_a0_14 : (1 : Int) ≤ a0_14.toInt := (by first | exact zg_l ba0_14_l gc8 (by decide) (by decide) | (have h1 := ba0_14_l; have h2 : (0 : Int32).toInt = 0 := (by decide); rw [h2] at gc8; omega))
    have u8f_a0_14 : a0_14.toInt ≤ (-1 : Int) := (by first | exact zg_u ba0_14_u gc8 (by decide) (by decide) | (have h1 := ba0_14_u; have h2 : (0 : Int32).toInt = 0 := (by decide); rw [h2] at gc8; omega))
    exact absurd (Int.le_trans l8f_a0_14 u8f_a0_14) (by decide)

set_option maxHeartbeats 4000000 in
set_option maxRecDepth 100000 in
theorem c0_X8_routeAt (l : Launch) (dC : Nat → ClassId) (dI : Nat → Nat → Nat) (sz : Nat) (a0 : Nat) (a1 : Int32) (a2 : Int32) (a3 : Int32) (a0_0 : Int32) (a0g_1 a0g_2 a0g_3 a0g_4 a0g_5 a0g_6 a0g_7 a0g_8 a0g_9 a0g_10 a0g_12 a0g_13 a0g_15 a0g_16 a0g_17 a0g_18 a0g_19 a0g_20 a0g_21 a0g_22 a0g_23 a0g_24 a0g_25 a0g_26 a0g_27 a0g_28 a0g_29 a0g_30 a0g_31 a0g_32 a0g_33 a0g_34 a0g_35 a0g_36 a0g_37 a0g_38 a0g_39 : Value) (a0_11 : Int32) (a0_14 : Int32) (ba0_14_l : (0 : Int) ≤ a0_14.toInt) (ba0_14_u : a0_14.toInt ≤ (0 : Int)) : zm l yX8_routeAt wsX8_routeAt ({ frames := 2, cells := 0, slots := 0, locals := 44 }) [.ref a0, .int a1, .int a2, .int a3] dC dI sz [(a0, .inr (8, [Value.int a0_0, a0g_1, a0g_2, a0g_3, a0g_4, a0g_5, a0g_6, a0g_7, a0g_8, a0g_9, a0g_10, Value.int a0_11, a0g_12, a0g_13, Value.int a0_14, a0g_15, a0g_16, a0g_17, a0g_18, a0g_19, a0g_20, a0g_21, a0g_22, a0g_23, a0g_24, a0g_25, a0g_26, a0g_27, a0g_28, a0g_29, a0g_30, a0g_31, a0g_32, a0g_33, a0g_34, a0g_35, a0g_36, a0g_37, a0g_38, a0g_39]))] [] (fun A _ => True) (fun A => va_Qi (fun (r : Int32) (_ : Unit) => r = (-1)) (fun (_ : Unit) (t : State) => ∃ na0_0 : Int32, ∃ na0_11 : Int32, ax_B dC dI A [(a0, .inr (8, [Value.int na0_0, a0g_1, a0g_2, a0g_3, a0g_4, a0g_5, a0g_6, a0g_7, a0g_8, a0g_9, a0g_10, Value.int na0_11, a0g_12, a0g_13, Value.int a0_14, a0g_15, a0g_16, a0g_17, a0g_18, a0g_19, a0g_20, a0g_21, a0g_22, a0g_23, a0g_24, a0g_25, a0g_26, a0g_27, a0g_28, a0g_29, a0g_30, a0g_31, a0g_32, a0g_33, a0g_34, a0g_35, a0g_36, a0g_37, a0g_38, a0g_39]))] [] t) A) := by
  refine zh (cc := cX8_routeAt) (maxL := 7) (ret := (some .int)) zn_RX8 rfl (Nat.le_of_ble_eq_true rfl) (fun p e s m below meth c A ls hx hb hml hr hts (hown : s.vm.findClass RX8 = some m.cls) hlocks hA hS hP hK hD hE (hl : lv_has ls 7 [(0, .ref a0), (1, .int a1), (2, .int a2), (3, .int a3)]) => ?_)
  refine ai_open (fun K hK0 => ?_)
  refine (hK0 _ _ _).mpr ?_
  refine lv_aload_n hx hb dX8_routeAt_0 rfl (lv_at hl 0 rfl) ?_
  refine va_callv (va_runV (As := []) (rest := []) ⟨hx, hb, hml, hown, hts⟩ (c_X8_good l dC dI s.heap.size a0 a0_0 a0g_1 a0g_2 a0g_3 a0g_4 a0g_5 a0g_6 a0g_7 a0g_8 a0g_9 a0g_10 a0g_12 a0g_13 (Value.int a0_14) a0g_15 a0g_16 a0g_17 a0g_18 a0g_19 a0g_20 a0g_21 a0g_22 a0g_23 a0g_24 a0g_25 a0g_26 a0g_27 a0g_28 a0g_29 a0g_30 a0g_31 a0g_32 a0g_33 a0g_34 a0g_35 a0g_36 a0g_37 a0g_38 a0g_39 a0_11 ) (cwV 0 hts gX8_routeAt_X8_good rfl rfl rfl zd_X8_good ⟨Nat.le_of_ble_eq_true rfl, Nat.le_of_ble_eq_true rfl⟩) ⟨ax_blind (fun _ _ _ _ _ => trivial), zr_8 (zp_K hK) (zp_P1 hP) (q0 := 0) rfl, ax_pre (zp_P1 hP) (zp_K hK) (zp_D1 hD) (fun _ _ => trivial)⟩ rfl rfl hl.1 rfl (lv_room (Nat.le_of_ble_eq_true rfl)) dX8_routeAt_1 ⟨Nat.le_of_ble_eq_true rfl, Nat.le_of_ble_eq_true rfl⟩) hS (fun q _ h => zp_F1 hD hS hA q h) (zp_F1 hD hS hA) (fun u t H locs ht hvm hw => zx_2 (fun v1na0_0 v1na0_11 hB hz1 hk1 hS1 => zo1 hB ht hP hD hk1 (zp_F1 hD hS hA) hS1 (fun hP hK1 hD hS => ?_)))
  refine lv_aload_n hx hb dX8_routeAt_4 rfl (lv_at hl 0 rfl) ?_
  refine lv_iload_n hx hb dX8_routeAt_5 rfl (lv_at hl 1 rfl) ?_
  refine lv_iload_n hx hb dX8_routeAt_6 rfl (lv_at hl 2 rfl) ?_
  refine va_calli (va_runV (As := [.int a1, .int a2]) (rest := []) ⟨hx, hb, hml, hown, hts⟩ (c0_X8_routeWhy l dC dI H.size a0 a1 a2 (Value.int v1na0_0) a0g_1 a0g_2 a0g_3 a0g_4 a0g_5 a0g_6 a0g_7 a0g_8 a0g_9 a0g_10 (Value.int v1na0_11) a0g_12 a0g_13 a0g_15 a0g_16 a0g_17 a0g_18 a0g_19 a0g_20 a0g_21 a0g_22 a0g_23 a0g_24 a0g_25 a0g_26 a0g_27 a0g_28 a0g_29 a0g_30 a0g_31 a0g_32 a0g_33 a0g_34 a0g_35 a0g_36 a0g_37 a0g_38 a0g_39 a0_14 ba0_14_l ba0_14_u) (cwV 2 hts gX8_routeAt_X8_routeWhy rfl rfl rfl zd_X8_routeWhy ⟨Nat.le_of_ble_eq_true rfl, Nat.le_of_ble_eq_true rfl⟩) ⟨ax_blind (fun _ _ _ _ _ => trivial), zr_8 (zp_K hK) (zp_P1 hP) (q0 := 0) rfl, ax_pre (zp_P1 hP) (zp_K hK) (zp_D1 hD) (fun _ _ => trivial)⟩ rfl rfl hl.1 rfl (lv_room (Nat.le_of_ble_eq_true rfl)) dX8_routeAt_7 ⟨Nat.le_of_ble_eq_true rfl, Nat.le_of_ble_eq_true rfl⟩) hS (fun q _ h => zp_F1 hD hS hA q h) (zp_F1 hD hS hA) (fun r7 u t H locs ht hvm hw hB hz1 hk1 hS1 => zo1 hB ht hP hD hk1 (zp_F1 hD hS hA) hS1 (fun hP hK1 hD hS => ?_))
  have hw : r7 = 1 := hw
  have hw := hw.symm
  subst hw
  refine lv_istore (lv' := [(4, .int 1), (0, .ref a0), (1, .int a1), (2, .int a2), (3, .int a3)]) hx hb dX8_routeAt_10 hl (by decide) rfl (fun ls hl => ?_)
  refine lv_iload hx hb dX8_routeAt_12 (lv_at hl 0 rfl) ?_
  refine lv_if_ne (tgt := 29) hx hb dX8_routeAt_14 (by decide) (fun _ => ?_) (fun c14 => absurd c14 (by decide +kernel))
  refine lv_iload hx hb dX8_routeAt_29 (lv_at hl 0 rfl) ?_
  refine lv_if_eq (tgt := 41) hx hb dX8_routeAt_31 (by decide) (fun c31 => absurd c31 (by decide +kernel)) (fun _ => ?_)
  refine lv_aload_n hx hb dX8_routeAt_34 rfl (lv_at hl 1 rfl) ?_
  refine lv_iload hx hb dX8_routeAt_35 (lv_at hl 0 rfl) ?_
  refine va_calli (va_runV (As := [.int 1]) (rest := []) ⟨hx, hb, hml, hown, hts⟩ (c_X8_no l dC dI H.size a0 1 (Value.int v1na0_0) a0g_1 a0g_2 a0g_3 a0g_4 a0g_5 a0g_6 a0g_7 a0g_8 a0g_9 a0g_10 a0g_12 a0g_13 (Value.int a0_14) a0g_15 a0g_16 a0g_17 a0g_18 a0g_19 a0g_20 a0g_21 a0g_22 a0g_23 a0g_24 a0g_25 a0g_26 a0g_27 a0g_28 a0g_29 a0g_30 a0g_31 a0g_32 a0g_33 a0g_34 a0g_35 a0g_36 a0g_37 a0g_38 a0g_39 v1na0_11 ) (cwV 1 hts gX8_routeAt_X8_no rfl rfl rfl zd_X8_no ⟨Nat.le_of_ble_eq_true rfl, Nat.le_of_ble_eq_true rfl⟩) ⟨ax_blind (fun _ _ _ _ _ => trivial), zr_8 (zp_K hK) (zp_P1 hP) (q0 := 0) rfl, ax_pre (zp_P1 hP) (zp_K hK) (zp_D1 hD) (fun _ _ => trivial)⟩ rfl rfl hl.1 rfl (lv_room (Nat.le_of_ble_eq_true rfl)) dX8_routeAt_37 ⟨Nat.le_of_ble_eq_true rfl, Nat.le_of_ble_eq_true rfl⟩) hS (fun q _ h => zp_F1 hD hS hA q h) (zp_F1 hD hS hA) (fun r37 u t H locs ht hvm hw => zx_1 (fun v37na0_11 hB hz1 hk1 hS1 => zo1 hB ht hP hD hk1 (zp_F1 hD hS hA) hS1 (fun hP hK1 hD hS => ?_)))
  have hw : r37 = (-1) := hw
  have hw := hw.symm
  subst hw
  exact W.iret (v := (-1)) hx hb hr (fun t ht hW => ⟨⟨(-1), (), rfl, rfl, v1na0_0, v37na0_11, by rw [ht]; exact hP, va_K.moved hW.alike hK, hD⟩, hS.F ht⟩) hS.2.2 dX8_routeAt_40
end P280_08_safe
section P305_fg
section FG
theorem fg_o {f : Nat → Int32} {i : Nat} {v : Int32} (h : ((1 : Int) ≤ (f 11).toInt → (2 : Int) ≤ (f 0).toInt ∧ (1 : Int) ≤ (f 1).toInt)) (hi : i ≠ 0 ∧ i ≠ 1 ∧ i ≠ 11) : ((1 : Int) ≤ (upd f i v 11).toInt → (2 : Int) ≤ (upd f i v 0).toInt ∧ (1 : Int) ≤ (upd f i v 1).toInt) := by
  unfold upd; rw [if_neg (by omega), if_neg (by omega), if_neg (by omega)]; exact h
theorem fg_0 {f : Nat → Int32} {i : Nat} {v : Int32} (h : ((1 : Int) ≤ (f 11).toInt → (2 : Int) ≤ (f 0).toInt ∧ (1 : Int) ≤ (f 1).toInt)) (hi : i = 0) (hv : (2 : Int) ≤ v.toInt) : ((1 : Int) ≤ (upd f i v 11).toInt → (2 : Int) ≤ (upd f i v 0).toInt ∧ (1 : Int) ≤ (upd f i v 1).toInt) := by
  subst hi; intro h9; unfold upd at h9 ⊢; rw [if_neg (by omega)] at h9; rw [if_pos rfl, if_neg (by omega)]; exact ⟨hv, (h h9).2⟩
theorem fg_1 {f : Nat → Int32} {i : Nat} {v : Int32} (h : ((1 : Int) ≤ (f 11).toInt → (2 : Int) ≤ (f 0).toInt ∧ (1 : Int) ≤ (f 1).toInt)) (hi : i = 1) (hv : (1 : Int) ≤ v.toInt) : ((1 : Int) ≤ (upd f i v 11).toInt → (2 : Int) ≤ (upd f i v 0).toInt ∧ (1 : Int) ≤ (upd f i v 1).toInt) := by
  subst hi; intro h9; unfold upd at h9 ⊢; rw [if_neg (by omega)] at h9; rw [if_pos rfl, if_neg (by omega)]; exact ⟨(h h9).1, hv⟩
theorem fg_11 {f : Nat → Int32} {i : Nat} {v : Int32} (hi : i = 11) (h0 : (2 : Int) ≤ (f 0).toInt) (h1 : (1 : Int) ≤ (f 1).toInt) : ((1 : Int) ≤ (upd f i v 11).toInt → (2 : Int) ≤ (upd f i v 0).toInt ∧ (1 : Int) ≤ (upd f i v 1).toInt) := by
  subst hi; intro h9; unfold upd; rw [if_neg (by omega), if_neg (by omega)]; exact ⟨h0, h1⟩
theorem fg_ko {f : Nat → Int32} {n : Nat} {v : Int32} (h : (∀ (j i0 i : Int32), (0 : Int) ≤ j.toInt → j.toInt ≤ 8 → i0.toInt = 12 + 2 * j.toInt → i.toInt = 13 + 2 * j.toInt → (f i0.toNatClampNeg).toInt = (1 : Int32).toInt → (1 : Int) ≤ (f i.toNatClampNeg).toInt)) (hn : n < 12 ∨ 29 < n) : (∀ (j i0 i : Int32), (0 : Int) ≤ j.toInt → j.toInt ≤ 8 → i0.toInt = 12 + 2 * j.toInt → i.toInt = 13 + 2 * j.toInt → (upd f n v i0.toNatClampNeg).toInt = (1 : Int32).toInt → (1 : Int) ≤ (upd f n v i.toNatClampNeg).toInt) := by
  intro j i0 i a b e1 e2
  have q1 : i0.toNatClampNeg = i0.toInt.toNat := rfl
  have q2 : i.toNatClampNeg = i.toInt.toNat := rfl
  unfold upd
  rw [if_neg (by omega), if_neg (by omega)]
  exact h j i0 i a b e1 e2
theorem fg_kp {f g : Nat → Int32} {k k2 m v v2 : Int32} (h : (∀ (j i0 i : Int32), (0 : Int) ≤ j.toInt → j.toInt ≤ 8 → i0.toInt = 12 + 2 * j.toInt → i.toInt = 13 + 2 * j.toInt → (f i0.toNatClampNeg).toInt = (1 : Int32).toInt → (1 : Int) ≤ (f i.toNatClampNeg).toInt)) (e : g = upd f k.toNatClampNeg v) (hk : k.toInt = 12 + 2 * m.toInt) (h2 : k2.toInt = 13 + 2 * m.toInt) (hm : 0 ≤ m.toInt) (hm8 : m.toInt ≤ 8) (hv : (1 : Int) ≤ v2.toInt) : (∀ (j i0 i : Int32), (0 : Int) ≤ j.toInt → j.toInt ≤ 8 → i0.toInt = 12 + 2 * j.toInt → i.toInt = 13 + 2 * j.toInt → (upd g k2.toNatClampNeg v2 i0.toNatClampNeg).toInt = (1 : Int32).toInt → (1 : Int) ≤ (upd g k2.toNatClampNeg v2 i.toNatClampNeg).toInt) := by
  subst e
  intro j i0 i a b e1 e2
  have q1 : i0.toNatClampNeg = i0.toInt.toNat := rfl
  have q2 : i.toNatClampNeg = i.toInt.toNat := rfl
  have q3 : k.toNatClampNeg = k.toInt.toNat := rfl
  have q4 : k2.toNatClampNeg = k2.toInt.toNat := rfl
  unfold upd
  by_cases hj : j.toInt = m.toInt
  · intro _; rw [if_pos (by omega)]; exact hv
  · rw [if_neg (by omega), if_neg (by omega), if_neg (by omega), if_neg (by omega)]; exact h j i0 i a b e1 e2
theorem fg_z {f : Nat → Int32} (h : ∀ i : Nat, i < 156 → f i = 0) : ((∀ k : Nat, 0 ≤ k → k ≤ 0 → (0 : Int) ≤ (f k).toInt ∧ (f k).toInt ≤ 9) ∧ (∀ k : Nat, 1 ≤ k → k ≤ 1 → (0 : Int) ≤ (f k).toInt ∧ (f k).toInt ≤ 20) ∧ (∀ k : Nat, 2 ≤ k → k ≤ 2 → (0 : Int) ≤ (f k).toInt ∧ (f k).toInt ≤ 8) ∧ (∀ k : Nat, 3 ≤ k → k ≤ 3 → (0 : Int) ≤ (f k).toInt ∧ (f k).toInt ≤ 100) ∧ (∀ k : Nat, 4 ≤ k → k ≤ 4 → (0 : Int) ≤ (f k).toInt ∧ (f k).toInt ≤ 9) ∧ (∀ k : Nat, 5 ≤ k → k ≤ 5 → (0 : Int) ≤ (f k).toInt ∧ (f k).toInt ≤ 3) ∧ (∀ k : Nat, 6 ≤ k → k ≤ 6 → (0 : Int) ≤ (f k).toInt ∧ (f k).toInt ≤ 6) ∧ (∀ k : Nat, 7 ≤ k → k ≤ 9 → (0 : Int) ≤ (f k).toInt ∧ (f k).toInt ≤ 8) ∧ (∀ k : Nat, 10 ≤ k → k ≤ 11 → (0 : Int) ≤ (f k).toInt ∧ (f k).toInt ≤ 1) ∧ (∀ k : Nat, 12 ≤ k → k ≤ 29 → (0 : Int) ≤ (f k).toInt ∧ (f k).toInt ≤ 20) ∧ (∀ k : Nat, 30 ≤ k → k ≤ 35 → (0 : Int) ≤ (f k).toInt ∧ (f k).toInt ≤ 8) ∧ (∀ k : Nat, 36 ≤ k → k ≤ 47 → (0 : Int) ≤ (f k).toInt ∧ (f k).toInt ≤ 999) ∧ (∀ k : Nat, 48 ≤ k → k ≤ 59 → (0 : Int) ≤ (f k).toInt ∧ (f k).toInt ≤ 8) ∧ ((1 : Int) ≤ (f 11).toInt → (2 : Int) ≤ (f 0).toInt ∧ (1 : Int) ≤ (f 1).toInt) ∧ (∀ (j i0 i : Int32), (0 : Int) ≤ j.toInt → j.toInt ≤ 8 → i0.toInt = 12 + 2 * j.toInt → i.toInt = 13 + 2 * j.toInt → (f i0.toNatClampNeg).toInt = (1 : Int32).toInt → (1 : Int) ≤ (f i.toNatClampNeg).toInt)) := ⟨fun k a b => by rw [h k (by omega)]; decide, fun k a b => by rw [h k (by omega)]; decide, fun k a b => by rw [h k (by omega)]; decide, fun k a b => by rw [h k (by omega)]; decide, fun k a b => by rw [h k (by omega)]; decide, fun k a b => by rw [h k (by omega)]; decide, fun k a b => by rw [h k (by omega)]; decide, fun k a b => by rw [h k (by omega)]; decide, fun k a b => by rw [h k (by omega)]; decide, fun k a b => by rw [h k (by omega)]; decide, fun k a b => by rw [h k (by omega)]; decide, fun k a b => by rw [h k (by omega)]; decide, fun k a b => by rw [h k (by omega)]; decide, fun h9 => by rw [h 11 (by omega)] at h9; exact absurd h9 (by decide), fun j i0 i a b e1 e2 h9 => by
  have q1 : i0.toNatClampNeg = i0.toInt.toNat := rfl
  rw [h _ (by omega)] at h9; exact absurd h9 (by decide)⟩
theorem fg_zs {f g : Nat → Int32} {k k2 : Int32} (h : ∀ i : Nat, i < k.toNatClampNeg → f i = 0) (e : g = upd f k.toNatClampNeg 0) (hk : k2.toInt = k.toInt + 1) (h0 : (0 : Int) ≤ k.toInt) : ∀ i : Nat, i < k2.toNatClampNeg → g i = 0 := by
  intro i a
  rw [cp_k hk h0] at a
  rw [e]; unfold upd; split
  · rfl
  · exact h i (by omega)
theorem fg_z0 {f : Nat → Int32} {n : Nat} (h : n = 0) : ∀ i : Nat, i < n → f i = 0 := fun i a => by omega
theorem fg_ze {f : Nat → Int32} {k : Int32} (h : ∀ i : Nat, i < k.toNatClampNeg → f i = 0) (hk : (156 : Int) ≤ k.toInt) : ∀ i : Nat, i < 156 → f i = 0 := by
  intro i a
  have q1 : k.toNatClampNeg = k.toInt.toNat := rfl
  exact h i (by omega)
theorem fg_r {f g r : Nat → Int32} {sp dp : Nat} (e : r = va_cpy f g sp dp 156) (h1 : sp = 0) (h2 : dp = 0) (hf : ((∀ k : Nat, 0 ≤ k → k ≤ 0 → (0 : Int) ≤ (f k).toInt ∧ (f k).toInt ≤ 9) ∧ (∀ k : Nat, 1 ≤ k → k ≤ 1 → (0 : Int) ≤ (f k).toInt ∧ (f k).toInt ≤ 20) ∧ (∀ k : Nat, 2 ≤ k → k ≤ 2 → (0 : Int) ≤ (f k).toInt ∧ (f k).toInt ≤ 8) ∧ (∀ k : Nat, 3 ≤ k → k ≤ 3 → (0 : Int) ≤ (f k).toInt ∧ (f k).toInt ≤ 100) ∧ (∀ k : Nat, 4 ≤ k → k ≤ 4 → (0 : Int) ≤ (f k).toInt ∧ (f k).toInt ≤ 9) ∧ (∀ k : Nat, 5 ≤ k → k ≤ 5 → (0 : Int) ≤ (f k).toInt ∧ (f k).toInt ≤ 3) ∧ (∀ k : Nat, 6 ≤ k → k ≤ 6 → (0 : Int) ≤ (f k).toInt ∧ (f k).toInt ≤ 6) ∧ (∀ k : Nat, 7 ≤ k → k ≤ 9 → (0 : Int) ≤ (f k).toInt ∧ (f k).toInt ≤ 8) ∧ (∀ k : Nat, 10 ≤ k → k ≤ 11 → (0 : Int) ≤ (f k).toInt ∧ (f k).toInt ≤ 1) ∧ (∀ k : Nat, 12 ≤ k → k ≤ 29 → (0 : Int) ≤ (f k).toInt ∧ (f k).toInt ≤ 20) ∧ (∀ k : Nat, 30 ≤ k → k ≤ 35 → (0 : Int) ≤ (f k).toInt ∧ (f k).toInt ≤ 8) ∧ (∀ k : Nat, 36 ≤ k → k ≤ 47 → (0 : Int) ≤ (f k).toInt ∧ (f k).toInt ≤ 999) ∧ (∀ k : Nat, 48 ≤ k → k ≤ 59 → (0 : Int) ≤ (f k).toInt ∧ (f k).toInt ≤ 8) ∧ ((1 : Int) ≤ (f 11).toInt → (2 : Int) ≤ (f 0).toInt ∧ (1 : Int) ≤ (f 1).toInt) ∧ (∀ (j i0 i : Int32), (0 : Int) ≤ j.toInt → j.toInt ≤ 8 → i0.toInt = 12 + 2 * j.toInt → i.toInt = 13 + 2 * j.toInt → (f i0.toNatClampNeg).toInt = (1 : Int32).toInt → (1 : Int) ≤ (f i.toNatClampNeg).toInt))) (h : (1 : Int) ≤ (f 11).toInt) : ((∀ k : Nat, 0 ≤ k → k ≤ 0 → (2 : Int) ≤ (r k).toInt ∧ (r k).toInt ≤ 9) ∧ (∀ k : Nat, 1 ≤ k → k ≤ 1 → (1 : Int) ≤ (r k).toInt ∧ (r k).toInt ≤ 20) ∧ (∀ k : Nat, 2 ≤ k → k ≤ 2 → (0 : Int) ≤ (r k).toInt ∧ (r k).toInt ≤ 8) ∧ (∀ k : Nat, 3 ≤ k → k ≤ 3 → (0 : Int) ≤ (r k).toInt ∧ (r k).toInt ≤ 100) ∧ (∀ k : Nat, 4 ≤ k → k ≤ 4 → (0 : Int) ≤ (r k).toInt ∧ (r k).toInt ≤ 9) ∧ (∀ k : Nat, 5 ≤ k → k ≤ 5 → (0 : Int) ≤ (r k).toInt ∧ (r k).toInt ≤ 3) ∧ (∀ k : Nat, 6 ≤ k → k ≤ 6 → (0 : Int) ≤ (r k).toInt ∧ (r k).toInt ≤ 6) ∧ (∀ k : Nat, 7 ≤ k → k ≤ 9 → (0 : Int) ≤ (r k).toInt ∧ (r k).toInt ≤ 8) ∧ (∀ k : Nat, 12 ≤ k → k ≤ 29 → (0 : Int) ≤ (r k).toInt ∧ (r k).toInt ≤ 20) ∧ (∀ k : Nat, 30 ≤ k → k ≤ 35 → (0 : Int) ≤ (r k).toInt ∧ (r k).toInt ≤ 8) ∧ (∀ k : Nat, 36 ≤ k → k ≤ 47 → (0 : Int) ≤ (r k).toInt ∧ (r k).toInt ≤ 999)) := by
  have q : ∀ k : Nat, k < 156 → r k = f k := fun k hk => by rw [e, pk_cpy_in (by omega) (by omega)]; exact congrArg f (by omega)
  have h11 := hf.2.2.2.2.2.2.2.2.2.2.2.2.2.1
  exact ⟨fun k a b => by rw [q k (by omega)]; have e : k = 0 := (by omega); subst e; exact ⟨(h11 h).1, (hf.1 0 (by omega) (by omega)).2⟩, fun k a b => by rw [q k (by omega)]; have e : k = 1 := (by omega); subst e; exact ⟨(h11 h).2, (hf.2.1 1 (by omega) (by omega)).2⟩, fun k a b => by rw [q k (by omega)]; exact hf.2.2.1 k (by omega) (by omega), fun k a b => by rw [q k (by omega)]; exact hf.2.2.2.1 k (by omega) (by omega), fun k a b => by rw [q k (by omega)]; exact hf.2.2.2.2.1 k (by omega) (by omega), fun k a b => by rw [q k (by omega)]; exact hf.2.2.2.2.2.1 k (by omega) (by omega), fun k a b => by rw [q k (by omega)]; exact hf.2.2.2.2.2.2.1 k (by omega) (by omega), fun k a b => by rw [q k (by omega)]; exact hf.2.2.2.2.2.2.2.1 k (by omega) (by omega), fun k a b => by rw [q k (by omega)]; exact hf.2.2.2.2.2.2.2.2.2.1 k (by omega) (by omega), fun k a b => by rw [q k (by omega)]; exact hf.2.2.2.2.2.2.2.2.2.2.1 k (by omega) (by omega), fun k a b => by rw [q k (by omega)]; exact hf.2.2.2.2.2.2.2.2.2.2.2.1 k (by omega) (by omega)⟩
theorem fg_rk {f g r : Nat → Int32} {sp dp : Nat} (e : r = va_cpy f g sp dp 156) (h1 : sp = 0) (h2 : dp = 0) (hf : ((∀ k : Nat, 0 ≤ k → k ≤ 0 → (0 : Int) ≤ (f k).toInt ∧ (f k).toInt ≤ 9) ∧ (∀ k : Nat, 1 ≤ k → k ≤ 1 → (0 : Int) ≤ (f k).toInt ∧ (f k).toInt ≤ 20) ∧ (∀ k : Nat, 2 ≤ k → k ≤ 2 → (0 : Int) ≤ (f k).toInt ∧ (f k).toInt ≤ 8) ∧ (∀ k : Nat, 3 ≤ k → k ≤ 3 → (0 : Int) ≤ (f k).toInt ∧ (f k).toInt ≤ 100) ∧ (∀ k : Nat, 4 ≤ k → k ≤ 4 → (0 : Int) ≤ (f k).toInt ∧ (f k).toInt ≤ 9) ∧ (∀ k : Nat, 5 ≤ k → k ≤ 5 → (0 : Int) ≤ (f k).toInt ∧ (f k).toInt ≤ 3) ∧ (∀ k : Nat, 6 ≤ k → k ≤ 6 → (0 : Int) ≤ (f k).toInt ∧ (f k).toInt ≤ 6) ∧ (∀ k : Nat, 7 ≤ k → k ≤ 9 → (0 : Int) ≤ (f k).toInt ∧ (f k).toInt ≤ 8) ∧ (∀ k : Nat, 10 ≤ k → k ≤ 11 → (0 : Int) ≤ (f k).toInt ∧ (f k).toInt ≤ 1) ∧ (∀ k : Nat, 12 ≤ k → k ≤ 29 → (0 : Int) ≤ (f k).toInt ∧ (f k).toInt ≤ 20) ∧ (∀ k : Nat, 30 ≤ k → k ≤ 35 → (0 : Int) ≤ (f k).toInt ∧ (f k).toInt ≤ 8) ∧ (∀ k : Nat, 36 ≤ k → k ≤ 47 → (0 : Int) ≤ (f k).toInt ∧ (f k).toInt ≤ 999) ∧ (∀ k : Nat, 48 ≤ k → k ≤ 59 → (0 : Int) ≤ (f k).toInt ∧ (f k).toInt ≤ 8) ∧ ((1 : Int) ≤ (f 11).toInt → (2 : Int) ≤ (f 0).toInt ∧ (1 : Int) ≤ (f 1).toInt) ∧ (∀ (j i0 i : Int32), (0 : Int) ≤ j.toInt → j.toInt ≤ 8 → i0.toInt = 12 + 2 * j.toInt → i.toInt = 13 + 2 * j.toInt → (f i0.toNatClampNeg).toInt = (1 : Int32).toInt → (1 : Int) ≤ (f i.toNatClampNeg).toInt))) : (∀ (j i0 i : Int32), (0 : Int) ≤ j.toInt → j.toInt ≤ 8 → i0.toInt = 12 + 2 * j.toInt → i.toInt = 13 + 2 * j.toInt → (r i0.toNatClampNeg).toInt = (1 : Int32).toInt → (1 : Int) ≤ (r i.toNatClampNeg).toInt) := by
  have q : ∀ k : Nat, k < 156 → r k = f k := fun k hk => by rw [e, pk_cpy_in (by omega) (by omega)]; exact congrArg f (by omega)
  have hk := hf.2.2.2.2.2.2.2.2.2.2.2.2.2.2
  intro j i0 i a b e1 e2
  have q1 : i0.toNatClampNeg = i0.toInt.toNat := rfl
  have q2 : i.toNatClampNeg = i.toInt.toNat := rfl
  rw [q _ (by omega), q _ (by omega)]
  exact hk j i0 i a b e1 e2
theorem fz_s {f f2 g : Nat → Int32} {i v : Int32} (h : ∀ k : Nat, k < 48 → f k = g k) (e : f2 = upd f i.toNatClampNeg v) (hi : (48 : Int) ≤ i.toInt) : ∀ k : Nat, k < 48 → f2 k = g k := by
  intro k hk
  have q1 : i.toNatClampNeg = i.toInt.toNat := rfl
  rw [e]; unfold upd; rw [if_neg (by omega)]; exact h k hk
theorem fg_u {f g : Nat → Int32} {k v : Int32} {m : Nat} (e : g = upd f k.toNatClampNeg v) (hk : (12 : Int) ≤ k.toInt) (hm : m < 12) : g m = f m := by
  have q1 : k.toNatClampNeg = k.toInt.toNat := rfl
  rw [e]; unfold upd; rw [if_neg (by omega)]
theorem fg_le {f : Nat → Int32} {x : Int32} {m : Nat} {b : Int} (e : x = f m) (h : (f m).toInt ≤ b) : x.toInt ≤ b := by rw [e]; exact h
end FG
end P305_fg
section P306_good
set_option maxRecDepth 20000 in
theorem gX8_next_X8_see : GoodIn wsX8_next (wsV RX8 74 RX8 yX8_see wsX8_see) := goodIn_s _ [(7, 7), (20, 40)] rfl (by decide +kernel)
set_option maxRecDepth 20000 in
theorem gX8_next_X8_isSmall : GoodIn wsX8_next (va_wsS RX8 90 yX8_isSmall wsX8_isSmall) := goodIn_s _ [(14, 2), (10, 1), (16, 1)] rfl (by decide +kernel)
set_option maxRecDepth 20000 in
theorem gX8_next_X8_isDigit : GoodIn wsX8_next (va_wsS RX8 94 yX8_isDigit wsX8_isDigit) := goodIn_s _ [(17, 2), (10, 1), (19, 1)] rfl (by decide +kernel)
set_option maxRecDepth 20000 in
theorem gX8_isWord_J0_length_8abf5 : GoodIn wsX8_isWord (wsV RX8 104 RJ0 yJ0_length_8abf5 wsJ0_length_8abf5) := goodIn_s _ [(5, 9), (8, 1), (14, 3)] rfl (by decide +kernel)
set_option maxRecDepth 20000 in
theorem gX8_isWord_J0_charAt_5068e : GoodIn wsX8_isWord (wsV RX8 110 RJ0 yJ0_charAt_5068e wsJ0_charAt_5068e) := goodIn_s _ [(17, 3), (8, 1), (20, 1), (10, 1), (21, 3), (8, 1), (24, 1), (15, 2), (25, 29)] rfl (by decide +kernel)
set_option maxRecDepth 20000 in
theorem gX8_takesWord_X8_isWord : GoodIn wsX8_takesWord (wsV RX8 114 RX8 yX8_isWord wsX8_isWord) := goodIn_s _ [(1, 58), (78, 40)] rfl (by decide +kernel)
set_option maxRecDepth 20000 in
theorem gX8_takesWord_X8_next : GoodIn wsX8_takesWord (wsV RX8 118 RX8 yX8_next wsX8_next) := goodIn_s _ [(59, 3), (4, 1), (62, 3), (8, 1), (65, 1), (7, 1), (9, 1), (66, 3), (4, 1), (69, 49)] rfl (by decide +kernel)
set_option maxRecDepth 20000 in
theorem gX8_must_X8_takesWord : GoodIn wsX8_must (wsV RX8 121 RX8 yX8_takesWord wsX8_takesWord) := goodIn_s _ [(3, 8), (6, 1), (11, 1), (1, 1), (12, 57), (2, 1), (69, 13), (88, 40)] rfl (by decide +kernel)
set_option maxRecDepth 20000 in
theorem gX8_must_X8_wrong : GoodIn wsX8_must (wsV RX8 124 RX8 yX8_wrong wsX8_wrong) := goodIn_s _ [(82, 3), (6, 1), (85, 1), (1, 1), (86, 42)] rfl (by decide +kernel)
set_option maxRecDepth 20000 in
theorem gX8_newName_X8_isWord : GoodIn wsX8_newName (wsV RX8 114 RX8 yX8_isWord wsX8_isWord) := goodIn_s _ [(7, 5), (1, 2), (4, 1), (6, 1), (12, 49), (89, 40)] rfl (by decide +kernel)
set_option maxRecDepth 20000 in
theorem gX8_newName_X8_wrong : GoodIn wsX8_newName (wsV RX8 124 RX8 yX8_wrong wsX8_wrong) := goodIn_s _ [(61, 3), (10, 1), (64, 1), (1, 1), (65, 2), (89, 40)] rfl (by decide +kernel)
set_option maxRecDepth 20000 in
theorem gX8_newName_X8_isKnown : GoodIn wsX8_newName (wsV RX8 138 RX8 yX8_isKnown wsX8_isKnown) := goodIn_s _ [(67, 3), (10, 1), (70, 1), (5, 1), (4, 1), (6, 1), (89, 40)] rfl (by decide +kernel)
set_option maxRecDepth 20000 in
theorem gX8_newName_X8_next : GoodIn wsX8_newName (wsV RX8 118 RX8 yX8_next wsX8_next) := goodIn_s _ [(71, 3), (10, 1), (74, 2), (3, 2), (76, 1), (2, 1), (6, 1), (77, 3), (10, 1), (80, 49)] rfl (by decide +kernel)
set_option maxRecDepth 20000 in
theorem gX8_pass_X8_next : GoodIn wsX8_pass (wsV RX8 118 RX8 yX8_next wsX8_next) := goodIn_s _ [(2, 14), (5, 1), (16, 49)] rfl (by decide +kernel)
set_option maxRecDepth 20000 in
theorem gX8_numberHere_X8_wrong : GoodIn wsX8_numberHere (wsV RX8 124 RX8 yX8_wrong wsX8_wrong) := goodIn_s _ [(5, 5), (1, 1), (10, 2), (15, 40)] rfl (by decide +kernel)
set_option maxRecDepth 20000 in
theorem gX8_numberHere_X8_in : GoodIn wsX8_numberHere (va_wsS RX8 142 yX8_in wsX8_in) := goodIn_s _ [(12, 2), (8, 1), (14, 1)] rfl (by decide +kernel)
set_option maxRecDepth 20000 in
theorem gX8_number_X8_numberHere : GoodIn wsX8_number (wsV RX8 146 RX8 yX8_numberHere wsX8_numberHere) := goodIn_s _ [(1, 12), (4, 1), (13, 6), (42, 40)] rfl (by decide +kernel)
set_option maxRecDepth 20000 in
theorem gX8_number_X8_pass : GoodIn wsX8_number (wsV RX8 150 RX8 yX8_pass wsX8_pass) := goodIn_s _ [(19, 3), (4, 1), (22, 1), (6, 1), (23, 3), (4, 1), (26, 2), (8, 1), (28, 1), (9, 1), (7, 1), (29, 53)] rfl (by decide +kernel)
set_option maxRecDepth 20000 in
theorem gX8_after_X8_must : GoodIn wsX8_after (wsV RX8 153 RX8 yX8_must wsX8_must) := goodIn_s _ [(1, 10), (4, 1), (11, 81), (107, 40)] rfl (by decide +kernel)
set_option maxRecDepth 20000 in
theorem gX8_after_X8_number : GoodIn wsX8_after (wsV RX8 157 RX8 yX8_number wsX8_number) := goodIn_s _ [(92, 3), (4, 1), (95, 4), (4, 1), (99, 1), (6, 1), (16, 1), (7, 1), (73, 1), (86, 6), (100, 7), (68, 5), (17, 2), (74, 12), (107, 40)] rfl (by decide +kernel)
set_option maxRecDepth 20000 in
theorem gX8_gallery_X8_good : GoodIn wsX8_gallery (wsV RX8 160 RX8 yX8_good wsX8_good) := goodIn_s _ [(14, 7), (171, 40)] rfl (by decide +kernel)
set_option maxRecDepth 20000 in
theorem gX8_gallery_X8_in : GoodIn wsX8_gallery (va_wsS RX8 142 yX8_in wsX8_in) := goodIn_s _ [(21, 2), (17, 1), (23, 1)] rfl (by decide +kernel)
set_option maxRecDepth 20000 in
theorem gX8_gallery_X8_no : GoodIn wsX8_gallery (wsV RX8 163 RX8 yX8_no wsX8_no) := goodIn_s _ [(24, 3), (17, 1), (27, 1), (20, 1), (171, 40)] rfl (by decide +kernel)
set_option maxRecDepth 20000 in
theorem gX8_gallery_X8_next : GoodIn wsX8_gallery (wsV RX8 118 RX8 yX8_next wsX8_next) := goodIn_s _ [(28, 3), (17, 1), (31, 1), (6, 1), (8, 1), (32, 2), (7, 1), (34, 4), (17, 1), (38, 1), (5, 1), (39, 7), (171, 40)] rfl (by decide +kernel)
set_option maxRecDepth 20000 in
theorem gX8_gallery_X8_readLine : GoodIn wsX8_gallery (wsV RX8 166 RX8 yX8_readLine wsX8_readLine) := goodIn_s _ [(46, 3), (17, 1), (49, 1), (4, 1), (8, 1), (50, 3), (17, 1), (53, 1), (3, 1), (7, 1), (32, 1), (34, 1), (54, 57), (2, 1), (111, 1), (28, 4), (6, 1), (33, 1), (35, 4), (5, 1), (39, 7), (112, 20), (21, 3), (132, 36), (171, 40)] rfl (by decide +kernel)
set_option maxRecDepth 20000 in
theorem gX8_gallery_X8_wrong : GoodIn wsX8_gallery (wsV RX8 124 RX8 yX8_wrong wsX8_wrong) := goodIn_s _ [(107, 3), (17, 1), (110, 1), (3, 1), (2, 1), (111, 1), (171, 40)] rfl (by decide +kernel)
set_option maxRecDepth 20000 in
theorem gX8_gallery_X8_copy : GoodIn wsX8_gallery (va_wsS RX8 169 yX8_copy wsX8_copy) := goodIn_s _ [(168, 2), (17, 1), (170, 1)] rfl (by decide +kernel)
set_option maxRecDepth 20000 in
theorem gX8_begins_X8_isWord : GoodIn wsX8_begins (wsV RX8 114 RX8 yX8_isWord wsX8_isWord) := goodIn_s _ [(3, 58), (89, 40)] rfl (by decide +kernel)
set_option maxRecDepth 20000 in
theorem gX8_begins_X8_wrong : GoodIn wsX8_begins (wsV RX8 124 RX8 yX8_wrong wsX8_wrong) := goodIn_s _ [(61, 3), (6, 1), (64, 1), (8, 1), (65, 2), (89, 40)] rfl (by decide +kernel)
set_option maxRecDepth 20000 in
theorem gX8_begins_X8_pass : GoodIn wsX8_begins (wsV RX8 150 RX8 yX8_pass wsX8_pass) := goodIn_s _ [(67, 3), (6, 1), (70, 1), (8, 1), (71, 3), (6, 1), (74, 2), (1, 1), (10, 1), (76, 1), (9, 1), (11, 1), (77, 52)] rfl (by decide +kernel)
end P306_good
section P306_good_1
set_option maxRecDepth 20000 in
theorem gX8_readLine_X8_isWord : GoodIn wsX8_readLine (wsV RX8 114 RX8 yX8_isWord wsX8_isWord) := goodIn_s _ [(3, 58), (148, 40)] rfl (by decide +kernel)
set_option maxRecDepth 20000 in
theorem gX8_readLine_X8_galleryLine : GoodIn wsX8_readLine (wsV RX8 182 RX8 yX8_galleryLine wsX8_galleryLine) := goodIn_s _ [(61, 3), (6, 1), (64, 1), (1, 2), (8, 1), (65, 3), (6, 1), (68, 8), (10, 1), (76, 1), (9, 1), (11, 1), (77, 24), (3, 3), (7, 1), (12, 49), (101, 15), (148, 40)] rfl (by decide +kernel)
set_option maxRecDepth 20000 in
theorem gX8_readLine_X8_lawLine : GoodIn wsX8_readLine (wsV RX8 185 RX8 yX8_lawLine wsX8_lawLine) := goodIn_s _ [(116, 3), (6, 1), (119, 1), (1, 2), (8, 1), (65, 3), (6, 1), (68, 8), (10, 1), (76, 1), (9, 1), (11, 1), (77, 12), (120, 4), (89, 12), (3, 3), (7, 1), (12, 49), (101, 15), (148, 40)] rfl (by decide +kernel)
set_option maxRecDepth 20000 in
theorem gX8_readLine_X8_begins : GoodIn wsX8_readLine (wsV RX8 188 RX8 yX8_begins wsX8_begins) := goodIn_s _ [(124, 3), (6, 1), (127, 1), (2, 1), (1, 1), (3, 58), (65, 6), (112, 4), (71, 18), (148, 40)] rfl (by decide +kernel)
set_option maxRecDepth 20000 in
theorem gX8_readLine_X8_figureLine : GoodIn wsX8_readLine (wsV RX8 192 RX8 yX8_figureLine wsX8_figureLine) := goodIn_s _ [(128, 3), (6, 1), (131, 1), (8, 1), (1, 2), (132, 3), (6, 1), (135, 1), (9, 3), (3, 3), (7, 1), (12, 49), (65, 6), (136, 4), (71, 18), (93, 8), (120, 4), (105, 11), (101, 4), (148, 40)] rfl (by decide +kernel)
set_option maxRecDepth 20000 in
theorem gX8_readLine_X8_watcherLine : GoodIn wsX8_readLine (wsV RX8 195 RX8 yX8_watcherLine wsX8_watcherLine) := goodIn_s _ [(140, 3), (6, 1), (143, 1), (8, 1), (1, 1), (132, 3), (6, 1), (135, 1), (9, 1), (2, 1), (10, 2), (3, 3), (7, 1), (12, 49), (65, 6), (136, 4), (71, 18), (120, 4), (89, 27), (148, 40)] rfl (by decide +kernel)
set_option maxRecDepth 20000 in
theorem gX8_readLine_X8_seenLine : GoodIn wsX8_readLine (wsV RX8 198 RX8 yX8_seenLine wsX8_seenLine) := goodIn_s _ [(144, 3), (6, 1), (147, 1), (8, 1), (1, 2), (120, 3), (6, 1), (123, 1), (101, 8), (9, 1), (76, 1), (65, 6), (109, 7), (71, 5), (10, 2), (77, 12), (93, 8), (3, 3), (7, 1), (12, 49), (148, 40)] rfl (by decide +kernel)
set_option maxRecDepth 20000 in
theorem gX8_readLine_X8_wrong : GoodIn wsX8_readLine (wsV RX8 124 RX8 yX8_wrong wsX8_wrong) := goodIn_s _ [(65, 3), (6, 1), (68, 1), (8, 1), (69, 2), (148, 40)] rfl (by decide +kernel)
set_option maxRecDepth 20000 in
theorem gX8_galleryLine_X8_wrong : GoodIn wsX8_galleryLine (wsV RX8 124 RX8 yX8_wrong wsX8_wrong) := goodIn_s _ [(4, 5), (3, 1), (9, 2), (112, 40)] rfl (by decide +kernel)
set_option maxRecDepth 20000 in
theorem gX8_galleryLine_X8_next : GoodIn wsX8_galleryLine (wsV RX8 118 RX8 yX8_next wsX8_next) := goodIn_s _ [(11, 3), (7, 1), (14, 2), (2, 1), (16, 7), (7, 1), (23, 9), (112, 40)] rfl (by decide +kernel)
set_option maxRecDepth 20000 in
theorem gX8_galleryLine_X8_after : GoodIn wsX8_galleryLine (wsV RX8 203 RX8 yX8_after wsX8_after) := goodIn_s _ [(32, 3), (7, 1), (35, 4), (7, 1), (39, 1), (3, 1), (2, 1), (40, 8), (18, 1), (16, 1), (19, 1), (48, 49), (11, 5), (17, 1), (20, 12), (4, 3), (8, 3), (97, 55)] rfl (by decide +kernel)
set_option maxRecDepth 20000 in
theorem gX8_lawLine_X8_wrong : GoodIn wsX8_lawLine (wsV RX8 124 RX8 yX8_wrong wsX8_wrong) := goodIn_s _ [(4, 5), (3, 1), (9, 2), (116, 40)] rfl (by decide +kernel)
set_option maxRecDepth 20000 in
theorem gX8_lawLine_X8_next : GoodIn wsX8_lawLine (wsV RX8 118 RX8 yX8_next wsX8_next) := goodIn_s _ [(11, 3), (7, 1), (14, 2), (2, 1), (16, 7), (7, 1), (23, 9), (116, 40)] rfl (by decide +kernel)
set_option maxRecDepth 20000 in
theorem gX8_lawLine_X8_last : GoodIn wsX8_lawLine (wsV RX8 215 RX8 yX8_last wsX8_last) := goodIn_s _ [(32, 3), (7, 1), (35, 1), (1, 1), (116, 40)] rfl (by decide +kernel)
set_option maxRecDepth 20000 in
theorem gX8_lawLine_X8_after : GoodIn wsX8_lawLine (wsV RX8 203 RX8 yX8_after wsX8_after) := goodIn_s _ [(36, 3), (7, 1), (39, 4), (7, 1), (43, 1), (3, 1), (2, 1), (44, 8), (18, 1), (16, 1), (19, 1), (52, 49), (11, 5), (17, 1), (20, 12), (4, 3), (8, 3), (101, 55)] rfl (by decide +kernel)
set_option maxRecDepth 20000 in
theorem gX8_figureLine_X8_newName : GoodIn wsX8_figureLine (wsV RX8 222 RX8 yX8_newName wsX8_newName) := goodIn_s _ [(4, 5), (1, 1), (9, 1), (3, 1), (10, 1), (2, 1), (11, 4), (7, 1), (15, 78), (120, 40)] rfl (by decide +kernel)
set_option maxRecDepth 20000 in
theorem gX8_figureLine_X8_must : GoodIn wsX8_figureLine (wsV RX8 153 RX8 yX8_must wsX8_must) := goodIn_s _ [(93, 3), (7, 1), (96, 1), (1, 1), (3, 1), (97, 3), (7, 1), (100, 1), (12, 4), (9, 3), (16, 49), (75, 18), (65, 6), (120, 40)] rfl (by decide +kernel)
set_option maxRecDepth 20000 in
theorem gX8_figureLine_X8_last : GoodIn wsX8_figureLine (wsV RX8 215 RX8 yX8_last wsX8_last) := goodIn_s _ [(101, 3), (7, 1), (104, 1), (2, 1), (120, 40)] rfl (by decide +kernel)
set_option maxRecDepth 20000 in
theorem gX8_figureLine_X8_numberHere : GoodIn wsX8_figureLine (wsV RX8 146 RX8 yX8_numberHere wsX8_numberHere) := goodIn_s _ [(105, 3), (7, 1), (108, 1), (1, 1), (9, 1), (3, 1), (80, 1), (65, 3), (7, 1), (68, 3), (109, 3), (120, 40)] rfl (by decide +kernel)
set_option maxRecDepth 20000 in
theorem gX8_figureLine_X8_wrong : GoodIn wsX8_figureLine (wsV RX8 124 RX8 yX8_wrong wsX8_wrong) := goodIn_s _ [(65, 3), (7, 1), (68, 1), (1, 1), (69, 2), (120, 40)] rfl (by decide +kernel)
set_option maxRecDepth 20000 in
theorem gX8_figureLine_X8_pass : GoodIn wsX8_figureLine (wsV RX8 150 RX8 yX8_pass wsX8_pass) := goodIn_s _ [(112, 3), (7, 1), (115, 1), (1, 1), (75, 3), (7, 1), (78, 2), (3, 1), (10, 1), (80, 1), (9, 1), (11, 1), (81, 12), (120, 40)] rfl (by decide +kernel)
set_option maxRecDepth 20000 in
theorem gX8_figureLine_X8_isWord : GoodIn wsX8_figureLine (wsV RX8 114 RX8 yX8_isWord wsX8_isWord) := goodIn_s _ [(12, 3), (7, 1), (15, 1), (1, 1), (9, 3), (16, 49), (120, 40)] rfl (by decide +kernel)
set_option maxRecDepth 20000 in
theorem gX8_figureLine_X8_number : GoodIn wsX8_figureLine (wsV RX8 157 RX8 yX8_number wsX8_number) := goodIn_s _ [(116, 3), (7, 1), (119, 1), (105, 3), (7, 1), (108, 1), (1, 1), (9, 1), (3, 1), (80, 1), (65, 6), (109, 7), (75, 5), (10, 2), (81, 12), (120, 40)] rfl (by decide +kernel)
set_option maxRecDepth 20000 in
theorem gX8_watcherLine_X8_newName : GoodIn wsX8_watcherLine (wsV RX8 222 RX8 yX8_newName wsX8_newName) := goodIn_s _ [(3, 5), (1, 1), (8, 3), (2, 1), (11, 4), (6, 1), (15, 78), (124, 40)] rfl (by decide +kernel)
set_option maxRecDepth 20000 in
theorem gX8_watcherLine_X8_last : GoodIn wsX8_watcherLine (wsV RX8 215 RX8 yX8_last wsX8_last) := goodIn_s _ [(93, 3), (6, 1), (96, 1), (2, 1), (124, 40)] rfl (by decide +kernel)
set_option maxRecDepth 20000 in
theorem gX8_watcherLine_X8_after : GoodIn wsX8_watcherLine (wsV RX8 203 RX8 yX8_after wsX8_after) := goodIn_s _ [(97, 3), (6, 1), (100, 4), (6, 1), (104, 1), (1, 1), (9, 1), (105, 4), (12, 4), (8, 1), (10, 2), (16, 49), (75, 18), (65, 6), (109, 55)] rfl (by decide +kernel)
set_option maxRecDepth 20000 in
theorem gX8_seenLine_X8_last : GoodIn wsX8_seenLine (wsV RX8 215 RX8 yX8_last wsX8_last) := goodIn_s _ [(4, 5), (2, 1), (112, 40)] rfl (by decide +kernel)
set_option maxRecDepth 20000 in
theorem gX8_seenLine_X8_number : GoodIn wsX8_seenLine (wsV RX8 157 RX8 yX8_number wsX8_number) := goodIn_s _ [(9, 3), (7, 1), (12, 4), (7, 1), (16, 1), (1, 1), (17, 1), (3, 1), (18, 33), (112, 40)] rfl (by decide +kernel)
set_option maxRecDepth 20000 in
theorem gX8_seenLine_X8_must : GoodIn wsX8_seenLine (wsV RX8 153 RX8 yX8_must wsX8_must) := goodIn_s _ [(51, 3), (7, 1), (54, 1), (1, 1), (3, 1), (55, 3), (7, 1), (58, 5), (17, 1), (37, 2), (63, 49), (32, 5), (18, 1), (39, 12), (19, 6), (112, 40)] rfl (by decide +kernel)
set_option maxRecDepth 20000 in
theorem gX8_seenLine_X8_numberHere : GoodIn wsX8_seenLine (wsV RX8 146 RX8 yX8_numberHere wsX8_numberHere) := goodIn_s _ [(13, 3), (7, 1), (16, 1), (1, 1), (17, 1), (3, 1), (18, 4), (7, 1), (22, 6), (112, 40)] rfl (by decide +kernel)
set_option maxRecDepth 20000 in
theorem gX8_seenLine_X8_wrong : GoodIn wsX8_seenLine (wsV RX8 124 RX8 yX8_wrong wsX8_wrong) := goodIn_s _ [(19, 3), (7, 1), (22, 1), (1, 1), (23, 2), (112, 40)] rfl (by decide +kernel)
set_option maxRecDepth 20000 in
theorem gX8_seenLine_X8_pass : GoodIn wsX8_seenLine (wsV RX8 150 RX8 yX8_pass wsX8_pass) := goodIn_s _ [(28, 3), (7, 1), (31, 1), (1, 1), (32, 3), (7, 1), (35, 2), (3, 1), (37, 1), (18, 1), (17, 1), (38, 13), (112, 40)] rfl (by decide +kernel)
end P306_good_1
section P311_00_f
set_option maxHeartbeats 4000000 in
set_option maxRecDepth 100000 in
theorem f_X7_within (l : Launch) (dC : Nat → ClassId) (dI : Nat → Nat → Nat) (sz : Nat) (a1 : Int32) (a2 : Int32) (a3 : Int32)  : zm l yX7_within wsX7_within ({ frames := 0, cells := 0, slots := 0, locals := 0 }) [.int a1, .int a2, .int a3] dC dI sz [] [] (fun A _ => True) (fun A => va_Qi (fun (r : Int32) (_ : Unit) => ((r = 1 ∧ a2.toInt ≤ a1.toInt ∧ a1.toInt ≤ a3.toInt) ∨ (r = 0 ∧ (a1.toInt < a2.toInt ∨ a3.toInt < a1.toInt))) ∧ r.toInt = Ff_X7_within a1.toInt a2.toInt a3.toInt) (fun (_ : Unit) (t : State) => ax_B dC dI A [] [] t) A) := by
  refine zh (cc := cX7_within) (maxL := 3) (ret := (some .boolean)) zn_RX7 rfl (Nat.le_of_ble_eq_true rfl) (fun p e s m below meth c A ls hx hb hml hr hts (hown : s.vm.findClass RX7 = some m.cls) hlocks hA hS hP hK hD hE (hl : lv_has ls 3 [(0, .int a1), (1, .int a2), (2, .int a3)]) => ?_)
  generalize hFX : Ff_X7_within a1.toInt a2.toInt a3.toInt = FX at ⊢
  have hF0 := hFX.symm.trans (Ff_X7_within.eq_1 a1.toInt a2.toInt a3.toInt)
  refine lv_iload_n hx hb dX7_within_0 rfl (lv_at hl 0 rfl) ?_
  refine lv_iload_n hx hb dX7_within_1 rfl (lv_at hl 1 rfl) ?_
  refine lv_icmp_lt (tgt := 14) hx hb dX7_within_2 (by decide) (fun c2 => ?_) (fun c2 => ?_)
  · have gc2 := ai_lt c2
    have u2t_a1 : a1.toInt ≤ (2147483646 : Int) := ai_lthi gc2 (ai_max a2)
    have l2t_a2 : (-2147483647 : Int) ≤ a2.toInt := ai_ltlo gc2 (ai_min a1)
    have hF0 := hF0.trans (if_pos (show a1.toInt < a2.toInt from gc2))
    refine lv_iconst (v := 0) hx hb dX7_within_14 zk_iconst_0 ?_
    have hFe : FX = 0 := hF0
    exact W.zret (v := 0) hx hb hr rfl (fun t ht hW => ⟨⟨0, (), rfl, ⟨(Or.inr ⟨rfl, Or.inl gc2⟩), hFe.symm⟩, by rw [ht]; exact hP, va_K.moved hW.alike hK, hD⟩, hS.F ht⟩) hS.2.2 dX7_within_15
  · have gc2 := ai_nlt c2
    have hF0 := hF0.trans (if_neg (show ¬ (a1.toInt < a2.toInt) from Int.not_lt.mpr gc2))
    refine lv_iload_n hx hb dX7_within_5 rfl (lv_at hl 0 rfl) ?_
    refine lv_iload_n hx hb dX7_within_6 rfl (lv_at hl 2 rfl) ?_
    refine lv_icmp_gt (tgt := 14) hx hb dX7_within_7 (by decide) (fun c7 => ?_) (fun c7 => ?_)
    · have gc7 := ai_lt c7
      have u7t_a3 : a3.toInt ≤ (2147483646 : Int) := ai_lthi gc7 (ai_max a1)
      have l7t_a1 : (-2147483647 : Int) ≤ a1.toInt := ai_ltlo gc7 (ai_min a3)
      have hF0 := hF0.trans (if_pos (show a3.toInt < a1.toInt from gc7))
      refine lv_iconst (v := 0) hx hb dX7_within_14 zk_iconst_0 ?_
      have hFe : FX = 0 := hF0
      exact W.zret (v := 0) hx hb hr rfl (fun t ht hW => ⟨⟨0, (), rfl, ⟨(Or.inr ⟨rfl, Or.inr gc7⟩), hFe.symm⟩, by rw [ht]; exact hP, va_K.moved hW.alike hK, hD⟩, hS.F ht⟩) hS.2.2 dX7_within_15
    · have gc7 := ai_nlt c7
      have hF0 := hF0.trans (if_neg (show ¬ (a3.toInt < a1.toInt) from Int.not_lt.mpr gc7))
      refine lv_iconst (v := 1) hx hb dX7_within_10 zk_iconst_1 ?_
      refine lv_goto (tgt := 15) hx hb dX7_within_11 (by decide) ?_
      have hFe : FX = 1 := hF0
      exact W.zret (v := 1) hx hb hr rfl (fun t ht hW => ⟨⟨1, (), rfl, ⟨(Or.inl ⟨rfl, gc2, gc7⟩), hFe.symm⟩, by rw [ht]; exact hP, va_K.moved hW.alike hK, hD⟩, hS.F ht⟩) hS.2.2 dX7_within_15

set_option maxHeartbeats 4000000 in
set_option maxRecDepth 100000 in
theorem f_X7_hasBit (l : Launch) (dC : Nat → ClassId) (dI : Nat → Nat → Nat) (sz : Nat) (a1 : Int32) (a2 : Int32)  : zm l yX7_hasBit wsX7_hasBit ({ frames := 0, cells := 0, slots := 0, locals := 0 }) [.int a1, .int a2] dC dI sz [] [] (fun A _ => True) (fun A => va_Qi (fun (r : Int32) (_ : Unit) => ((r = 1) ∨ (r = 0)) ∧ r.toInt = Ff_X7_hasBit a1.toInt a2.toInt) (fun (_ : Unit) (t : State) => ax_B dC dI A [] [] t) A) := by
  refine zh (cc := cX7_hasBit) (maxL := 2) (ret := (some .boolean)) zn_RX7 rfl (Nat.le_of_ble_eq_true rfl) (fun p e s m below meth c A ls hx hb hml hr hts (hown : s.vm.findClass RX7 = some m.cls) hlocks hA hS hP hK hD hE (hl : lv_has ls 2 [(0, .int a1), (1, .int a2)]) => ?_)
  generalize hFX : Ff_X7_hasBit a1.toInt a2.toInt = FX at ⊢
  have hF0 := hFX.symm.trans (Ff_X7_hasBit.eq_1 a1.toInt a2.toInt)
  refine lv_iload_n hx hb dX7_hasBit_0 rfl (lv_at hl 0 rfl) ?_
  refine lv_iload_n hx hb dX7_hasBit_1 rfl (lv_at hl 1 rfl) ?_
  refine lv_ishr hx hb dX7_hasBit_2 ?_
  refine lv_topi (fun x2 ex2 => ?_)
  have fqx2 := fl_shr_eq ex2
  have hF0 := hF0.trans (fl_lt_eq (show x2.toInt = fl_shr a1.toInt a2.toInt from fqx2))
  refine lv_iconst (v := 1) hx hb dX7_hasBit_3 zk_iconst_1 ?_
  refine lv_iand hx hb dX7_hasBit_4 ?_
  refine lv_topi (fun x4 ex4 => ?_)
  have fqx4 := fl_and_eq ex4
  have hF0 := hF0.trans (fl_lt_eq (show x4.toInt = fl_and x2.toInt 1 from fqx4))
  refine lv_iconst (v := 1) hx hb dX7_hasBit_5 zk_iconst_1 ?_
  refine lv_icmp_ne (tgt := 13) hx hb dX7_hasBit_6 (by decide) (fun c6 => ?_) (fun c6 => ?_)
  · have gc6 := ai_ne c6
    have hF0 := hF0.trans (if_neg (show ¬ (x4.toInt = 1) from  gc6))
    refine lv_iconst (v := 0) hx hb dX7_hasBit_13 zk_iconst_0 ?_
    have hFe : FX = 0 := hF0
    exact W.zret (v := 0) hx hb hr rfl (fun t ht hW => ⟨⟨0, (), rfl, ⟨(Or.inr (rfl)), hFe.symm⟩, by rw [ht]; exact hP, va_K.moved hW.alike hK, hD⟩, hS.F ht⟩) hS.2.2 dX7_hasBit_14
  · have gc6 := ai_eq c6
    have u6f_x4 : x4.toInt ≤ (1 : Int) := Int.le_trans (Int.le_of_eq gc6) zq0
    have l6f_x4 : (1 : Int) ≤ x4.toInt := Int.le_trans zq1 (Int.le_of_eq gc6.symm)
    have hF0 := hF0.trans (if_pos (show x4.toInt = 1 from gc6))
    refine lv_iconst (v := 1) hx hb dX7_hasBit_9 zk_iconst_1 ?_
    refine lv_goto (tgt := 14) hx hb dX7_hasBit_10 (by decide) ?_
    have hFe : FX = 1 := hF0
    exact W.zret (v := 1) hx hb hr rfl (fun t ht hW => ⟨⟨1, (), rfl, ⟨(Or.inl (rfl)), hFe.symm⟩, by rw [ht]; exact hP, va_K.moved hW.alike hK, hD⟩, hS.F ht⟩) hS.2.2 dX7_hasBit_14

set_option maxHeartbeats 4000000 in
set_option maxRecDepth 100000 in
theorem f_J6_bitCount_0f7a4 (l : Launch) (dC : Nat → ClassId) (dI : Nat → Nat → Nat) (sz : Nat) (a1 : Int32)  : zm l yJ6_bitCount_0f7a4 wsJ6_bitCount_0f7a4 ({ frames := 0, cells := 0, slots := 0, locals := 0 }) [.int a1] dC dI sz [] [] (fun A _ => True) (fun A => va_Qi (fun (r : Int32) (_ : Unit) => (True) ∧ r.toInt = Ff_J6_bitCount_0f7a4 a1.toInt) (fun (_ : Unit) (t : State) => ax_B dC dI A [] [] t) A) := by
  refine zh (cc := cJ6_bitCount_0f7a4) (maxL := 1) (ret := (some .int)) zn_RJ6 rfl (Nat.le_of_ble_eq_true rfl) (fun p e s m below meth c A ls hx hb hml hr hts (hown : s.vm.findClass RJ6 = some m.cls) hlocks hA hS hP hK hD hE (hl : lv_has ls 1 [(0, .int a1)]) => ?_)
  generalize hFX : Ff_J6_bitCount_0f7a4 a1.toInt = FX at ⊢
  have hF0 := hFX.symm.trans (Ff_J6_bitCount_0f7a4.eq_1 a1.toInt)
  refine lv_iload_n hx hb dJ6_bitCount_0f7a4_0 rfl (lv_at hl 0 rfl) ?_
  refine lv_iload_n hx hb dJ6_bitCount_0f7a4_1 rfl (lv_at hl 0 rfl) ?_
  refine lv_iconst (v := 1) hx hb dJ6_bitCount_0f7a4_2 zk_iconst_1 ?_
  refine lv_iushr hx hb dJ6_bitCount_0f7a4_3 rfl ?_
  refine lv_topi (fun x3 ex3 => ?_)
  have fqx3 := fl_ushr_eq ex3
  have hF0 := hF0.trans (fl_lt_eq (show x3.toInt = fl_ushr a1.toInt 1 from fqx3))
  refine lv_ldcw (v := 1431655765) hx hb hown (hts (.constant RJ6 265 (1431655765)) (List.mem_cons_of_mem _ (List.mem_of_getElem? (i := 0) rfl))) dJ6_bitCount_0f7a4_4 ?_
  refine lv_iand hx hb dJ6_bitCount_0f7a4_7 ?_
  refine lv_topi (fun x7 ex7 => ?_)
  have fqx7 := fl_and_eq ex7
  have hF0 := hF0.trans (fl_lt_eq (show x7.toInt = fl_and x3.toInt 1431655765 from fqx7))
  refine lv_isub hx hb dJ6_bitCount_0f7a4_8 ?_
  refine lv_topi (fun x8 ex8 => ?_)
  have fqx8 := fl_isub_eq ex8
  have hF0 := hF0.trans (fl_lt_eq (show x8.toInt = fl_isub a1.toInt x7.toInt from fqx8))
  refine lv_istore_n (lv' := [(0, .int x8)]) hx hb dJ6_bitCount_0f7a4_9 rfl hl (by decide) rfl (fun ls hl => ?_)
  refine lv_iload_n hx hb dJ6_bitCount_0f7a4_10 rfl (lv_at hl 0 rfl) ?_
  refine lv_ldcw (v := 858993459) hx hb hown (hts (.constant RJ6 266 (858993459)) (List.mem_cons_of_mem _ (List.mem_of_getElem? (i := 1) rfl))) dJ6_bitCount_0f7a4_11 ?_
  refine lv_iand hx hb dJ6_bitCount_0f7a4_14 ?_
  refine lv_topi (fun x14 ex14 => ?_)
  have fqx14 := fl_and_eq ex14
  have hF0 := hF0.trans (fl_lt_eq (show x14.toInt = fl_and x8.toInt 858993459 from fqx14))
  refine lv_iload_n hx hb dJ6_bitCount_0f7a4_15 rfl (lv_at hl 0 rfl) ?_
  refine lv_iconst (v := 2) hx hb dJ6_bitCount_0f7a4_16 zk_iconst_2 ?_
  refine lv_iushr hx hb dJ6_bitCount_0f7a4_17 rfl ?_
  refine lv_topi (fun x17 ex17 => ?_)
  have fqx17 := fl_ushr_eq ex17
  have hF0 := hF0.trans (fl_lt_eq (show x17.toInt = fl_ushr x8.toInt 2 from fqx17))
  refine lv_ldcw (v := 858993459) hx hb hown (hts (.constant RJ6 266 (858993459)) (List.mem_cons_of_mem _ (List.mem_of_getElem? (i := 1) rfl))) dJ6_bitCount_0f7a4_18 ?_
  refine lv_iand hx hb dJ6_bitCount_0f7a4_21 ?_
  refine lv_topi (fun x21 ex21 => ?_)
  have fqx21 := fl_and_eq ex21
  have hF0 := hF0.trans (fl_lt_eq (show x21.toInt = fl_and x17.toInt 858993459 from fqx21))
  refine lv_iadd hx hb dJ6_bitCount_0f7a4_22 ?_
  refine lv_topi (fun x22 ex22 => ?_)
  have fqx22 := fl_iadd_eq ex22
  have hF0 := hF0.trans (fl_lt_eq (show x22.toInt = fl_iadd x14.toInt x21.toInt from fqx22))
  refine lv_istore_n (lv' := [(0, .int x22)]) hx hb dJ6_bitCount_0f7a4_23 rfl hl (by decide) rfl (fun ls hl => ?_)
  refine lv_iload_n hx hb dJ6_bitCount_0f7a4_24 rfl (lv_at hl 0 rfl) ?_
  refine lv_iload_n hx hb dJ6_bitCount_0f7a4_25 rfl (lv_at hl 0 rfl) ?_
  refine lv_iconst (v := 4) hx hb dJ6_bitCount_0f7a4_26 zk_iconst_4 ?_
  refine lv_iushr hx hb dJ6_bitCount_0f7a4_27 rfl ?_
  refine lv_topi (fun x27 ex27 => ?_)
  have fqx27 := fl_ushr_eq ex27
  have hF0 := hF0.trans (fl_lt_eq (show x27.toInt = fl_ushr x22.toInt 4 from fqx27))
  refine lv_iadd hx hb dJ6_bitCount_0f7a4_28 ?_
  refine lv_topi (fun x28 ex28 => ?_)
  have fqx28 := fl_iadd_eq ex28
  have hF0 := hF0.trans (fl_lt_eq (show x28.toInt = fl_iadd x22.toInt x27.toInt from fqx28))
  refine lv_ldcw (v := 252645135) hx hb hown (hts (.constant RJ6 267 (252645135)) (List.mem_cons_of_mem _ (List.mem_of_getElem? (i := 2) rfl))) dJ6_bitCount_0f7a4_29 ?_
  refine lv_iand hx hb dJ6_bitCount_0f7a4_32 ?_
  refine lv_topi (fun x32 ex32 => ?_)
  have fqx32 := fl_and_eq ex32
  have hF0 := hF0.trans (fl_lt_eq (show x32.toInt = fl_and x28.toInt 252645135 from fqx32))
  refine lv_istore_n (lv' := [(0, .int x32)]) hx hb dJ6_bitCount_0f7a4_33 rfl hl (by decide) rfl (fun ls hl => ?_)
  refine lv_iload_n hx hb dJ6_bitCount_0f7a4_34 rfl (lv_at hl 0 rfl) ?_
  refine lv_iload_n hx hb dJ6_bitCount_0f7a4_35 rfl (lv_at hl 0 rfl) ?_
  refine lv_bipush (v := 8) hx hb dJ6_bitCount_0f7a4_36 zk_bipush_8 ?_
  refine lv_iushr hx hb dJ6_bitCount_0f7a4_38 rfl ?_
  refine lv_topi (fun x38 ex38 => ?_)
  have fqx38 := fl_ushr_eq ex38
  have hF0 := hF0.trans (fl_lt_eq (show x38.toInt = fl_ushr x32.toInt 8 from fqx38))
  refine lv_iadd hx hb dJ6_bitCount_0f7a4_39 ?_
  refine lv_topi (fun x39 ex39 => ?_)
  have fqx39 := fl_iadd_eq ex39
  have hF0 := hF0.trans (fl_lt_eq (show x39.toInt = fl_iadd x32.toInt x38.toInt from fqx39))
  refine lv_istore_n (lv' := [(0, .int x39)]) hx hb dJ6_bitCount_0f7a4_40 rfl hl (by decide) rfl (fun ls hl => ?_)
  refine lv_iload_n hx hb dJ6_bitCount_0f7a4_41 rfl (lv_at hl 0 rfl) ?_
  refine lv_iload_n hx hb dJ6_bitCount_0f7a4_42 rfl (lv_at hl 0 rfl) ?_
  refine lv_bipush (v := 16) hx hb dJ6_bitCount_0f7a4_43 zk_bipush_16 ?_
  refine lv_iushr hx hb dJ6_bitCount_0f7a4_45 rfl ?_
  refine lv_topi (fun x45 ex45 => ?_)
  have fqx45 := fl_ushr_eq ex45
  have hF0 := hF0.trans (fl_lt_eq (show x45.toInt = fl_ushr x39.toInt 16 from fqx45))
  refine lv_iadd hx hb dJ6_bitCount_0f7a4_46 ?_
  refine lv_topi (fun x46 ex46 => ?_)
  have fqx46 := fl_iadd_eq ex46
  have hF0 := hF0.trans (fl_lt_eq (show x46.toInt = fl_iadd x39.toInt x45.toInt from fqx46))
  refine lv_istore_n (lv' := [(0, .int x46)]) hx hb dJ6_bitCount_0f7a4_47 rfl hl (by decide) rfl (fun ls hl => ?_)
  refine lv_iload_n hx hb dJ6_bitCount_0f7a4_48 rfl (lv_at hl 0 rfl) ?_
  refine lv_bipush (v := 63) hx hb dJ6_bitCount_0f7a4_49 zk_bipush_63 ?_
  refine lv_iand hx hb dJ6_bitCount_0f7a4_51 ?_
  refine lv_topi (fun x51 ex51 => ?_)
  have fqx51 := fl_and_eq ex51
  have hF0 := hF0.trans (fl_lt_eq (show x51.toInt = fl_and x46.toInt 63 from fqx51))
  have hFe : FX = x51.toInt := hF0
  exact W.iret (v := x51) hx hb hr (fun t ht hW => ⟨⟨x51, (), rfl, ⟨trivial, hFe.symm⟩, by rw [ht]; exact hP, va_K.moved hW.alike hK, hD⟩, hS.F ht⟩) hS.2.2 dJ6_bitCount_0f7a4_52

set_option maxHeartbeats 4000000 in
set_option maxRecDepth 100000 in
theorem f_X6_add (l : Launch) (dC : Nat → ClassId) (dI : Nat → Nat → Nat) (sz : Nat) (a0 : Nat) (a1 : Int32) (a2 : Int32) (a0_0 : Int32) (a0g_1 : Value) (a0_2 : Nat) (a0_3 : Nat) (ka0_2 : ClassId) (fa0_2 : Nat → Int32) (ka0_3 : ClassId) (fa0_3 : Nat → Int32) (ba1_l : (0 : Int) ≤ a1.toInt) (ba1_u : a1.toInt ≤ (8 : Int)) (ba2_l : (0 : Int) ≤ a2.toInt) (ba2_u : a2.toInt ≤ (8 : Int)) (ba0_0_l : (0 : Int) ≤ a0_0.toInt) (ba0_0_u : a0_0.toInt ≤ (3 : Int)) (bfa0_2 : (∀ k, (0 : Int) ≤ (fa0_2 k).toInt ∧ (fa0_2 k).toInt ≤ 80)) (bfa0_3 : (∀ k, (0 : Int) ≤ (fa0_3 k).toInt ∧ (fa0_3 k).toInt ≤ 80)) : zm l yX6_add wsX6_add ({ frames := 0, cells := 0, slots := 0, locals := 0 }) [.ref a0, .int a1, .int a2] dC dI sz [(a0, .inr (6, [.int a0_0, a0g_1, .ref a0_2, .ref a0_3])), (a0_2, .inl (ka0_2, 3, .inl (fa0_2))), (a0_3, .inl (ka0_3, 3, .inl (fa0_3)))] [(ka0_2, .int), (ka0_3, .int)] (fun A _ => True) (fun A => va_Qv (fun (_ : Unit) => True) (fun (_ : Unit) (t : State) => ∃ na0_0 : Int32, ∃ nfa0_2 : Nat → Int32, ∃ nfa0_3 : Nat → Int32, ((0 : Int) ≤ na0_0.toInt ∧ na0_0.toInt ≤ 3) ∧ (∀ k, (0 : Int) ≤ (nfa0_2 k).toInt ∧ (nfa0_2 k).toInt ≤ 80) ∧ (∀ k, (0 : Int) ≤ (nfa0_3 k).toInt ∧ (nfa0_3 k).toInt ≤ 80) ∧ (Ff_X6_add a1.toInt a2.toInt a0_0.toInt (fl_A fa0_2) (fl_A fa0_3) = (na0_0.toInt, (fl_A nfa0_2), (fl_A nfa0_3))) ∧ ax_B dC dI A [(a0, .inr (6, [.int na0_0, a0g_1, .ref a0_2, .ref a0_3])), (a0_2, .inl (ka0_2, 3, .inl (nfa0_2))), (a0_3, .inl (ka0_3, 3, .inl (nfa0_3)))] [(ka0_2, .int), (ka0_3, .int)] t) A) := by
  refine zh (cc := cX6_add) (maxL := 3) (ret := none) zn_RX6 rfl (Nat.le_of_ble_eq_true rfl) (fun p e s m below meth c A ls hx hb hml hr hts (hown : s.vm.findClass RX6 = some m.cls) hlocks hA hS hP hK hD hE (hl : lv_has ls 3 [(0, .ref a0), (1, .int a1), (2, .int a2)]) => ?_)
  generalize hFX : Ff_X6_add a1.toInt a2.toInt a0_0.toInt (fl_A fa0_2) (fl_A fa0_3) = FX at ⊢
  have hF0 := hFX.symm.trans (Ff_X6_add.eq_1 a1.toInt a2.toInt a0_0.toInt (fl_A fa0_2) (fl_A fa0_3))
  refine lv_aload_n hx hb dX6_add_0 rfl (lv_at hl 0 rfl) ?_
  refine va_get (D := (dC, dI)) (ci := 6) (v := .int a0_0) (C := RX6) (T := TX6) (N := 4) hx hb hts zi_X6_add_6 hown hK hP 0 rfl rfl 0 (by decide) (hts (.fieldLink RX6 18 "WaxTurns$Watchers" "count" "I") (List.mem_cons_of_mem _ (List.mem_append_left _ (List.mem_of_getElem? (i := 0) rfl)))) (fun _ h9 => h9) rfl dX6_add_1 ?_
  refine lv_iconst (v := 3) hx hb dX6_add_4 zk_iconst_3 ?_
  refine lv_icmp_ge (tgt := 38) hx hb dX6_add_5 (by decide) (fun c5 => ?_) (fun c5 => ?_)
  · have gc5 := ai_le c5
    have l5t_a0_0 : (3 : Int) ≤ a0_0.toInt := Int.le_trans zq8 gc5
    have hF0 := hF0.trans (if_pos (show 3 ≤ a0_0.toInt from gc5))
    have hFe : FX = (a0_0.toInt, (fl_A fa0_2), (fl_A fa0_3)) := hF0
    exact W.vret hx hb hr (fun t ht hW => ⟨⟨(), rfl, trivial, a0_0, fa0_2, fa0_3, ⟨Int.le_trans (by decide) l5t_a0_0, ba0_0_u⟩, bfa0_2, bfa0_3, hFe, by rw [ht]; exact hP, va_K.moved hW.alike hK, hD⟩, hS.F ht⟩) hS.2.2 dX6_add_38
  · have gc5 := ai_nle c5
    have u5f_a0_0 : a0_0.toInt ≤ (2 : Int) := ai_lthi gc5 zq9
    have hF0 := hF0.trans (if_neg (show ¬ (3 ≤ a0_0.toInt) from Int.not_le.mpr gc5))
    refine lv_aload_n hx hb dX6_add_8 rfl (lv_at hl 0 rfl) ?_
    refine va_get (D := (dC, dI)) (ci := 6) (v := .ref a0_2) (C := RX6) (T := TX6) (N := 4) hx hb hts zi_X6_add_6 hown hK hP 0 rfl rfl 2 (by decide) (hts (.fieldLink RX6 9 "WaxTurns$Watchers" "from" "[I") (List.mem_cons_of_mem _ (List.mem_append_left _ (List.mem_of_getElem? (i := 1) rfl)))) (fun _ h9 => h9) rfl dX6_add_9 ?_
    refine lv_aload_n hx hb dX6_add_12 rfl (lv_at hl 0 rfl) ?_
    refine va_get (D := (dC, dI)) (ci := 6) (v := .int a0_0) (C := RX6) (T := TX6) (N := 4) hx hb hts zi_X6_add_6 hown hK hP 0 rfl rfl 0 (by decide) (hts (.fieldLink RX6 18 "WaxTurns$Watchers" "count" "I") (List.mem_cons_of_mem _ (List.mem_append_left _ (List.mem_of_getElem? (i := 0) rfl)))) (fun _ h9 => h9) rfl dX6_add_13 ?_
    refine lv_iload_n hx hb dX6_add_16 rfl (lv_at hl 1 rfl) ?_
    refine va_iast hx hb hK hP hD hS 1 0 rfl rfl (ai_in ba0_0_l u5f_a0_0 (by decide) (by decide)) dX6_add_17 (fun H locs hP hD hS => ?_)
    obtain ⟨f17, ef17⟩ : ∃ g9 : Nat → Int32, g9 = upd fa0_2 (a0_0 : Int32).toNatClampNeg a1 := ⟨_, rfl⟩
    refine zs_1 (y := (a0_2, .inl (ka0_2, 3, .inl (f17)))) hP hD (by rw [ef17]) (fun hP hD => ?_)
    have bf17 : (∀ k, (0 : Int) ≤ (f17 k).toInt ∧ (f17 k).toInt ≤ 80) := by rw [ef17]; exact ai_upd bfa0_2 _ ⟨ba1_l, (Int.le_trans ba1_u zq10)⟩
    have fqf17 := fl_up_eq ef17
    have hF0 := hF0.trans (fl_lt_eq (show (fl_A f17) = fl_up (fl_A fa0_2) (a0_0.toInt.toNat) a1.toInt from fqf17))
    refine lv_aload_n hx hb dX6_add_18 rfl (lv_at hl 0 rfl) ?_
    refine va_get (D := (dC, dI)) (ci := 6) (v := .ref a0_3) (C := RX6) (T := TX6) (N := 4) hx hb hts zi_X6_add_6 hown hK hP 0 rfl rfl 3 (by decide) (hts (.fieldLink RX6 15 "WaxTurns$Watchers" "to" "[I") (List.mem_cons_of_mem _ (List.mem_append_left _ (List.mem_of_getElem? (i := 2) rfl)))) (fun _ h9 => h9) rfl dX6_add_19 ?_
    refine lv_aload_n hx hb dX6_add_22 rfl (lv_at hl 0 rfl) ?_
    refine va_get (D := (dC, dI)) (ci := 6) (v := .int a0_0) (C := RX6) (T := TX6) (N := 4) hx hb hts zi_X6_add_6 hown hK hP 0 rfl rfl 0 (by decide) (hts (.fieldLink RX6 18 "WaxTurns$Watchers" "count" "I") (List.mem_cons_of_mem _ (List.mem_append_left _ (List.mem_of_getElem? (i := 0) rfl)))) (fun _ h9 => h9) rfl dX6_add_23 ?_
    refine lv_iload_n hx hb dX6_add_26 rfl (lv_at hl 2 rfl) ?_
    refine va_iast hx hb hK hP hD hS 2 1 rfl rfl (ai_in ba0_0_l u5f_a0_0 (by decide) (by decide)) dX6_add_27 (fun H locs hP hD hS => ?_)
    obtain ⟨f27, ef27⟩ : ∃ g9 : Nat → Int32, g9 = upd fa0_3 (a0_0 : Int32).toNatClampNeg a2 := ⟨_, rfl⟩
    refine zs_2 (y := (a0_3, .inl (ka0_3, 3, .inl (f27)))) hP hD (by rw [ef27]) (fun hP hD => ?_)
    have bf27 : (∀ k, (0 : Int) ≤ (f27 k).toInt ∧ (f27 k).toInt ≤ 80) := by rw [ef27]; exact ai_upd bfa0_3 _ ⟨ba2_l, (Int.le_trans ba2_u zq10)⟩
    have fqf27 := fl_up_eq ef27
    have hF0 := hF0.trans (fl_lt_eq (show (fl_A f27) = fl_up (fl_A fa0_3) (a0_0.toInt.toNat) a2.toInt from fqf27))
    refine lv_aload_n hx hb dX6_add_28 rfl (lv_at hl 0 rfl) ?_
    refine lv_dup hx hb dX6_add_29 rfl ?_
    refine va_get (D := (dC, dI)) (ci := 6) (v := .int a0_0) (C := RX6) (T := TX6) (N := 4) hx hb hts zi_X6_add_6 hown hK hP 0 rfl rfl 0 (by decide) (hts (.fieldLink RX6 18 "WaxTurns$Watchers" "count" "I") (List.mem_cons_of_mem _ (List.mem_append_left _ (List.mem_of_getElem? (i := 0) rfl)))) (fun _ h9 => h9) rfl dX6_add_30 ?_
    refine lv_iconst (v := 1) hx hb dX6_add_33 zk_iconst_1 ?_
    refine lv_iadd hx hb dX6_add_34 ?_
    refine lv_topi (fun x34 ex34 => ?_)
    have qx34 : x34.toInt = a0_0.toInt + (1 : Int32).toInt := ai_add ex34 ⟨ba0_0_l, u5f_a0_0⟩ ⟨zq1, zq0⟩ (by decide) (by decide)
    have bx34 : (1 : Int) ≤ x34.toInt ∧ x34.toInt ≤ 3 := ⟨by rw [qx34]; exact Int.add_le_add ba0_0_l zq1, by rw [qx34]; exact Int.add_le_add u5f_a0_0 zq0⟩
    have wx34 : x34.toInt = a0_0.toInt + 1 := qx34
    have hF0 := hF0.trans (fl_lt_eq (show x34.toInt = a0_0.toInt + 1 from qx34))
    refine va_put (D := (dC, dI)) (ci := 6) (v := .int x34) (ty := .int) (C := RX6) (T := TX6) (N := 4) hx hb hts zi_X6_add_6 tyX6 tyX6_ok nmX6 hown hK hP hD hS 0 rfl rfl 0 (by decide) (hts (.fieldLink RX6 18 "WaxTurns$Watchers" "count" "I") (List.mem_cons_of_mem _ (List.mem_append_left _ (List.mem_of_getElem? (i := 0) rfl)))) (fun _ h9 => h9) rfl (tyX6_ok 0 (by decide)) rfl rfl (Nat.le_of_ble_eq_true rfl) dX6_add_35 (fun H locs hP hD hS => ?_)
    refine zs_0 (y := (a0, .inr (6, [.int x34, a0g_1, .ref a0_2, .ref a0_3]))) hP hD rfl (fun hP hD => ?_)
    have hFe : FX = (x34.toInt, (fl_A f17), (fl_A f27)) := hF0
    exact W.vret hx hb hr (fun t ht hW => ⟨⟨(), rfl, trivial, x34, f17, f27, ⟨Int.le_trans (by decide) bx34.1, bx34.2⟩, bf17, bf27, hFe, by rw [ht]; exact hP, va_K.moved hW.alike hK, hD⟩, hS.F ht⟩) hS.2.2 dX6_add_38

set_option maxHeartbeats 4000000 in
set_option maxRecDepth 100000 in
theorem f_X0_clear (l : Launch) (dC : Nat → ClassId) (dI : Nat → Nat → Nat) (sz : Nat) (a0 : Nat) (a0_0 : Int32) (a0g_1 a0g_2 a0g_3 a0g_5 a0g_6 a0g_7 a0g_12 a0g_13 : Value) (a0_4 : Int32) (a0_8 : Int32) (a0_9 : Int32) (a0_10 : Nat) (a0_11 : Nat) (a0_14 : Nat) (a0_14_0 : Int32) (a0_14g_1 a0_14g_2 a0_14g_3 : Value) (ka0_10 : ClassId) (fa0_10 : Nat → Int32) (ka0_11 : ClassId) (fa0_11 : Nat → Int32) (ba0_0_l : (0 : Int) ≤ a0_0.toInt) (ba0_0_u : a0_0.toInt ≤ (9 : Int)) (ba0_4_l : (0 : Int) ≤ a0_4.toInt) (ba0_4_u : a0_4.toInt ≤ (1 : Int)) (ba0_9_l : (0 : Int) ≤ a0_9.toInt) (ba0_9_u : a0_9.toInt ≤ (6 : Int)) (ba0_14_0_l : (0 : Int) ≤ a0_14_0.toInt) (ba0_14_0_u : a0_14_0.toInt ≤ (3 : Int)) : zm l yX0_clear wsX0_clear ({ frames := 0, cells := 0, slots := 0, locals := 0 }) [.ref a0] dC dI sz [(a0, .inr (0, [.int a0_0, a0g_1, a0g_2, a0g_3, .int a0_4, a0g_5, a0g_6, a0g_7, .int a0_8, .int a0_9, .ref a0_10, .ref a0_11, a0g_12, a0g_13, .ref a0_14])), (a0_14, .inr (6, [.int a0_14_0, a0_14g_1, a0_14g_2, a0_14g_3])), (a0_10, .inl (ka0_10, 9, .inl (fa0_10))), (a0_11, .inl (ka0_11, 9, .inl (fa0_11)))] [(ka0_10, .int), (ka0_11, .int)] (fun A _ => True) (fun A => va_Qv (fun (_ : Unit) => True) (fun (_ : Unit) (t : State) => ∃ na0_0 : Int32, ∃ na0_4 : Int32, ∃ na0_8 : Int32, ∃ na0_9 : Int32, ∃ na0_14_0 : Int32, ∃ nfa0_10 : Nat → Int32, ∃ nfa0_11 : Nat → Int32, ((0 : Int) ≤ na0_0.toInt ∧ na0_0.toInt ≤ 9) ∧ ((0 : Int) ≤ na0_4.toInt ∧ na0_4.toInt ≤ 1) ∧ ((0 : Int) ≤ na0_9.toInt ∧ na0_9.toInt ≤ 6) ∧ ((0 : Int) ≤ na0_14_0.toInt ∧ na0_14_0.toInt ≤ 3) ∧ (Ff_X0_clear (fl_A fa0_10) (fl_A fa0_11) = (na0_0.toInt, na0_4.toInt, na0_8.toInt, na0_9.toInt, na0_14_0.toInt, (fl_A nfa0_10), (fl_A nfa0_11))) ∧ ax_B dC dI A [(a0, .inr (0, [.int na0_0, a0g_1, a0g_2, a0g_3, .int na0_4, a0g_5, a0g_6, a0g_7, .int na0_8, .int na0_9, .ref a0_10, .ref a0_11, a0g_12, a0g_13, .ref a0_14])), (a0_14, .inr (6, [.int na0_14_0, a0_14g_1, a0_14g_2, a0_14g_3])), (a0_10, .inl (ka0_10, 9, .inl (nfa0_10))), (a0_11, .inl (ka0_11, 9, .inl (nfa0_11)))] [(ka0_10, .int), (ka0_11, .int)] t) A) := by
  refine zh (cc := cX0_clear) (maxL := 2) (ret := none) zn_RX0 rfl (Nat.le_of_ble_eq_true rfl) (fun p e s m below meth c A ls hx hb hml hr hts (hown : s.vm.findClass RX0 = some m.cls) hlocks hA hS hP hK hD hE (hl : lv_has ls 2 [(0, .ref a0)]) => ?_)
  generalize hFX : Ff_X0_clear (fl_A fa0_10) (fl_A fa0_11) = FX at ⊢
  have hF0 := hFX.symm.trans (Ff_X0_clear.eq_1 (fl_A fa0_10) (fl_A fa0_11))
  refine ai_open (fun K hK0 => ?_)
  refine (hK0 _ _ _).mpr ?_
  refine lv_aload_n hx hb dX0_clear_0 rfl (lv_at hl 0 rfl) ?_
  refine lv_iconst (v := 0) hx hb dX0_clear_1 zk_iconst_0 ?_
  refine va_put (D := (dC, dI)) (ci := 0) (v := .int 0) (ty := .int) (C := RX0) (T := TX0) (N := 15) hx hb hts zi_X0_clear_0 tyX0 tyX0_ok nmX0 hown hK hP hD hS 0 rfl rfl 0 (by decide) (hts (.fieldLink RX0 31 "WaxTurns$Hall" "figures" "I") (List.mem_cons_of_mem _ (List.mem_append_left _ (List.mem_append_left _ (List.mem_of_getElem? (i := 0) rfl))))) (fun _ h9 => h9) rfl (tyX0_ok 0 (by decide)) rfl rfl (Nat.le_of_ble_eq_true rfl) dX0_clear_2 (fun H locs hP hD hS => ?_)
  refine zs_0 (y := (a0, .inr (0, [.int 0, a0g_1, a0g_2, a0g_3, .int a0_4, a0g_5, a0g_6, a0g_7, .int a0_8, .int a0_9, .ref a0_10, .ref a0_11, a0g_12, a0g_13, .ref a0_14]))) hP hD rfl (fun hP hD => ?_)
  refine lv_aload_n hx hb dX0_clear_5 rfl (lv_at hl 0 rfl) ?_
  refine lv_iconst (v := 0) hx hb dX0_clear_6 zk_iconst_0 ?_
  refine va_put (D := (dC, dI)) (ci := 0) (v := .int 0) (ty := .boolean) (C := RX0) (T := TX0) (N := 15) hx hb hts zi_X0_clear_0 tyX0 tyX0_ok nmX0 hown hK hP hD hS 0 rfl rfl 4 (by decide) (hts (.fieldLink RX0 35 "WaxTurns$Hall" "lawTold" "Z") (List.mem_cons_of_mem _ (List.mem_append_left _ (List.mem_append_left _ (List.mem_of_getElem? (i := 1) rfl))))) (fun _ h9 => h9) rfl (tyX0_ok 4 (by decide)) rfl rfl (Nat.le_of_ble_eq_true rfl) dX0_clear_7 (fun H locs hP hD hS => ?_)
  refine zs_0 (y := (a0, .inr (0, [.int 0, a0g_1, a0g_2, a0g_3, .int 0, a0g_5, a0g_6, a0g_7, .int a0_8, .int a0_9, .ref a0_10, .ref a0_11, a0g_12, a0g_13, .ref a0_14]))) hP hD rfl (fun hP hD => ?_)
  refine lv_aload_n hx hb dX0_clear_10 rfl (lv_at hl 0 rfl) ?_
  refine lv_iconst (v := 0) hx hb dX0_clear_11 zk_iconst_0 ?_
  refine va_put (D := (dC, dI)) (ci := 0) (v := .int 0) (ty := .int) (C := RX0) (T := TX0) (N := 15) hx hb hts zi_X0_clear_0 tyX0 tyX0_ok nmX0 hown hK hP hD hS 0 rfl rfl 8 (by decide) (hts (.fieldLink RX0 39 "WaxTurns$Hall" "toldBits" "I") (List.mem_cons_of_mem _ (List.mem_append_left _ (List.mem_append_left _ (List.mem_of_getElem? (i := 2) rfl))))) (fun _ h9 => h9) rfl (tyX0_ok 8 (by decide)) rfl rfl (Nat.le_of_ble_eq_true rfl) dX0_clear_12 (fun H locs hP hD hS => ?_)
  refine zs_0 (y := (a0, .inr (0, [.int 0, a0g_1, a0g_2, a0g_3, .int 0, a0g_5, a0g_6, a0g_7, .int 0, .int a0_9, .ref a0_10, .ref a0_11, a0g_12, a0g_13, .ref a0_14]))) hP hD rfl (fun hP hD => ?_)
  refine lv_aload_n hx hb dX0_clear_15 rfl (lv_at hl 0 rfl) ?_
  refine lv_iconst (v := 0) hx hb dX0_clear_16 zk_iconst_0 ?_
  refine va_put (D := (dC, dI)) (ci := 0) (v := .int 0) (ty := .int) (C := RX0) (T := TX0) (N := 15) hx hb hts zi_X0_clear_0 tyX0 tyX0_ok nmX0 hown hK hP hD hS 0 rfl rfl 9 (by decide) (hts (.fieldLink RX0 42 "WaxTurns$Hall" "seenCount" "I") (List.mem_cons_of_mem _ (List.mem_append_left _ (List.mem_append_left _ (List.mem_of_getElem? (i := 3) rfl))))) (fun _ h9 => h9) rfl (tyX0_ok 9 (by decide)) rfl rfl (Nat.le_of_ble_eq_true rfl) dX0_clear_17 (fun H locs hP hD hS => ?_)
  refine zs_0 (y := (a0, .inr (0, [.int 0, a0g_1, a0g_2, a0g_3, .int 0, a0g_5, a0g_6, a0g_7, .int 0, .int 0, .ref a0_10, .ref a0_11, a0g_12, a0g_13, .ref a0_14]))) hP hD rfl (fun hP hD => ?_)
  refine lv_aload_n hx hb dX0_clear_20 rfl (lv_at hl 0 rfl) ?_
  refine va_get (D := (dC, dI)) (ci := 0) (v := .ref a0_14) (C := RX0) (T := TX0) (N := 15) hx hb hts zi_X0_clear_0 hown hK hP 0 rfl rfl 14 (by decide) (hts (.fieldLink RX0 27 "WaxTurns$Hall" "watchers" "LWaxTurns$Watchers;") (List.mem_cons_of_mem _ (List.mem_append_left _ (List.mem_append_left _ (List.mem_of_getElem? (i := 4) rfl))))) (fun _ h9 => h9) rfl dX0_clear_21 ?_
  refine lv_iconst (v := 0) hx hb dX0_clear_24 zk_iconst_0 ?_
  refine va_put (D := (dC, dI)) (ci := 6) (v := .int 0) (ty := .int) (C := RX6) (T := TX6) (N := 4) hx hb hts zi_X0_clear_6 tyX6 tyX6_ok nmX6 hown hK hP hD hS 1 rfl rfl 0 (by decide) (hts (.fieldLink RX0 45 "WaxTurns$Watchers" "count" "I") (List.mem_cons_of_mem _ (List.mem_append_left _ (List.mem_append_left _ (List.mem_of_getElem? (i := 5) rfl))))) (fun _ h9 => h9) rfl (tyX6_ok 0 (by decide)) rfl rfl (Nat.le_of_ble_eq_true rfl) dX0_clear_25 (fun H locs hP hD hS => ?_)
  refine zs_1 (y := (a0_14, .inr (6, [.int 0, a0_14g_1, a0_14g_2, a0_14g_3]))) hP hD rfl (fun hP hD => ?_)
  refine lv_iconst (v := 0) hx hb dX0_clear_28 zk_iconst_0 ?_
  refine lv_istore_n (lv' := [(1, .int 0), (0, .ref a0)]) hx hb dX0_clear_29 rfl hl (by decide) rfl (fun ls hl => ?_)
  have J30 : ∀ (n : Nat) (j30l1 : Int32) (j30a0_10_a : Nat → Int32) (j30a0_11_a : Nat → Int32) (H : Heap) (locs : List Loc) (ls : Array Slot), (10 : Int) - j30l1.toInt ≤ (n : Int) → (0 : Int) ≤ j30l1.toInt → j30l1.toInt ≤ (9 : Int) → (FX = fl_wh (fun t9 => Sf_X0_clear_30_1  t9.1 t9.2.1 t9.2.2) (0, 0, 0, 0, 0, (fun _ => 0), (fun _ => 0)) n (j30l1.toInt, (fl_A j30a0_10_a), (fl_A j30a0_11_a))) → va_P (dC, dI) vwCl [(a0, .inr (0, [.int 0, a0g_1, a0g_2, a0g_3, .int 0, a0g_5, a0g_6, a0g_7, .int 0, .int 0, .ref a0_10, .ref a0_11, a0g_12, a0g_13, .ref a0_14])), (a0_14, .inr (6, [.int 0, a0_14g_1, a0_14g_2, a0_14g_3])), (a0_10, .inl (ka0_10, 9, .inl (j30a0_10_a))), (a0_11, .inl (ka0_11, 9, .inl (j30a0_11_a)))] H → va_D A [(a0, .inr (0, [.int 0, a0g_1, a0g_2, a0g_3, .int 0, a0g_5, a0g_6, a0g_7, .int 0, .int 0, .ref a0_10, .ref a0_11, a0g_12, a0g_13, .ref a0_14])), (a0_14, .inr (6, [.int 0, a0_14g_1, a0_14g_2, a0_14g_3])), (a0_10, .inl (ka0_10, 9, .inl (j30a0_10_a))), (a0_11, .inl (ka0_11, 9, .inl (j30a0_11_a)))] → va_S A s.heap H locs → lv_has ls 2 [(0, .ref a0), (1, .int j30l1)] → K H locs (F0 m 30 ls []) := by
    intro n
    induction n with
    | zero =>
      intro j30l1 j30a0_10_a j30a0_11_a H locs ls hm bj30l1_l bj30l1_u hF0 hP hD hS hl
      first | exact zg_0 hm bj30l1_u (by decide) | (have h8 := ai_min j30l1; have h9 := ai_max j30l1; exact absurd hm (by omega))
    | succ n ih30 =>
      intro j30l1 j30a0_10_a j30a0_11_a H locs ls hm bj30l1_l bj30l1_u hF0 hP hD hS hl
      refine (hK0 _ _ _).mpr ?_
      have hm30 := hm
      obtain ⟨SX30, hSX30⟩ : ∃ q9, Sf_X0_clear_30_1  j30l1.toInt (fl_A j30a0_10_a) (fl_A j30a0_11_a) = q9 := ⟨_, rfl⟩
      have hF1 := hSX30.symm.trans (Sf_X0_clear_30_1.eq_1  j30l1.toInt (fl_A j30a0_10_a) (fl_A j30a0_11_a))
      refine lv_iload_n hx hb dX0_clear_30 rfl (lv_at hl 1 rfl) ?_
      refine lv_bipush (v := 9) hx hb dX0_clear_31 zk_bipush_9 ?_
      refine lv_icmp_ge (tgt := 56) hx hb dX0_clear_33 (by decide) (fun c33 => ?_) (fun c33 => ?_)
      · have gc33 := ai_le c33
        have l33t_j30l1 : (9 : Int) ≤ j30l1.toInt := Int.le_trans zq2 gc33
        have hF1 := hF1.trans (if_pos (show 9 ≤ j30l1.toInt from gc33))
        have hF0 := hF0.trans (fl_wh_r (hSX30.trans hF1))
        have hFe : FX = (0, 0, 0, 0, 0, (fl_A j30a0_10_a), (fl_A j30a0_11_a)) := hF0
        exact W.vret hx hb hr (fun t ht hW => ⟨⟨(), rfl, trivial, 0, 0, 0, 0, 0, j30a0_10_a, j30a0_11_a, ⟨zq5, Int.le_trans zq6 (by decide)⟩, ⟨zq5, Int.le_trans zq6 (by decide)⟩, ⟨zq5, Int.le_trans zq6 (by decide)⟩, ⟨zq5, Int.le_trans zq6 (by decide)⟩, hFe, by rw [ht]; exact hP, va_K.moved hW.alike hK, hD⟩, hS.F ht⟩) hS.2.2 dX0_clear_56
      · have gc33 := ai_nle c33
        have u33f_j30l1 : j30l1.toInt ≤ (8 : Int) := ai_lthi gc33 zq3
        have hF1 := hF1.trans (if_neg (show ¬ (9 ≤ j30l1.toInt) from Int.not_le.mpr gc33))
        refine lv_aload_n hx hb dX0_clear_36 rfl (lv_at hl 0 rfl) ?_
        refine va_get (D := (dC, dI)) (ci := 0) (v := .ref a0_10) (C := RX0) (T := TX0) (N := 15) hx hb hts zi_X0_clear_0 hown hK hP 0 rfl rfl 10 (by decide) (hts (.fieldLink RX0 9 "WaxTurns$Hall" "kinds" "[I") (List.mem_cons_of_mem _ (List.mem_append_left _ (List.mem_append_left _ (List.mem_of_getElem? (i := 6) rfl))))) (fun _ h9 => h9) rfl dX0_clear_37 ?_
        refine lv_iload_n hx hb dX0_clear_40 rfl (lv_at hl 1 rfl) ?_
        refine lv_iconst (v := 0) hx hb dX0_clear_41 zk_iconst_0 ?_
        refine va_iast hx hb hK hP hD hS 2 0 rfl rfl (ai_in bj30l1_l u33f_j30l1 (by decide) (by decide)) dX0_clear_42 (fun H locs hP hD hS => ?_)
        obtain ⟨f42, ef42⟩ : ∃ g9 : Nat → Int32, g9 = upd j30a0_10_a (j30l1 : Int32).toNatClampNeg (0 : Int32) := ⟨_, rfl⟩
        refine zs_2 (y := (a0_10, .inl (ka0_10, 9, .inl (f42)))) hP hD (by rw [ef42]) (fun hP hD => ?_)
        have fqf42 := fl_up_eq ef42
        have hF1 := hF1.trans (fl_lt_eq (show (fl_A f42) = fl_up (fl_A j30a0_10_a) (j30l1.toInt.toNat) 0 from fqf42))
        refine lv_aload_n hx hb dX0_clear_43 rfl (lv_at hl 0 rfl) ?_
        refine va_get (D := (dC, dI)) (ci := 0) (v := .ref a0_11) (C := RX0) (T := TX0) (N := 15) hx hb hts zi_X0_clear_0 hown hK hP 0 rfl rfl 11 (by decide) (hts (.fieldLink RX0 15 "WaxTurns$Hall" "measures" "[I") (List.mem_cons_of_mem _ (List.mem_append_left _ (List.mem_append_left _ (List.mem_of_getElem? (i := 7) rfl))))) (fun _ h9 => h9) rfl dX0_clear_44 ?_
        refine lv_iload_n hx hb dX0_clear_47 rfl (lv_at hl 1 rfl) ?_
        refine lv_iconst (v := 0) hx hb dX0_clear_48 zk_iconst_0 ?_
        refine va_iast hx hb hK hP hD hS 3 1 rfl rfl (ai_in bj30l1_l u33f_j30l1 (by decide) (by decide)) dX0_clear_49 (fun H locs hP hD hS => ?_)
        obtain ⟨f49, ef49⟩ : ∃ g9 : Nat → Int32, g9 = upd j30a0_11_a (j30l1 : Int32).toNatClampNeg (0 : Int32) := ⟨_, rfl⟩
        refine zs_3 (y := (a0_11, .inl (ka0_11, 9, .inl (f49)))) hP hD (by rw [ef49]) (fun hP hD => ?_)
        have fqf49 := fl_up_eq ef49
        have hF1 := hF1.trans (fl_lt_eq (show (fl_A f49) = fl_up (fl_A j30a0_11_a) (j30l1.toInt.toNat) 0 from fqf49))
        obtain ⟨x50, ex50⟩ : ∃ y : Int32, y = j30l1 + Int32.ofInt 1 := ⟨_, rfl⟩
        have qx50 : x50.toInt = j30l1.toInt + 1 := ai_inc ex50 (by decide) (by decide) u33f_j30l1 (by decide)
        have bx50 : (1 : Int) ≤ x50.toInt ∧ x50.toInt ≤ 9 := ⟨by rw [qx50]; exact Int.add_le_add bj30l1_l (Int.le_refl _), by rw [qx50]; exact Int.add_le_add u33f_j30l1 (Int.le_refl _)⟩
        refine lv_iinc (v := x50) (lv' := [(1, .int x50), (0, .ref a0)]) hx hb dX0_clear_50 hl (k := 1) rfl ex50.symm (by decide) rfl (fun ls hl => ?_)
        have hF1 := hF1.trans (fl_lt_eq (show x50.toInt = j30l1.toInt + 1 from qx50))
        refine lv_goto (tgt := 30) hx hb dX0_clear_53 (by decide) ?_
        exact (hK0 _ _ _).mp (ih30 x50 f42 f49 _ _ _ (by first | exact zg_s hm30 qx50 | (have h0 := qx50; omega)) (Int.le_trans zq4 bx50.1) bx50.2 (hF0.trans (fl_wh_l (hSX30.trans hF1))) hP hD hS (lv_sub hl [1, 0] rfl))
  exact (hK0 _ _ _).mp (J30 10 0 fa0_10 fa0_11 _ _ _ (by first | decide +kernel | (have h1 : (0 : Int) ≤ (0 : Int32).toInt := zq5; have h2 : (0 : Int32).toInt ≤ (0 : Int) := zq6; omega)) zq5 (Int.le_trans zq6 zq7) (by rw [show (0 : Int32).toInt = 0 from by decide]; exact hF0) hP hD hS (lv_sub hl [1, 0] rfl))

set_option maxHeartbeats 4000000 in
set_option maxRecDepth 100000 in
theorem f_X0_addFigure (l : Launch) (dC : Nat → ClassId) (dI : Nat → Nat → Nat) (sz : Nat) (a0 : Nat) (a1 : Int32) (a2 : Int32) (a3 : Int32) (a0g_0 a0g_1 a0g_2 a0g_3 a0g_4 a0g_5 a0g_6 a0g_7 a0g_9 a0g_12 a0g_13 a0g_14 : Value) (a0_8 : Int32) (a0_10 : Nat) (a0_11 : Nat) (ka0_10 : ClassId) (fa0_10 : Nat → Int32) (ka0_11 : ClassId) (fa0_11 : Nat → Int32)  : zm l yX0_addFigure wsX0_addFigure ({ frames := 0, cells := 0, slots := 0, locals := 0 }) [.ref a0, .int a1, .int a2, .int a3] dC dI sz [(a0, .inr (0, [a0g_0, a0g_1, a0g_2, a0g_3, a0g_4, a0g_5, a0g_6, a0g_7, .int a0_8, a0g_9, .ref a0_10, .ref a0_11, a0g_12, a0g_13, a0g_14])), (a0_10, .inl (ka0_10, 9, .inl (fa0_10))), (a0_11, .inl (ka0_11, 9, .inl (fa0_11)))] [(ka0_10, .int), (ka0_11, .int)] (fun A _ => True) (fun A => va_Qv (fun (_ : Unit) => True) (fun (_ : Unit) (t : State) => ∃ na0_8 : Int32, ∃ nfa0_10 : Nat → Int32, ∃ nfa0_11 : Nat → Int32, (Ff_X0_addFigure a1.toInt a2.toInt a3.toInt a0_8.toInt (fl_A fa0_10) (fl_A fa0_11) = (na0_8.toInt, (fl_A nfa0_10), (fl_A nfa0_11))) ∧ ax_B dC dI A [(a0, .inr (0, [a0g_0, a0g_1, a0g_2, a0g_3, a0g_4, a0g_5, a0g_6, a0g_7, .int na0_8, a0g_9, .ref a0_10, .ref a0_11, a0g_12, a0g_13, a0g_14])), (a0_10, .inl (ka0_10, 9, .inl (nfa0_10))), (a0_11, .inl (ka0_11, 9, .inl (nfa0_11)))] [(ka0_10, .int), (ka0_11, .int)] t) A) := by
  refine zh (cc := cX0_addFigure) (maxL := 4) (ret := none) zn_RX0 rfl (Nat.le_of_ble_eq_true rfl) (fun p e s m below meth c A ls hx hb hml hr hts (hown : s.vm.findClass RX0 = some m.cls) hlocks hA hS hP hK hD hE (hl : lv_has ls 4 [(0, .ref a0), (1, .int a1), (2, .int a2), (3, .int a3)]) => ?_)
  generalize hFX : Ff_X0_addFigure a1.toInt a2.toInt a3.toInt a0_8.toInt (fl_A fa0_10) (fl_A fa0_11) = FX at ⊢
  have hF0 := hFX.symm.trans (Ff_X0_addFigure.eq_1 a1.toInt a2.toInt a3.toInt a0_8.toInt (fl_A fa0_10) (fl_A fa0_11))
  refine lv_iload_n hx hb dX0_addFigure_0 rfl (lv_at hl 1 rfl) ?_
  refine lv_if_lt (tgt := 36) hx hb dX0_addFigure_1 (by decide) (fun c1 => ?_) (fun c1 => ?_)
  · have gc1 := ai_lt c1
    have u1t_a1 : a1.toInt ≤ (-1 : Int) := ai_lthi gc1 zq6
    have hF0 := hF0.trans (if_pos (show a1.toInt < 0 from gc1))
    have hFe : FX = (a0_8.toInt, (fl_A fa0_10), (fl_A fa0_11)) := hF0
    exact W.vret hx hb hr (fun t ht hW => ⟨⟨(), rfl, trivial, a0_8, fa0_10, fa0_11, hFe, by rw [ht]; exact hP, va_K.moved hW.alike hK, hD⟩, hS.F ht⟩) hS.2.2 dX0_addFigure_36
  · have gc1 := ai_nlt c1
    have l1f_a1 : (0 : Int) ≤ a1.toInt := Int.le_trans zq5 gc1
    have hF0 := hF0.trans (if_neg (show ¬ (a1.toInt < 0) from Int.not_lt.mpr gc1))
    refine lv_iload_n hx hb dX0_addFigure_4 rfl (lv_at hl 1 rfl) ?_
    refine lv_bipush (v := 9) hx hb dX0_addFigure_5 zk_bipush_9 ?_
    refine lv_icmp_ge (tgt := 36) hx hb dX0_addFigure_7 (by decide) (fun c7 => ?_) (fun c7 => ?_)
    · have gc7 := ai_le c7
      have l7t_a1 : (9 : Int) ≤ a1.toInt := Int.le_trans zq2 gc7
      have hF0 := hF0.trans (if_pos (show 9 ≤ a1.toInt from gc7))
      have hFe : FX = (a0_8.toInt, (fl_A fa0_10), (fl_A fa0_11)) := hF0
      exact W.vret hx hb hr (fun t ht hW => ⟨⟨(), rfl, trivial, a0_8, fa0_10, fa0_11, hFe, by rw [ht]; exact hP, va_K.moved hW.alike hK, hD⟩, hS.F ht⟩) hS.2.2 dX0_addFigure_36
    · have gc7 := ai_nle c7
      have u7f_a1 : a1.toInt ≤ (8 : Int) := ai_lthi gc7 zq3
      have hF0 := hF0.trans (if_neg (show ¬ (9 ≤ a1.toInt) from Int.not_le.mpr gc7))
      refine lv_aload_n hx hb dX0_addFigure_10 rfl (lv_at hl 0 rfl) ?_
      refine lv_dup hx hb dX0_addFigure_11 rfl ?_
      refine va_get (D := (dC, dI)) (ci := 0) (v := .int a0_8) (C := RX0) (T := TX0) (N := 15) hx hb hts zi_X0_addFigure_0 hown hK hP 0 rfl rfl 8 (by decide) (hts (.fieldLink RX0 39 "WaxTurns$Hall" "toldBits" "I") (List.mem_cons_of_mem _ (List.mem_append_left _ (List.mem_of_getElem? (i := 0) rfl)))) (fun _ h9 => h9) rfl dX0_addFigure_12 ?_
      refine lv_iconst (v := 1) hx hb dX0_addFigure_15 zk_iconst_1 ?_
      refine lv_iload_n hx hb dX0_addFigure_16 rfl (lv_at hl 1 rfl) ?_
      refine lv_ishl hx hb dX0_addFigure_17 ?_
      refine lv_topi (fun x17 ex17 => ?_)
      have bx17 : (1 : Int) ≤ x17.toInt ∧ x17.toInt ≤ 512 := sh_1 ex17 l1f_a1 (Int.le_trans u7f_a1 zq22)
      have fqx17 := fl_shl_eq ex17
      have hF0 := hF0.trans (fl_lt_eq (show x17.toInt = fl_shl 1 a1.toInt from fqx17))
      refine lv_ior hx hb dX0_addFigure_18 ?_
      refine lv_topi (fun x18 ex18 => ?_)
      have fqx18 := fl_or_eq ex18
      have hF0 := hF0.trans (fl_lt_eq (show x18.toInt = fl_or a0_8.toInt x17.toInt from fqx18))
      refine va_put (D := (dC, dI)) (ci := 0) (v := .int x18) (ty := .int) (C := RX0) (T := TX0) (N := 15) hx hb hts zi_X0_addFigure_0 tyX0 tyX0_ok nmX0 hown hK hP hD hS 0 rfl rfl 8 (by decide) (hts (.fieldLink RX0 39 "WaxTurns$Hall" "toldBits" "I") (List.mem_cons_of_mem _ (List.mem_append_left _ (List.mem_of_getElem? (i := 0) rfl)))) (fun _ h9 => h9) rfl (tyX0_ok 8 (by decide)) rfl rfl (Nat.le_of_ble_eq_true rfl) dX0_addFigure_19 (fun H locs hP hD hS => ?_)
      refine zs_0 (y := (a0, .inr (0, [a0g_0, a0g_1, a0g_2, a0g_3, a0g_4, a0g_5, a0g_6, a0g_7, .int x18, a0g_9, .ref a0_10, .ref a0_11, a0g_12, a0g_13, a0g_14]))) hP hD rfl (fun hP hD => ?_)
      refine lv_aload_n hx hb dX0_addFigure_22 rfl (lv_at hl 0 rfl) ?_
      refine va_get (D := (dC, dI)) (ci := 0) (v := .ref a0_10) (C := RX0) (T := TX0) (N := 15) hx hb hts zi_X0_addFigure_0 hown hK hP 0 rfl rfl 10 (by decide) (hts (.fieldLink RX0 9 "WaxTurns$Hall" "kinds" "[I") (List.mem_cons_of_mem _ (List.mem_append_left _ (List.mem_of_getElem? (i := 1) rfl)))) (fun _ h9 => h9) rfl dX0_addFigure_23 ?_
      refine lv_iload_n hx hb dX0_addFigure_26 rfl (lv_at hl 1 rfl) ?_
      refine lv_iload_n hx hb dX0_addFigure_27 rfl (lv_at hl 2 rfl) ?_
      refine va_iast hx hb hK hP hD hS 1 0 rfl rfl (ai_in l1f_a1 u7f_a1 (by decide) (by decide)) dX0_addFigure_28 (fun H locs hP hD hS => ?_)
      obtain ⟨f28, ef28⟩ : ∃ g9 : Nat → Int32, g9 = upd fa0_10 (a1 : Int32).toNatClampNeg a2 := ⟨_, rfl⟩
      refine zs_1 (y := (a0_10, .inl (ka0_10, 9, .inl (f28)))) hP hD (by rw [ef28]) (fun hP hD => ?_)
      have fqf28 := fl_up_eq ef28
      have hF0 := hF0.trans (fl_lt_eq (show (fl_A f28) = fl_up (fl_A fa0_10) (a1.toInt.toNat) a2.toInt from fqf28))
      refine lv_aload_n hx hb dX0_addFigure_29 rfl (lv_at hl 0 rfl) ?_
      refine va_get (D := (dC, dI)) (ci := 0) (v := .ref a0_11) (C := RX0) (T := TX0) (N := 15) hx hb hts zi_X0_addFigure_0 hown hK hP 0 rfl rfl 11 (by decide) (hts (.fieldLink RX0 15 "WaxTurns$Hall" "measures" "[I") (List.mem_cons_of_mem _ (List.mem_append_left _ (List.mem_of_getElem? (i := 2) rfl)))) (fun _ h9 => h9) rfl dX0_addFigure_30 ?_
      refine lv_iload_n hx hb dX0_addFigure_33 rfl (lv_at hl 1 rfl) ?_
      refine lv_iload_n hx hb dX0_addFigure_34 rfl (lv_at hl 3 rfl) ?_
      refine va_iast hx hb hK hP hD hS 2 1 rfl rfl (ai_in l1f_a1 u7f_a1 (by decide) (by decide)) dX0_addFigure_35 (fun H locs hP hD hS => ?_)
      obtain ⟨f35, ef35⟩ : ∃ g9 : Nat → Int32, g9 = upd fa0_11 (a1 : Int32).toNatClampNeg a3 := ⟨_, rfl⟩
      refine zs_2 (y := (a0_11, .inl (ka0_11, 9, .inl (f35)))) hP hD (by rw [ef35]) (fun hP hD => ?_)
      have fqf35 := fl_up_eq ef35
      have hF0 := hF0.trans (fl_lt_eq (show (fl_A f35) = fl_up (fl_A fa0_11) (a1.toInt.toNat) a3.toInt from fqf35))
      have hFe : FX = (x18.toInt, (fl_A f28), (fl_A f35)) := hF0
      exact W.vret hx hb hr (fun t ht hW => ⟨⟨(), rfl, trivial, x18, f28, f35, hFe, by rw [ht]; exact hP, va_K.moved hW.alike hK, hD⟩, hS.F ht⟩) hS.2.2 dX0_addFigure_36

set_option maxHeartbeats 4000000 in
set_option maxRecDepth 100000 in
theorem f_X0_addSeen (l : Launch) (dC : Nat → ClassId) (dI : Nat → Nat → Nat) (sz : Nat) (a0 : Nat) (a1 : Int32) (a2 : Int32) (a0g_0 a0g_1 a0g_2 a0g_3 a0g_4 a0g_5 a0g_6 a0g_7 a0g_8 a0g_10 a0g_11 a0g_14 : Value) (a0_9 : Int32) (a0_12 : Nat) (a0_13 : Nat) (ka0_12 : ClassId) (fa0_12 : Nat → Int32) (ka0_13 : ClassId) (fa0_13 : Nat → Int32) (ba2_l : (0 : Int) ≤ a2.toInt) (ba2_u : a2.toInt ≤ (999 : Int)) (ba0_9_l : (0 : Int) ≤ a0_9.toInt) (ba0_9_u : a0_9.toInt ≤ (6 : Int)) (bfa0_13 : (∀ k, (0 : Int) ≤ (fa0_13 k).toInt ∧ (fa0_13 k).toInt ≤ 999)) : zm l yX0_addSeen wsX0_addSeen ({ frames := 0, cells := 0, slots := 0, locals := 0 }) [.ref a0, .int a1, .int a2] dC dI sz [(a0, .inr (0, [a0g_0, a0g_1, a0g_2, a0g_3, a0g_4, a0g_5, a0g_6, a0g_7, a0g_8, .int a0_9, a0g_10, a0g_11, .ref a0_12, .ref a0_13, a0g_14])), (a0_12, .inl (ka0_12, 6, .inl (fa0_12))), (a0_13, .inl (ka0_13, 6, .inl (fa0_13)))] [(ka0_12, .int), (ka0_13, .int)] (fun A _ => True) (fun A => va_Qv (fun (_ : Unit) => True) (fun (_ : Unit) (t : State) => ∃ na0_9 : Int32, ∃ nfa0_12 : Nat → Int32, ∃ nfa0_13 : Nat → Int32, ((0 : Int) ≤ na0_9.toInt ∧ na0_9.toInt ≤ 6) ∧ (∀ k, (0 : Int) ≤ (nfa0_13 k).toInt ∧ (nfa0_13 k).toInt ≤ 999) ∧ (Ff_X0_addSeen a1.toInt a2.toInt a0_9.toInt (fl_A fa0_12) (fl_A fa0_13) = (na0_9.toInt, (fl_A nfa0_12), (fl_A nfa0_13))) ∧ ax_B dC dI A [(a0, .inr (0, [a0g_0, a0g_1, a0g_2, a0g_3, a0g_4, a0g_5, a0g_6, a0g_7, a0g_8, .int na0_9, a0g_10, a0g_11, .ref a0_12, .ref a0_13, a0g_14])), (a0_12, .inl (ka0_12, 6, .inl (nfa0_12))), (a0_13, .inl (ka0_13, 6, .inl (nfa0_13)))] [(ka0_12, .int), (ka0_13, .int)] t) A) := by
  refine zh (cc := cX0_addSeen) (maxL := 3) (ret := none) zn_RX0 rfl (Nat.le_of_ble_eq_true rfl) (fun p e s m below meth c A ls hx hb hml hr hts (hown : s.vm.findClass RX0 = some m.cls) hlocks hA hS hP hK hD hE (hl : lv_has ls 3 [(0, .ref a0), (1, .int a1), (2, .int a2)]) => ?_)
  generalize hFX : Ff_X0_addSeen a1.toInt a2.toInt a0_9.toInt (fl_A fa0_12) (fl_A fa0_13) = FX at ⊢
  have hF0 := hFX.symm.trans (Ff_X0_addSeen.eq_1 a1.toInt a2.toInt a0_9.toInt (fl_A fa0_12) (fl_A fa0_13))
  refine lv_aload_n hx hb dX0_addSeen_0 rfl (lv_at hl 0 rfl) ?_
  refine va_get (D := (dC, dI)) (ci := 0) (v := .int a0_9) (C := RX0) (T := TX0) (N := 15) hx hb hts zi_X0_addSeen_0 hown hK hP 0 rfl rfl 9 (by decide) (hts (.fieldLink RX0 42 "WaxTurns$Hall" "seenCount" "I") (List.mem_cons_of_mem _ (List.mem_append_left _ (List.mem_of_getElem? (i := 0) rfl)))) (fun _ h9 => h9) rfl dX0_addSeen_1 ?_
  refine lv_bipush (v := 6) hx hb dX0_addSeen_4 zk_bipush_6 ?_
  refine lv_icmp_ge (tgt := 39) hx hb dX0_addSeen_6 (by decide) (fun c6 => ?_) (fun c6 => ?_)
  · have gc6 := ai_le c6
    have l6t_a0_9 : (6 : Int) ≤ a0_9.toInt := Int.le_trans zq15 gc6
    have hF0 := hF0.trans (if_pos (show 6 ≤ a0_9.toInt from gc6))
    have hFe : FX = (a0_9.toInt, (fl_A fa0_12), (fl_A fa0_13)) := hF0
    exact W.vret hx hb hr (fun t ht hW => ⟨⟨(), rfl, trivial, a0_9, fa0_12, fa0_13, ⟨Int.le_trans (by decide) l6t_a0_9, ba0_9_u⟩, bfa0_13, hFe, by rw [ht]; exact hP, va_K.moved hW.alike hK, hD⟩, hS.F ht⟩) hS.2.2 dX0_addSeen_39
  · have gc6 := ai_nle c6
    have u6f_a0_9 : a0_9.toInt ≤ (5 : Int) := ai_lthi gc6 zq16
    have hF0 := hF0.trans (if_neg (show ¬ (6 ≤ a0_9.toInt) from Int.not_le.mpr gc6))
    refine lv_aload_n hx hb dX0_addSeen_9 rfl (lv_at hl 0 rfl) ?_
    refine va_get (D := (dC, dI)) (ci := 0) (v := .ref a0_12) (C := RX0) (T := TX0) (N := 15) hx hb hts zi_X0_addSeen_0 hown hK hP 0 rfl rfl 12 (by decide) (hts (.fieldLink RX0 18 "WaxTurns$Hall" "seenFigures" "[I") (List.mem_cons_of_mem _ (List.mem_append_left _ (List.mem_of_getElem? (i := 1) rfl)))) (fun _ h9 => h9) rfl dX0_addSeen_10 ?_
    refine lv_aload_n hx hb dX0_addSeen_13 rfl (lv_at hl 0 rfl) ?_
    refine va_get (D := (dC, dI)) (ci := 0) (v := .int a0_9) (C := RX0) (T := TX0) (N := 15) hx hb hts zi_X0_addSeen_0 hown hK hP 0 rfl rfl 9 (by decide) (hts (.fieldLink RX0 42 "WaxTurns$Hall" "seenCount" "I") (List.mem_cons_of_mem _ (List.mem_append_left _ (List.mem_of_getElem? (i := 0) rfl)))) (fun _ h9 => h9) rfl dX0_addSeen_14 ?_
    refine lv_iload_n hx hb dX0_addSeen_17 rfl (lv_at hl 1 rfl) ?_
    refine va_iast hx hb hK hP hD hS 1 0 rfl rfl (ai_in ba0_9_l u6f_a0_9 (by decide) (by decide)) dX0_addSeen_18 (fun H locs hP hD hS => ?_)
    obtain ⟨f18, ef18⟩ : ∃ g9 : Nat → Int32, g9 = upd fa0_12 (a0_9 : Int32).toNatClampNeg a1 := ⟨_, rfl⟩
    refine zs_1 (y := (a0_12, .inl (ka0_12, 6, .inl (f18)))) hP hD (by rw [ef18]) (fun hP hD => ?_)
    have fqf18 := fl_up_eq ef18
    have hF0 := hF0.trans (fl_lt_eq (show (fl_A f18) = fl_up (fl_A fa0_12) (a0_9.toInt.toNat) a1.toInt from fqf18))
    refine lv_aload_n hx hb dX0_addSeen_19 rfl (lv_at hl 0 rfl) ?_
    refine va_get (D := (dC, dI)) (ci := 0) (v := .ref a0_13) (C := RX0) (T := TX0) (N := 15) hx hb hts zi_X0_addSeen_0 hown hK hP 0 rfl rfl 13 (by decide) (hts (.fieldLink RX0 21 "WaxTurns$Hall" "seenMinutes" "[I") (List.mem_cons_of_mem _ (List.mem_append_left _ (List.mem_of_getElem? (i := 2) rfl)))) (fun _ h9 => h9) rfl dX0_addSeen_20 ?_
    refine lv_aload_n hx hb dX0_addSeen_23 rfl (lv_at hl 0 rfl) ?_
    refine va_get (D := (dC, dI)) (ci := 0) (v := .int a0_9) (C := RX0) (T := TX0) (N := 15) hx hb hts zi_X0_addSeen_0 hown hK hP 0 rfl rfl 9 (by decide) (hts (.fieldLink RX0 42 "WaxTurns$Hall" "seenCount" "I") (List.mem_cons_of_mem _ (List.mem_append_left _ (List.mem_of_getElem? (i := 0) rfl)))) (fun _ h9 => h9) rfl dX0_addSeen_24 ?_
    refine lv_iload_n hx hb dX0_addSeen_27 rfl (lv_at hl 2 rfl) ?_
    refine va_iast hx hb hK hP hD hS 2 1 rfl rfl (ai_in ba0_9_l u6f_a0_9 (by decide) (by decide)) dX0_addSeen_28 (fun H locs hP hD hS => ?_)
    obtain ⟨f28, ef28⟩ : ∃ g9 : Nat → Int32, g9 = upd fa0_13 (a0_9 : Int32).toNatClampNeg a2 := ⟨_, rfl⟩
    refine zs_2 (y := (a0_13, .inl (ka0_13, 6, .inl (f28)))) hP hD (by rw [ef28]) (fun hP hD => ?_)
    have bf28 : (∀ k, (0 : Int) ≤ (f28 k).toInt ∧ (f28 k).toInt ≤ 999) := by rw [ef28]; exact ai_upd bfa0_13 _ ⟨ba2_l, ba2_u⟩
    have fqf28 := fl_up_eq ef28
    have hF0 := hF0.trans (fl_lt_eq (show (fl_A f28) = fl_up (fl_A fa0_13) (a0_9.toInt.toNat) a2.toInt from fqf28))
    refine lv_aload_n hx hb dX0_addSeen_29 rfl (lv_at hl 0 rfl) ?_
    refine lv_dup hx hb dX0_addSeen_30 rfl ?_
    refine va_get (D := (dC, dI)) (ci := 0) (v := .int a0_9) (C := RX0) (T := TX0) (N := 15) hx hb hts zi_X0_addSeen_0 hown hK hP 0 rfl rfl 9 (by decide) (hts (.fieldLink RX0 42 "WaxTurns$Hall" "seenCount" "I") (List.mem_cons_of_mem _ (List.mem_append_left _ (List.mem_of_getElem? (i := 0) rfl)))) (fun _ h9 => h9) rfl dX0_addSeen_31 ?_
    refine lv_iconst (v := 1) hx hb dX0_addSeen_34 zk_iconst_1 ?_
    refine lv_iadd hx hb dX0_addSeen_35 ?_
    refine lv_topi (fun x35 ex35 => ?_)
    have qx35 : x35.toInt = a0_9.toInt + (1 : Int32).toInt := ai_add ex35 ⟨ba0_9_l, u6f_a0_9⟩ ⟨zq1, zq0⟩ (by decide) (by decide)
    have bx35 : (1 : Int) ≤ x35.toInt ∧ x35.toInt ≤ 6 := ⟨by rw [qx35]; exact Int.add_le_add ba0_9_l zq1, by rw [qx35]; exact Int.add_le_add u6f_a0_9 zq0⟩
    have wx35 : x35.toInt = a0_9.toInt + 1 := qx35
    have hF0 := hF0.trans (fl_lt_eq (show x35.toInt = a0_9.toInt + 1 from qx35))
    refine va_put (D := (dC, dI)) (ci := 0) (v := .int x35) (ty := .int) (C := RX0) (T := TX0) (N := 15) hx hb hts zi_X0_addSeen_0 tyX0 tyX0_ok nmX0 hown hK hP hD hS 0 rfl rfl 9 (by decide) (hts (.fieldLink RX0 42 "WaxTurns$Hall" "seenCount" "I") (List.mem_cons_of_mem _ (List.mem_append_left _ (List.mem_of_getElem? (i := 0) rfl)))) (fun _ h9 => h9) rfl (tyX0_ok 9 (by decide)) rfl rfl (Nat.le_of_ble_eq_true rfl) dX0_addSeen_36 (fun H locs hP hD hS => ?_)
    refine zs_0 (y := (a0, .inr (0, [a0g_0, a0g_1, a0g_2, a0g_3, a0g_4, a0g_5, a0g_6, a0g_7, a0g_8, .int x35, a0g_10, a0g_11, .ref a0_12, .ref a0_13, a0g_14]))) hP hD rfl (fun hP hD => ?_)
    have hFe : FX = (x35.toInt, (fl_A f18), (fl_A f28)) := hF0
    exact W.vret hx hb hr (fun t ht hW => ⟨⟨(), rfl, trivial, x35, f18, f28, ⟨Int.le_trans (by decide) bx35.1, bx35.2⟩, bf28, hFe, by rw [ht]; exact hP, va_K.moved hW.alike hK, hD⟩, hS.F ht⟩) hS.2.2 dX0_addSeen_39

set_option maxHeartbeats 4000000 in
set_option maxRecDepth 100000 in
theorem f_X0_isSeenMinute (l : Launch) (dC : Nat → ClassId) (dI : Nat → Nat → Nat) (sz : Nat) (a0 : Nat) (a1 : Int32) (a0g_0 a0g_1 a0g_2 a0g_3 a0g_4 a0g_5 a0g_6 a0g_7 a0g_8 a0g_10 a0g_11 a0g_12 a0g_14 : Value) (a0_9 : Int32) (a0_13 : Nat) (ka0_13 : ClassId) (fa0_13 : Nat → Int32) (ba0_9_l : (0 : Int) ≤ a0_9.toInt) (ba0_9_u : a0_9.toInt ≤ (6 : Int)) (bfa0_13 : (∀ k, (0 : Int) ≤ (fa0_13 k).toInt ∧ (fa0_13 k).toInt ≤ 999)) : zm l yX0_isSeenMinute wsX0_isSeenMinute ({ frames := 0, cells := 0, slots := 0, locals := 0 }) [.ref a0, .int a1] dC dI sz [(a0, .inr (0, [a0g_0, a0g_1, a0g_2, a0g_3, a0g_4, a0g_5, a0g_6, a0g_7, a0g_8, .int a0_9, a0g_10, a0g_11, a0g_12, .ref a0_13, a0g_14])), (a0_13, .inl (ka0_13, 6, .inl (fa0_13)))] [(ka0_13, .int)] (fun A _ => True) (fun A => va_Qi (fun (r : Int32) (_ : Unit) => ((r = 1 ∧ (0 : Int) ≤ a1.toInt ∧ a1.toInt ≤ (999 : Int) ∧ (1 : Int) ≤ a0_9.toInt ∧ a0_9.toInt ≤ (6 : Int)) ∨ (r = 0)) ∧ r.toInt = Ff_X0_isSeenMinute a1.toInt a0_9.toInt (fl_A fa0_13)) (fun (_ : Unit) (t : State) => ax_B dC dI A [(a0, .inr (0, [a0g_0, a0g_1, a0g_2, a0g_3, a0g_4, a0g_5, a0g_6, a0g_7, a0g_8, .int a0_9, a0g_10, a0g_11, a0g_12, .ref a0_13, a0g_14])), (a0_13, .inl (ka0_13, 6, .inl (fa0_13)))] [(ka0_13, .int)] t) A) := by
  refine zh (cc := cX0_isSeenMinute) (maxL := 3) (ret := (some .boolean)) zn_RX0 rfl (Nat.le_of_ble_eq_true rfl) (fun p e s m below meth c A ls hx hb hml hr hts (hown : s.vm.findClass RX0 = some m.cls) hlocks hA hS hP hK hD hE (hl : lv_has ls 3 [(0, .ref a0), (1, .int a1)]) => ?_)
  generalize hFX : Ff_X0_isSeenMinute a1.toInt a0_9.toInt (fl_A fa0_13) = FX at ⊢
  have hF0 := hFX.symm.trans (Ff_X0_isSeenMinute.eq_1 a1.toInt a0_9.toInt (fl_A fa0_13))
  refine ai_open (fun K hK0 => ?_)
  refine (hK0 _ _ _).mpr ?_
  refine lv_iconst (v := 0) hx hb dX0_isSeenMinute_0 zk_iconst_0 ?_
  refine lv_istore_n (lv' := [(2, .int 0), (0, .ref a0), (1, .int a1)]) hx hb dX0_isSeenMinute_1 rfl hl (by decide) rfl (fun ls hl => ?_)
  have J2 : ∀ (n : Nat) (j2l2 : Int32) (H : Heap) (locs : List Loc) (ls : Array Slot), (7 : Int) - j2l2.toInt ≤ (n : Int) → (0 : Int) ≤ j2l2.toInt → j2l2.toInt ≤ (6 : Int) → (FX = fl_wh (Sf_X0_isSeenMinute_2_1 a1.toInt a0_9.toInt (fl_A fa0_13)) 0 n j2l2.toInt) → va_P (dC, dI) vwCl [(a0, .inr (0, [a0g_0, a0g_1, a0g_2, a0g_3, a0g_4, a0g_5, a0g_6, a0g_7, a0g_8, .int a0_9, a0g_10, a0g_11, a0g_12, .ref a0_13, a0g_14])), (a0_13, .inl (ka0_13, 6, .inl (fa0_13)))] H → va_D A [(a0, .inr (0, [a0g_0, a0g_1, a0g_2, a0g_3, a0g_4, a0g_5, a0g_6, a0g_7, a0g_8, .int a0_9, a0g_10, a0g_11, a0g_12, .ref a0_13, a0g_14])), (a0_13, .inl (ka0_13, 6, .inl (fa0_13)))] → va_S A s.heap H locs → lv_has ls 3 [(0, .ref a0), (1, .int a1), (2, .int j2l2)] → K H locs (F0 m 2 ls []) := by
    intro n
    induction n with
    | zero =>
      intro j2l2 H locs ls hm bj2l2_l bj2l2_u hF0 hP hD hS hl
      first | exact zg_0 hm bj2l2_u (by decide) | (have h8 := ai_min j2l2; have h9 := ai_max j2l2; exact absurd hm (by omega))
    | succ n ih2 =>
      intro j2l2 H locs ls hm bj2l2_l bj2l2_u hF0 hP hD hS hl
      refine (hK0 _ _ _).mpr ?_
      have hm2 := hm
      obtain ⟨SX2, hSX2⟩ : ∃ q9, Sf_X0_isSeenMinute_2_1 a1.toInt a0_9.toInt (fl_A fa0_13) j2l2.toInt = q9 := ⟨_, rfl⟩
      have hF1 := hSX2.symm.trans (Sf_X0_isSeenMinute_2_1.eq_1 a1.toInt a0_9.toInt (fl_A fa0_13) j2l2.toInt)
      refine lv_iload_n hx hb dX0_isSeenMinute_2 rfl (lv_at hl 2 rfl) ?_
      refine lv_aload_n hx hb dX0_isSeenMinute_3 rfl (lv_at hl 0 rfl) ?_
      refine va_get (D := (dC, dI)) (ci := 0) (v := .int a0_9) (C := RX0) (T := TX0) (N := 15) hx hb hts zi_X0_isSeenMinute_0 hown hK hP 0 rfl rfl 9 (by decide) (hts (.fieldLink RX0 42 "WaxTurns$Hall" "seenCount" "I") (List.mem_cons_of_mem _ (List.mem_append_left _ (List.mem_of_getElem? (i := 0) rfl)))) (fun _ h9 => h9) rfl dX0_isSeenMinute_4 ?_
      refine lv_icmp_ge (tgt := 28) hx hb dX0_isSeenMinute_7 (by decide) (fun c7 => ?_) (fun c7 => ?_)
      · have gc7 := ai_le c7
        have u7t_a0_9 : a0_9.toInt ≤ (6 : Int) := ba0_9_u
        have l7t_j2l2 : (0 : Int) ≤ j2l2.toInt := bj2l2_l
        have hF1 := hF1.trans (if_pos (show a0_9.toInt ≤ j2l2.toInt from gc7))
        have hF0 := hF0.trans (fl_wh_r (hSX2.trans hF1))
        refine lv_iconst (v := 0) hx hb dX0_isSeenMinute_28 zk_iconst_0 ?_
        have hFe : FX = 0 := hF0
        exact W.zret (v := 0) hx hb hr rfl (fun t ht hW => ⟨⟨0, (), rfl, ⟨(Or.inr (rfl)), hFe.symm⟩, by rw [ht]; exact hP, va_K.moved hW.alike hK, hD⟩, hS.F ht⟩) hS.2.2 dX0_isSeenMinute_29
      · have gc7 := ai_nle c7
        have u7f_j2l2 : j2l2.toInt ≤ (5 : Int) := ai_lthi gc7 ba0_9_u
        have l7f_a0_9 : (1 : Int) ≤ a0_9.toInt := ai_ltlo gc7 bj2l2_l
        have hF1 := hF1.trans (if_neg (show ¬ (a0_9.toInt ≤ j2l2.toInt) from Int.not_le.mpr gc7))
        refine lv_aload_n hx hb dX0_isSeenMinute_10 rfl (lv_at hl 0 rfl) ?_
        refine va_get (D := (dC, dI)) (ci := 0) (v := .ref a0_13) (C := RX0) (T := TX0) (N := 15) hx hb hts zi_X0_isSeenMinute_0 hown hK hP 0 rfl rfl 13 (by decide) (hts (.fieldLink RX0 21 "WaxTurns$Hall" "seenMinutes" "[I") (List.mem_cons_of_mem _ (List.mem_append_left _ (List.mem_of_getElem? (i := 1) rfl)))) (fun _ h9 => h9) rfl dX0_isSeenMinute_11 ?_
        refine lv_iload_n hx hb dX0_isSeenMinute_14 rfl (lv_at hl 2 rfl) ?_
        refine va_iald hx hb hK hP 1 0 rfl rfl (ai_in bj2l2_l u7f_j2l2 (by decide) (by decide)) dX0_isSeenMinute_15 ?_
        refine lv_topi (fun x15 ex15 => ?_)
        have bx15 : (0 : Int) ≤ x15.toInt ∧ x15.toInt ≤ 999 := by rw [ex15]; exact bfa0_13 _
        have fqx15 := congrArg Int32.toInt ex15
        have hF1 := hF1.trans (fl_lt_eq (show x15.toInt = (fl_A fa0_13) (j2l2.toInt.toNat) from fqx15))
        refine lv_iload_n hx hb dX0_isSeenMinute_16 rfl (lv_at hl 1 rfl) ?_
        refine lv_icmp_ne (tgt := 22) hx hb dX0_isSeenMinute_17 (by decide) (fun c17 => ?_) (fun c17 => ?_)
        · have gc17 := ai_ne c17
          have hF1 := hF1.trans (if_neg (show ¬ (x15.toInt = a1.toInt) from  gc17))
          obtain ⟨x22, ex22⟩ : ∃ y : Int32, y = j2l2 + Int32.ofInt 1 := ⟨_, rfl⟩
          have qx22 : x22.toInt = j2l2.toInt + 1 := ai_inc ex22 (by decide) (by decide) u7f_j2l2 (by decide)
          have bx22 : (1 : Int) ≤ x22.toInt ∧ x22.toInt ≤ 6 := ⟨by rw [qx22]; exact Int.add_le_add bj2l2_l (Int.le_refl _), by rw [qx22]; exact Int.add_le_add u7f_j2l2 (Int.le_refl _)⟩
          refine lv_iinc (v := x22) (lv' := [(2, .int x22), (0, .ref a0), (1, .int a1)]) hx hb dX0_isSeenMinute_22 hl (k := 2) rfl ex22.symm (by decide) rfl (fun ls hl => ?_)
          have hF1 := hF1.trans (fl_lt_eq (show x22.toInt = j2l2.toInt + 1 from qx22))
          refine lv_goto (tgt := 2) hx hb dX0_isSeenMinute_25 (by decide) ?_
          exact (hK0 _ _ _).mp (ih2 x22 _ _ _ (by first | exact zg_s hm2 qx22 | (have h0 := qx22; omega)) (Int.le_trans zq4 bx22.1) bx22.2 (hF0.trans (fl_wh_l (hSX2.trans hF1))) hP hD hS (lv_sub hl [1, 2, 0] rfl))
        · have gc17 := ai_eq c17
          have u17f_a1 : a1.toInt ≤ (999 : Int) := Int.le_trans (Int.le_of_eq gc17.symm) bx15.2
          have l17f_a1 : (0 : Int) ≤ a1.toInt := Int.le_trans bx15.1 (Int.le_of_eq gc17)
          have hF1 := hF1.trans (if_pos (show x15.toInt = a1.toInt from gc17))
          have hF0 := hF0.trans (fl_wh_r (hSX2.trans hF1))
          refine lv_iconst (v := 1) hx hb dX0_isSeenMinute_20 zk_iconst_1 ?_
          have hFe : FX = 1 := hF0
          exact W.zret (v := 1) hx hb hr rfl (fun t ht hW => ⟨⟨1, (), rfl, ⟨(Or.inl ⟨rfl, l17f_a1, u17f_a1, l7f_a0_9, ba0_9_u⟩), hFe.symm⟩, by rw [ht]; exact hP, va_K.moved hW.alike hK, hD⟩, hS.F ht⟩) hS.2.2 dX0_isSeenMinute_21
  exact (hK0 _ _ _).mp (J2 7 0 _ _ _ (by first | decide +kernel | (have h1 : (0 : Int) ≤ (0 : Int32).toInt := zq5; have h2 : (0 : Int32).toInt ≤ (0 : Int) := zq6; omega)) zq5 (Int.le_trans zq6 zq17) (by rw [show (0 : Int32).toInt = 0 from by decide]; exact hF0) hP hD hS (lv_sub hl [1, 2, 0] rfl))

set_option maxHeartbeats 4000000 in
set_option maxRecDepth 100000 in
theorem f_X3_fails (l : Launch) (dC : Nat → ClassId) (dI : Nat → Nat → Nat) (sz : Nat) (a0 : Nat) (a1 : Int32) (a0g_0 a0g_3 a0g_4 a0g_5 a0g_6 a0g_7 a0g_9 a0g_10 a0g_11 a0g_12 a0g_13 : Value) (a0_1 : Int32) (a0_2 : Int32) (a0_8 : Int32) (ba0_8_l : (0 : Int) ≤ a0_8.toInt) (ba0_8_u : a0_8.toInt ≤ (900 : Int)) : zm l yX3_fails wsX3_fails ({ frames := 0, cells := 0, slots := 0, locals := 0 }) [.ref a0, .int a1] dC dI sz [(a0, .inr (3, [a0g_0, .int a0_1, .int a0_2, a0g_3, a0g_4, a0g_5, a0g_6, a0g_7, .int a0_8, a0g_9, a0g_10, a0g_11, a0g_12, a0g_13]))] [] (fun A _ => True) (fun A => va_Qi (fun (r : Int32) (_ : Unit) => (r = 0) ∧ r.toInt = (Ff_X3_fails a1.toInt a0_8.toInt).1) (fun (_ : Unit) (t : State) => ∃ na0_1 : Int32, ∃ na0_2 : Int32, ((Ff_X3_fails a1.toInt a0_8.toInt).2 = (na0_1.toInt, na0_2.toInt)) ∧ ax_B dC dI A [(a0, .inr (3, [a0g_0, .int na0_1, .int na0_2, a0g_3, a0g_4, a0g_5, a0g_6, a0g_7, .int a0_8, a0g_9, a0g_10, a0g_11, a0g_12, a0g_13]))] [] t) A) := by
  refine zh (cc := cX3_fails) (maxL := 2) (ret := (some .boolean)) zn_RX3 rfl (Nat.le_of_ble_eq_true rfl) (fun p e s m below meth c A ls hx hb hml hr hts (hown : s.vm.findClass RX3 = some m.cls) hlocks hA hS hP hK hD hE (hl : lv_has ls 2 [(0, .ref a0), (1, .int a1)]) => ?_)
  generalize hFX : Ff_X3_fails a1.toInt a0_8.toInt = FX at ⊢
  have hF0 := hFX.symm.trans (Ff_X3_fails.eq_1 a1.toInt a0_8.toInt)
  refine lv_aload_n hx hb dX3_fails_0 rfl (lv_at hl 0 rfl) ?_
  refine lv_iload_n hx hb dX3_fails_1 rfl (lv_at hl 1 rfl) ?_
  refine va_put (D := (dC, dI)) (ci := 3) (v := .int a1) (ty := .int) (C := RX3) (T := TX3) (N := 14) hx hb hts zi_X3_fails_3 tyX3 tyX3_ok nmX3 hown hK hP hD hS 0 rfl rfl 1 (by decide) (hts (.fieldLink RX3 45 "WaxTurns$Reade\x72" "faultNumbe\x72" "I") (List.mem_cons_of_mem _ (List.mem_append_left _ (List.mem_of_getElem? (i := 0) rfl)))) (fun _ h9 => h9) rfl (tyX3_ok 1 (by decide)) rfl rfl (Nat.le_of_ble_eq_true rfl) dX3_fails_2 (fun H locs hP hD hS => ?_)
  refine zs_0 (y := (a0, .inr (3, [a0g_0, .int a1, .int a0_2, a0g_3, a0g_4, a0g_5, a0g_6, a0g_7, .int a0_8, a0g_9, a0g_10, a0g_11, a0g_12, a0g_13]))) hP hD rfl (fun hP hD => ?_)
  refine lv_aload_n hx hb dX3_fails_5 rfl (lv_at hl 0 rfl) ?_
  refine lv_aload_n hx hb dX3_fails_6 rfl (lv_at hl 0 rfl) ?_
  refine va_get (D := (dC, dI)) (ci := 3) (v := .int a0_8) (C := RX3) (T := TX3) (N := 14) hx hb hts zi_X3_fails_3 hown hK hP 0 rfl rfl 8 (by decide) (hts (.fieldLink RX3 72 "WaxTurns$Reade\x72" "start" "I") (List.mem_cons_of_mem _ (List.mem_append_left _ (List.mem_of_getElem? (i := 1) rfl)))) (fun _ h9 => h9) rfl dX3_fails_7 ?_
  refine va_put (D := (dC, dI)) (ci := 3) (v := .int a0_8) (ty := .int) (C := RX3) (T := TX3) (N := 14) hx hb hts zi_X3_fails_3 tyX3 tyX3_ok nmX3 hown hK hP hD hS 0 rfl rfl 2 (by decide) (hts (.fieldLink RX3 48 "WaxTurns$Reade\x72" "faultPlace" "I") (List.mem_cons_of_mem _ (List.mem_append_left _ (List.mem_of_getElem? (i := 2) rfl)))) (fun _ h9 => h9) rfl (tyX3_ok 2 (by decide)) rfl rfl (Nat.le_of_ble_eq_true rfl) dX3_fails_10 (fun H locs hP hD hS => ?_)
  refine zs_0 (y := (a0, .inr (3, [a0g_0, .int a1, .int a0_8, a0g_3, a0g_4, a0g_5, a0g_6, a0g_7, .int a0_8, a0g_9, a0g_10, a0g_11, a0g_12, a0g_13]))) hP hD rfl (fun hP hD => ?_)
  refine lv_iconst (v := 0) hx hb dX3_fails_13 zk_iconst_0 ?_
  have hFe : FX = (0, a1.toInt, a0_8.toInt) := hF0
  exact W.zret (v := 0) hx hb hr rfl (fun t ht hW => ⟨⟨0, (), rfl, ⟨rfl, (congrArg Prod.fst hFe).symm⟩, a1, a0_8, (congrArg Prod.snd hFe), by rw [ht]; exact hP, va_K.moved hW.alike hK, hD⟩, hS.F ht⟩) hS.2.2 dX3_fails_14

set_option maxHeartbeats 4000000 in
set_option maxRecDepth 100000 in
theorem f_X3_scanWord (l : Launch) (dC : Nat → ClassId) (dI : Nat → Nat → Nat) (sz : Nat) (a0 : Nat) (a0g_0 a0g_1 a0g_2 a0g_4 a0g_5 a0g_6 a0g_12 a0g_13 : Value) (a0_3 : Nat) (a0_7 : Int32) (a0_8 : Int32) (a0_9 : Int32) (a0_10 : Int32) (a0_11 : Int64) (ka0_3 : ClassId) (fa0_3 : Nat → Int32) (ba0_7_l : (0 : Int) ≤ a0_7.toInt) (ba0_7_u : a0_7.toInt ≤ (900 : Int)) (ba0_8_l : (0 : Int) ≤ a0_8.toInt) (ba0_8_u : a0_8.toInt ≤ (900 : Int)) (ba0_9_l : (0 : Int) ≤ a0_9.toInt) (ba0_9_u : a0_9.toInt ≤ (900 : Int)) (ba0_10_l : (0 : Int) ≤ a0_10.toInt) (ba0_10_u : a0_10.toInt ≤ (4 : Int)) : zm l yX3_scanWord wsX3_scanWord ({ frames := 0, cells := 0, slots := 0, locals := 0 }) [.ref a0] dC dI sz [(a0, .inr (3, [a0g_0, a0g_1, a0g_2, .ref a0_3, a0g_4, a0g_5, a0g_6, .int a0_7, .int a0_8, .int a0_9, .int a0_10, .long a0_11, a0g_12, a0g_13])), (a0_3, .inl (ka0_3, 900, .inl (fa0_3)))] [(ka0_3, .byte)] (fun A _ => True) (fun A => va_Qv (fun (_ : Unit) => True) (fun (_ : Unit) (t : State) => ∃ na0_9 : Int32, ∃ na0_10 : Int32, ∃ na0_11 : Int64, ((0 : Int) ≤ na0_9.toInt ∧ na0_9.toInt ≤ 900) ∧ ((0 : Int) ≤ na0_10.toInt ∧ na0_10.toInt ≤ 4) ∧ (Ff_X3_scanWord a0_7.toInt a0_8.toInt a0_9.toInt (fl_A fa0_3) = (na0_9.toInt, na0_10.toInt, na0_11.toInt)) ∧ ax_B dC dI A [(a0, .inr (3, [a0g_0, a0g_1, a0g_2, .ref a0_3, a0g_4, a0g_5, a0g_6, .int a0_7, .int a0_8, .int na0_9, .int na0_10, .long na0_11, a0g_12, a0g_13])), (a0_3, .inl (ka0_3, 900, .inl (fa0_3)))] [(ka0_3, .byte)] t) A) := by
  refine zh (cc := cX3_scanWord) (maxL := 1) (ret := none) zn_RX3 rfl (Nat.le_of_ble_eq_true rfl) (fun p e s m below meth c A ls hx hb hml hr hts (hown : s.vm.findClass RX3 = some m.cls) hlocks hA hS hP hK hD hE (hl : lv_has ls 1 [(0, .ref a0)]) => ?_)
  generalize hFX : Ff_X3_scanWord a0_7.toInt a0_8.toInt a0_9.toInt (fl_A fa0_3) = FX at ⊢
  have hF0 := hFX.symm.trans (Ff_X3_scanWord.eq_1 a0_7.toInt a0_8.toInt a0_9.toInt (fl_A fa0_3))
  refine ai_open (fun K hK0 => ?_)
  refine (hK0 _ _ _).mpr ?_
  refine lv_aload_n hx hb dX3_scanWord_0 rfl (lv_at hl 0 rfl) ?_
  refine lv_lconst (v := 0) hx hb dX3_scanWord_1 (by decide) ?_
  refine va_put (D := (dC, dI)) (ci := 3) (v := .long 0) (ty := .long) (C := RX3) (T := TX3) (N := 14) hx hb hts zi_X3_scanWord_3 tyX3 tyX3_ok nmX3 hown hK hP hD hS 0 rfl rfl 11 (by decide) (hts (.fieldLink RX3 81 "WaxTurns$Reade\x72" "word" "J") (List.mem_cons_of_mem _ (List.mem_append_left _ (List.mem_of_getElem? (i := 0) rfl)))) (fun _ h9 => h9) rfl (tyX3_ok 11 (by decide)) rfl rfl (Nat.le_of_ble_eq_true rfl) dX3_scanWord_2 (fun H locs hP hD hS => ?_)
  refine zs_0 (y := (a0, .inr (3, [a0g_0, a0g_1, a0g_2, .ref a0_3, a0g_4, a0g_5, a0g_6, .int a0_7, .int a0_8, .int a0_9, .int a0_10, .long 0, a0g_12, a0g_13]))) hP hD rfl (fun hP hD => ?_)
  have J5 : ∀ (n : Nat) (j5a0_9 : Int32) (j5a0_11 : Int64) (H : Heap) (locs : List Loc) (ls : Array Slot), (901 : Int) - j5a0_9.toInt ≤ (n : Int) → (0 : Int) ≤ j5a0_9.toInt → j5a0_9.toInt ≤ (900 : Int) → (FX = fl_wh (fun t9 => Sf_X3_scanWord_5_1 a0_7.toInt a0_8.toInt (fl_A fa0_3) t9.1 t9.2) (0, 0, 0) n (j5a0_9.toInt, j5a0_11.toInt)) → va_P (dC, dI) vwCl [(a0, .inr (3, [a0g_0, a0g_1, a0g_2, .ref a0_3, a0g_4, a0g_5, a0g_6, .int a0_7, .int a0_8, .int j5a0_9, .int a0_10, .long j5a0_11, a0g_12, a0g_13])), (a0_3, .inl (ka0_3, 900, .inl (fa0_3)))] H → va_D A [(a0, .inr (3, [a0g_0, a0g_1, a0g_2, .ref a0_3, a0g_4, a0g_5, a0g_6, .int a0_7, .int a0_8, .int j5a0_9, .int a0_10, .long j5a0_11, a0g_12, a0g_13])), (a0_3, .inl (ka0_3, 900, .inl (fa0_3)))] → va_S A s.heap H locs → lv_has ls 1 [(0, .ref a0)] → K H locs (F0 m 5 ls []) := by
    intro n
    induction n with
    | zero =>
      intro j5a0_9 j5a0_11 H locs ls hm bj5a0_9_l bj5a0_9_u hF0 hP hD hS hl
      first | exact zg_0 hm bj5a0_9_u (by decide) | (have h8 := ai_min j5a0_9; have h9 := ai_max j5a0_9; exact absurd hm (by omega))
    | succ n ih5 =>
      intro j5a0_9 j5a0_11 H locs ls hm bj5a0_9_l bj5a0_9_u hF0 hP hD hS hl
      refine (hK0 _ _ _).mpr ?_
      have hm5 := hm
      obtain ⟨SX5, hSX5⟩ : ∃ q9, Sf_X3_scanWord_5_1 a0_7.toInt a0_8.toInt (fl_A fa0_3) j5a0_9.toInt j5a0_11.toInt = q9 := ⟨_, rfl⟩
      have hF1 := hSX5.symm.trans (Sf_X3_scanWord_5_1.eq_1 a0_7.toInt a0_8.toInt (fl_A fa0_3) j5a0_9.toInt j5a0_11.toInt)
      refine lv_aload_n hx hb dX3_scanWord_5 rfl (lv_at hl 0 rfl) ?_
      refine va_get (D := (dC, dI)) (ci := 3) (v := .int j5a0_9) (C := RX3) (T := TX3) (N := 14) hx hb hts zi_X3_scanWord_3 hown hK hP 0 rfl rfl 9 (by decide) (hts (.fieldLink RX3 51 "WaxTurns$Reade\x72" "behind" "I") (List.mem_cons_of_mem _ (List.mem_append_left _ (List.mem_of_getElem? (i := 1) rfl)))) (fun _ h9 => h9) rfl dX3_scanWord_6 ?_
      refine lv_aload_n hx hb dX3_scanWord_9 rfl (lv_at hl 0 rfl) ?_
      refine va_get (D := (dC, dI)) (ci := 3) (v := .int a0_7) (C := RX3) (T := TX3) (N := 14) hx hb hts zi_X3_scanWord_3 hown hK hP 0 rfl rfl 7 (by decide) (hts (.fieldLink RX3 36 "WaxTurns$Reade\x72" "end" "I") (List.mem_cons_of_mem _ (List.mem_append_left _ (List.mem_of_getElem? (i := 2) rfl)))) (fun _ h9 => h9) rfl dX3_scanWord_10 ?_
      have J79 : ∀ (H : Heap) (locs : List Loc) (ls : Array Slot), (FX = Gf_X3_scanWord_79_1 a0_8.toInt j5a0_9.toInt j5a0_11.toInt) → va_P (dC, dI) vwCl [(a0, .inr (3, [a0g_0, a0g_1, a0g_2, .ref a0_3, a0g_4, a0g_5, a0g_6, .int a0_7, .int a0_8, .int j5a0_9, .int a0_10, .long j5a0_11, a0g_12, a0g_13])), (a0_3, .inl (ka0_3, 900, .inl (fa0_3)))] H → va_D A [(a0, .inr (3, [a0g_0, a0g_1, a0g_2, .ref a0_3, a0g_4, a0g_5, a0g_6, .int a0_7, .int a0_8, .int j5a0_9, .int a0_10, .long j5a0_11, a0g_12, a0g_13])), (a0_3, .inl (ka0_3, 900, .inl (fa0_3)))] → va_S A s.heap H locs → lv_has ls 1 [(0, .ref a0)] → K H locs (F0 m 79 ls []) := by
        intro  H locs ls  hF0 hP hD hS hl
        refine (hK0 _ _ _).mpr ?_
        have hF0 := hF0.trans (Gf_X3_scanWord_79_1.eq_1 a0_8.toInt j5a0_9.toInt j5a0_11.toInt)
        refine lv_aload_n hx hb dX3_scanWord_79 rfl (lv_at hl 0 rfl) ?_
        refine lv_aload_n hx hb dX3_scanWord_80 rfl (lv_at hl 0 rfl) ?_
        refine va_get (D := (dC, dI)) (ci := 3) (v := .int j5a0_9) (C := RX3) (T := TX3) (N := 14) hx hb hts zi_X3_scanWord_3 hown hK hP 0 rfl rfl 9 (by decide) (hts (.fieldLink RX3 51 "WaxTurns$Reade\x72" "behind" "I") (List.mem_cons_of_mem _ (List.mem_append_left _ (List.mem_of_getElem? (i := 1) rfl)))) (fun _ h9 => h9) rfl dX3_scanWord_81 ?_
        refine lv_aload_n hx hb dX3_scanWord_84 rfl (lv_at hl 0 rfl) ?_
        refine va_get (D := (dC, dI)) (ci := 3) (v := .int a0_8) (C := RX3) (T := TX3) (N := 14) hx hb hts zi_X3_scanWord_3 hown hK hP 0 rfl rfl 8 (by decide) (hts (.fieldLink RX3 72 "WaxTurns$Reade\x72" "start" "I") (List.mem_cons_of_mem _ (List.mem_append_left _ (List.mem_of_getElem? (i := 4) rfl)))) (fun _ h9 => h9) rfl dX3_scanWord_85 ?_
        refine lv_isub hx hb dX3_scanWord_88 ?_
        refine lv_topi (fun x88 ex88 => ?_)
        have qx88 : x88.toInt = j5a0_9.toInt - a0_8.toInt := ai_sub ex88 ⟨bj5a0_9_l, bj5a0_9_u⟩ ⟨ba0_8_l, ba0_8_u⟩ (by decide) (by decide)
        have bx88 : (-900 : Int) ≤ x88.toInt ∧ x88.toInt ≤ 900 := ⟨by rw [qx88]; exact Int.sub_le_sub bj5a0_9_l ba0_8_u, by rw [qx88]; exact Int.sub_le_sub bj5a0_9_u ba0_8_l⟩
        have hF0 := hF0.trans (fl_lt_eq (show x88.toInt = j5a0_9.toInt - a0_8.toInt from qx88))
        refine lv_bipush (v := 8) hx hb dX3_scanWord_89 zk_bipush_8 ?_
        have J99 : ∀ (j99s0 : Int32) (H : Heap) (locs : List Loc) (ls : Array Slot), (1 : Int) ≤ j99s0.toInt → j99s0.toInt ≤ (4 : Int) → (FX = Gf_X3_scanWord_99_1 j5a0_9.toInt j5a0_11.toInt j99s0.toInt) → va_P (dC, dI) vwCl [(a0, .inr (3, [a0g_0, a0g_1, a0g_2, .ref a0_3, a0g_4, a0g_5, a0g_6, .int a0_7, .int a0_8, .int j5a0_9, .int a0_10, .long j5a0_11, a0g_12, a0g_13])), (a0_3, .inl (ka0_3, 900, .inl (fa0_3)))] H → va_D A [(a0, .inr (3, [a0g_0, a0g_1, a0g_2, .ref a0_3, a0g_4, a0g_5, a0g_6, .int a0_7, .int a0_8, .int j5a0_9, .int a0_10, .long j5a0_11, a0g_12, a0g_13])), (a0_3, .inl (ka0_3, 900, .inl (fa0_3)))] → va_S A s.heap H locs → lv_has ls 1 [] → K H locs (F0 m 99 ls [.int j99s0, .ref a0]) := by
          intro j99s0 H locs ls  bj99s0_l bj99s0_u hF0 hP hD hS hl
          refine (hK0 _ _ _).mpr ?_
          have hF0 := hF0.trans (Gf_X3_scanWord_99_1.eq_1 j5a0_9.toInt j5a0_11.toInt j99s0.toInt)
          refine va_put (D := (dC, dI)) (ci := 3) (v := .int j99s0) (ty := .int) (C := RX3) (T := TX3) (N := 14) hx hb hts zi_X3_scanWord_3 tyX3 tyX3_ok nmX3 hown hK hP hD hS 0 rfl rfl 10 (by decide) (hts (.fieldLink RX3 61 "WaxTurns$Reade\x72" "token" "I") (List.mem_cons_of_mem _ (List.mem_append_left _ (List.mem_of_getElem? (i := 5) rfl)))) (fun _ h9 => h9) rfl (tyX3_ok 10 (by decide)) rfl rfl (Nat.le_of_ble_eq_true rfl) dX3_scanWord_99 (fun H locs hP hD hS => ?_)
          refine zs_0 (y := (a0, .inr (3, [a0g_0, a0g_1, a0g_2, .ref a0_3, a0g_4, a0g_5, a0g_6, .int a0_7, .int a0_8, .int j5a0_9, .int j99s0, .long j5a0_11, a0g_12, a0g_13]))) hP hD rfl (fun hP hD => ?_)
          have hFe : FX = (j5a0_9.toInt, j99s0.toInt, j5a0_11.toInt) := hF0
          exact W.vret hx hb hr (fun t ht hW => ⟨⟨(), rfl, trivial, j5a0_9, j99s0, j5a0_11, ⟨bj5a0_9_l, bj5a0_9_u⟩, ⟨Int.le_trans (by decide) bj99s0_l, bj99s0_u⟩, hFe, by rw [ht]; exact hP, va_K.moved hW.alike hK, hD⟩, hS.F ht⟩) hS.2.2 dX3_scanWord_102
        refine lv_icmp_gt (tgt := 98) hx hb dX3_scanWord_91 (by decide) (fun c91 => ?_) (fun c91 => ?_)
        · have gc91 := ai_lt c91
          have l91t_x88 : (9 : Int) ≤ x88.toInt := ai_ltlo gc91 zq116
          have hF0 := hF0.trans (if_pos (show 8 < x88.toInt from gc91))
          refine lv_iconst (v := 4) hx hb dX3_scanWord_98 zk_iconst_4 ?_
          exact (hK0 _ _ _).mp (J99 4 _ _ _  (Int.le_trans zq135 zq68) zq67 (by rw [show (4 : Int32).toInt = 4 from by decide]; exact hF0) hP hD hS (lv_sub hl [] rfl))
        · have gc91 := ai_nlt c91
          have u91f_x88 : x88.toInt ≤ (8 : Int) := Int.le_trans gc91 zq28
          have hF0 := hF0.trans (if_neg (show ¬ (8 < x88.toInt) from Int.not_lt.mpr gc91))
          refine lv_iconst (v := 1) hx hb dX3_scanWord_94 zk_iconst_1 ?_
          refine lv_goto (tgt := 99) hx hb dX3_scanWord_95 (by decide) ?_
          exact (hK0 _ _ _).mp (J99 1 _ _ _  zq1 (Int.le_trans zq0 zq135) (by rw [show (1 : Int32).toInt = 1 from by decide]; exact hF0) hP hD hS (lv_sub hl [] rfl))
      refine lv_icmp_ge (tgt := 79) hx hb dX3_scanWord_13 (by decide) (fun c13 => ?_) (fun c13 => ?_)
      · have gc13 := ai_le c13
        have u13t_a0_7 : a0_7.toInt ≤ (900 : Int) := ba0_7_u
        have l13t_j5a0_9 : (0 : Int) ≤ j5a0_9.toInt := bj5a0_9_l
        have hF1 := hF1.trans (if_pos (show a0_7.toInt ≤ j5a0_9.toInt from gc13))
        have hF0 := hF0.trans (fl_wh_r (hSX5.trans hF1))
        exact (hK0 _ _ _).mp (J79  _ _ _   hF0 hP hD hS (lv_sub hl [0] rfl))
      · have gc13 := ai_nle c13
        have u13f_j5a0_9 : j5a0_9.toInt ≤ (899 : Int) := ai_lthi gc13 ba0_7_u
        have l13f_a0_7 : (1 : Int) ≤ a0_7.toInt := ai_ltlo gc13 bj5a0_9_l
        have hF1 := hF1.trans (if_neg (show ¬ (a0_7.toInt ≤ j5a0_9.toInt) from Int.not_le.mpr gc13))
        refine lv_aload_n hx hb dX3_scanWord_16 rfl (lv_at hl 0 rfl) ?_
        refine va_get (D := (dC, dI)) (ci := 3) (v := .ref a0_3) (C := RX3) (T := TX3) (N := 14) hx hb hts zi_X3_scanWord_3 hown hK hP 0 rfl rfl 3 (by decide) (hts (.fieldLink RX3 9 "WaxTurns$Reade\x72" "tape" "[B") (List.mem_cons_of_mem _ (List.mem_append_left _ (List.mem_of_getElem? (i := 3) rfl)))) (fun _ h9 => h9) rfl dX3_scanWord_17 ?_
        refine lv_aload_n hx hb dX3_scanWord_20 rfl (lv_at hl 0 rfl) ?_
        refine va_get (D := (dC, dI)) (ci := 3) (v := .int j5a0_9) (C := RX3) (T := TX3) (N := 14) hx hb hts zi_X3_scanWord_3 hown hK hP 0 rfl rfl 9 (by decide) (hts (.fieldLink RX3 51 "WaxTurns$Reade\x72" "behind" "I") (List.mem_cons_of_mem _ (List.mem_append_left _ (List.mem_of_getElem? (i := 1) rfl)))) (fun _ h9 => h9) rfl dX3_scanWord_21 ?_
        refine va_bald hx hb hK hP 1 0 rfl rfl (ai_in bj5a0_9_l u13f_j5a0_9 (by decide) (by decide)) dX3_scanWord_24 ?_
        refine lv_topi (fun x24 ex24 => ?_)
        have fqx24 := congrArg Int32.toInt ex24
        have hF1 := hF1.trans (fl_lt_eq (show x24.toInt = (fl_A fa0_3) (j5a0_9.toInt.toNat) from fqx24))
        refine lv_bipush (v := 97) hx hb dX3_scanWord_25 zk_bipush_97 ?_
        refine lv_icmp_lt (tgt := 79) hx hb dX3_scanWord_27 (by decide) (fun c27 => ?_) (fun c27 => ?_)
        · have gc27 := ai_lt c27
          have u27t_x24 : x24.toInt ≤ (96 : Int) := ai_lthi gc27 zq136
          have hF1 := hF1.trans (if_pos (show x24.toInt < 97 from gc27))
          have hF0 := hF0.trans (fl_wh_r (hSX5.trans hF1))
          exact (hK0 _ _ _).mp (J79  _ _ _   hF0 hP hD hS (lv_sub hl [0] rfl))
        · have gc27 := ai_nlt c27
          have l27f_x24 : (97 : Int) ≤ x24.toInt := Int.le_trans zq137 gc27
          have hF1 := hF1.trans (if_neg (show ¬ (x24.toInt < 97) from Int.not_lt.mpr gc27))
          refine lv_aload_n hx hb dX3_scanWord_30 rfl (lv_at hl 0 rfl) ?_
          refine va_get (D := (dC, dI)) (ci := 3) (v := .ref a0_3) (C := RX3) (T := TX3) (N := 14) hx hb hts zi_X3_scanWord_3 hown hK hP 0 rfl rfl 3 (by decide) (hts (.fieldLink RX3 9 "WaxTurns$Reade\x72" "tape" "[B") (List.mem_cons_of_mem _ (List.mem_append_left _ (List.mem_of_getElem? (i := 3) rfl)))) (fun _ h9 => h9) rfl dX3_scanWord_31 ?_
          refine lv_aload_n hx hb dX3_scanWord_34 rfl (lv_at hl 0 rfl) ?_
          refine va_get (D := (dC, dI)) (ci := 3) (v := .int j5a0_9) (C := RX3) (T := TX3) (N := 14) hx hb hts zi_X3_scanWord_3 hown hK hP 0 rfl rfl 9 (by decide) (hts (.fieldLink RX3 51 "WaxTurns$Reade\x72" "behind" "I") (List.mem_cons_of_mem _ (List.mem_append_left _ (List.mem_of_getElem? (i := 1) rfl)))) (fun _ h9 => h9) rfl dX3_scanWord_35 ?_
          refine va_bald hx hb hK hP 1 0 rfl rfl (ai_in bj5a0_9_l u13f_j5a0_9 (by decide) (by decide)) dX3_scanWord_38 ?_
          refine ax_ti x24 ex24.symm ?_
          refine lv_bipush (v := 122) hx hb dX3_scanWord_39 zk_bipush_122 ?_
          refine lv_icmp_gt (tgt := 79) hx hb dX3_scanWord_41 (by decide) (fun c41 => ?_) (fun c41 => ?_)
          · have gc41 := ai_lt c41
            have l41t_x24 : (123 : Int) ≤ x24.toInt := ai_ltlo gc41 zq138
            have hF1 := hF1.trans (if_pos (show 122 < x24.toInt from gc41))
            have hF0 := hF0.trans (fl_wh_r (hSX5.trans hF1))
            exact (hK0 _ _ _).mp (J79  _ _ _   hF0 hP hD hS (lv_sub hl [0] rfl))
          · have gc41 := ai_nlt c41
            have u41f_x24 : x24.toInt ≤ (122 : Int) := Int.le_trans gc41 zq139
            have hF1 := hF1.trans (if_neg (show ¬ (122 < x24.toInt) from Int.not_lt.mpr gc41))
            refine lv_aload_n hx hb dX3_scanWord_44 rfl (lv_at hl 0 rfl) ?_
            refine lv_aload_n hx hb dX3_scanWord_45 rfl (lv_at hl 0 rfl) ?_
            refine va_get (D := (dC, dI)) (ci := 3) (v := .long j5a0_11) (C := RX3) (T := TX3) (N := 14) hx hb hts zi_X3_scanWord_3 hown hK hP 0 rfl rfl 11 (by decide) (hts (.fieldLink RX3 81 "WaxTurns$Reade\x72" "word" "J") (List.mem_cons_of_mem _ (List.mem_append_left _ (List.mem_of_getElem? (i := 0) rfl)))) (fun _ h9 => h9) rfl dX3_scanWord_46 ?_
            refine lv_bipush (v := 8) hx hb dX3_scanWord_49 zk_bipush_8 ?_
            refine lv_lshl hx hb dX3_scanWord_51 rfl ?_
            refine lv_topl (fun x51 ex51 => ?_)
            have fqx51 := fl_lshl_eq ex51
            have hF1 := hF1.trans (fl_lt_eq (show x51.toInt = fl_lshl j5a0_11.toInt 8 from fqx51))
            refine lv_aload_n hx hb dX3_scanWord_52 rfl (lv_at hl 0 rfl) ?_
            refine va_get (D := (dC, dI)) (ci := 3) (v := .ref a0_3) (C := RX3) (T := TX3) (N := 14) hx hb hts zi_X3_scanWord_3 hown hK hP 0 rfl rfl 3 (by decide) (hts (.fieldLink RX3 9 "WaxTurns$Reade\x72" "tape" "[B") (List.mem_cons_of_mem _ (List.mem_append_left _ (List.mem_of_getElem? (i := 3) rfl)))) (fun _ h9 => h9) rfl dX3_scanWord_53 ?_
            refine lv_aload_n hx hb dX3_scanWord_56 rfl (lv_at hl 0 rfl) ?_
            refine va_get (D := (dC, dI)) (ci := 3) (v := .int j5a0_9) (C := RX3) (T := TX3) (N := 14) hx hb hts zi_X3_scanWord_3 hown hK hP 0 rfl rfl 9 (by decide) (hts (.fieldLink RX3 51 "WaxTurns$Reade\x72" "behind" "I") (List.mem_cons_of_mem _ (List.mem_append_left _ (List.mem_of_getElem? (i := 1) rfl)))) (fun _ h9 => h9) rfl dX3_scanWord_57 ?_
            refine va_bald hx hb hK hP 1 0 rfl rfl (ai_in bj5a0_9_l u13f_j5a0_9 (by decide) (by decide)) dX3_scanWord_60 ?_
            refine ax_ti x24 ex24.symm ?_
            obtain ⟨x61, ex61⟩ : ∃ y : Int64, y = (x24 : Int32).toInt64 := ⟨_, rfl⟩
            refine lv_i2l (v := x61) hx hb dX3_scanWord_61 ex61.symm ?_
            have fqx61 := fl_i2l_eq ex61
            have hF1 := hF1.trans (fl_lt_eq (show x61.toInt = x24.toInt from fqx61))
            refine lv_lor hx hb dX3_scanWord_62 ?_
            refine lv_topl (fun x62 ex62 => ?_)
            have fqx62 := fl_lor_eq ex62
            have hF1 := hF1.trans (fl_lt_eq (show x62.toInt = fl_lor x51.toInt x61.toInt from fqx62))
            refine va_put (D := (dC, dI)) (ci := 3) (v := .long x62) (ty := .long) (C := RX3) (T := TX3) (N := 14) hx hb hts zi_X3_scanWord_3 tyX3 tyX3_ok nmX3 hown hK hP hD hS 0 rfl rfl 11 (by decide) (hts (.fieldLink RX3 81 "WaxTurns$Reade\x72" "word" "J") (List.mem_cons_of_mem _ (List.mem_append_left _ (List.mem_of_getElem? (i := 0) rfl)))) (fun _ h9 => h9) rfl (tyX3_ok 11 (by decide)) rfl rfl (Nat.le_of_ble_eq_true rfl) dX3_scanWord_63 (fun H locs hP hD hS => ?_)
            refine zs_0 (y := (a0, .inr (3, [a0g_0, a0g_1, a0g_2, .ref a0_3, a0g_4, a0g_5, a0g_6, .int a0_7, .int a0_8, .int j5a0_9, .int a0_10, .long x62, a0g_12, a0g_13]))) hP hD rfl (fun hP hD => ?_)
            refine lv_aload_n hx hb dX3_scanWord_66 rfl (lv_at hl 0 rfl) ?_
            refine lv_dup hx hb dX3_scanWord_67 rfl ?_
            refine va_get (D := (dC, dI)) (ci := 3) (v := .int j5a0_9) (C := RX3) (T := TX3) (N := 14) hx hb hts zi_X3_scanWord_3 hown hK hP 0 rfl rfl 9 (by decide) (hts (.fieldLink RX3 51 "WaxTurns$Reade\x72" "behind" "I") (List.mem_cons_of_mem _ (List.mem_append_left _ (List.mem_of_getElem? (i := 1) rfl)))) (fun _ h9 => h9) rfl dX3_scanWord_68 ?_
            refine lv_iconst (v := 1) hx hb dX3_scanWord_71 zk_iconst_1 ?_
            refine lv_iadd hx hb dX3_scanWord_72 ?_
            refine lv_topi (fun x72 ex72 => ?_)
            have qx72 : x72.toInt = j5a0_9.toInt + (1 : Int32).toInt := ai_add ex72 ⟨bj5a0_9_l, u13f_j5a0_9⟩ ⟨zq1, zq0⟩ (by decide) (by decide)
            have bx72 : (1 : Int) ≤ x72.toInt ∧ x72.toInt ≤ 900 := ⟨by rw [qx72]; exact Int.add_le_add bj5a0_9_l zq1, by rw [qx72]; exact Int.add_le_add u13f_j5a0_9 zq0⟩
            have wx72 : x72.toInt = j5a0_9.toInt + 1 := qx72
            have hF1 := hF1.trans (fl_lt_eq (show x72.toInt = j5a0_9.toInt + 1 from qx72))
            refine va_put (D := (dC, dI)) (ci := 3) (v := .int x72) (ty := .int) (C := RX3) (T := TX3) (N := 14) hx hb hts zi_X3_scanWord_3 tyX3 tyX3_ok nmX3 hown hK hP hD hS 0 rfl rfl 9 (by decide) (hts (.fieldLink RX3 51 "WaxTurns$Reade\x72" "behind" "I") (List.mem_cons_of_mem _ (List.mem_append_left _ (List.mem_of_getElem? (i := 1) rfl)))) (fun _ h9 => h9) rfl (tyX3_ok 9 (by decide)) rfl rfl (Nat.le_of_ble_eq_true rfl) dX3_scanWord_73 (fun H locs hP hD hS => ?_)
            refine zs_0 (y := (a0, .inr (3, [a0g_0, a0g_1, a0g_2, .ref a0_3, a0g_4, a0g_5, a0g_6, .int a0_7, .int a0_8, .int x72, .int a0_10, .long x62, a0g_12, a0g_13]))) hP hD rfl (fun hP hD => ?_)
            refine lv_goto (tgt := 5) hx hb dX3_scanWord_76 (by decide) ?_
            exact (hK0 _ _ _).mp (ih5 x72 x62 _ _ _ (by have h0 := qx72; omega) (Int.le_trans zq4 bx72.1) bx72.2 (hF0.trans (fl_wh_l (hSX5.trans hF1))) hP hD hS (lv_sub hl [0] rfl))
  exact (hK0 _ _ _).mp (J5 901 a0_9 0 _ _ _ (by have h1 : (0 : Int) ≤ a0_9.toInt := ba0_9_l; have h2 : a0_9.toInt ≤ (900 : Int) := ba0_9_u; omega) ba0_9_l ba0_9_u (by rw [show (0 : Int64).toInt = 0 from by decide]; exact hF0) hP hD hS (lv_sub hl [0] rfl))

set_option maxHeartbeats 4000000 in
set_option maxRecDepth 100000 in
theorem f_X3_scanWhole (l : Launch) (dC : Nat → ClassId) (dI : Nat → Nat → Nat) (sz : Nat) (a0 : Nat) (a0g_0 a0g_1 a0g_2 a0g_4 a0g_5 a0g_6 a0g_11 a0g_13 : Value) (a0_3 : Nat) (a0_7 : Int32) (a0_8 : Int32) (a0_9 : Int32) (a0_10 : Int32) (a0_12 : Int32) (ka0_3 : ClassId) (fa0_3 : Nat → Int32) (ba0_7_l : (0 : Int) ≤ a0_7.toInt) (ba0_7_u : a0_7.toInt ≤ (900 : Int)) (ba0_8_l : (0 : Int) ≤ a0_8.toInt) (ba0_8_u : a0_8.toInt ≤ (900 : Int)) (ba0_9_l : (0 : Int) ≤ a0_9.toInt) (ba0_9_u : a0_9.toInt ≤ (900 : Int)) (ba0_10_l : (0 : Int) ≤ a0_10.toInt) (ba0_10_u : a0_10.toInt ≤ (4 : Int)) : zm l yX3_scanWhole wsX3_scanWhole ({ frames := 0, cells := 0, slots := 0, locals := 0 }) [.ref a0] dC dI sz [(a0, .inr (3, [a0g_0, a0g_1, a0g_2, .ref a0_3, a0g_4, a0g_5, a0g_6, .int a0_7, .int a0_8, .int a0_9, .int a0_10, a0g_11, .int a0_12, a0g_13])), (a0_3, .inl (ka0_3, 900, .inl (fa0_3)))] [(ka0_3, .byte)] (fun A _ => True) (fun A => va_Qv (fun (_ : Unit) => True) (fun (_ : Unit) (t : State) => ∃ na0_9 : Int32, ∃ na0_10 : Int32, ∃ na0_12 : Int32, ((0 : Int) ≤ na0_9.toInt ∧ na0_9.toInt ≤ 900) ∧ ((0 : Int) ≤ na0_10.toInt ∧ na0_10.toInt ≤ 4) ∧ (Ff_X3_scanWhole a0_7.toInt a0_8.toInt a0_9.toInt (fl_A fa0_3) = (na0_9.toInt, na0_10.toInt, na0_12.toInt)) ∧ ax_B dC dI A [(a0, .inr (3, [a0g_0, a0g_1, a0g_2, .ref a0_3, a0g_4, a0g_5, a0g_6, .int a0_7, .int a0_8, .int na0_9, .int na0_10, a0g_11, .int na0_12, a0g_13])), (a0_3, .inl (ka0_3, 900, .inl (fa0_3)))] [(ka0_3, .byte)] t) A) := by
  refine zh (cc := cX3_scanWhole) (maxL := 1) (ret := none) zn_RX3 rfl (Nat.le_of_ble_eq_true rfl) (fun p e s m below meth c A ls hx hb hml hr hts (hown : s.vm.findClass RX3 = some m.cls) hlocks hA hS hP hK hD hE (hl : lv_has ls 1 [(0, .ref a0)]) => ?_)
  generalize hFX : Ff_X3_scanWhole a0_7.toInt a0_8.toInt a0_9.toInt (fl_A fa0_3) = FX at ⊢
  have hF0 := hFX.symm.trans (Ff_X3_scanWhole.eq_1 a0_7.toInt a0_8.toInt a0_9.toInt (fl_A fa0_3))
  refine ai_open (fun K hK0 => ?_)
  refine (hK0 _ _ _).mpr ?_
  refine lv_aload_n hx hb dX3_scanWhole_0 rfl (lv_at hl 0 rfl) ?_
  refine lv_iconst (v := 0) hx hb dX3_scanWhole_1 zk_iconst_0 ?_
  refine va_put (D := (dC, dI)) (ci := 3) (v := .int 0) (ty := .int) (C := RX3) (T := TX3) (N := 14) hx hb hts zi_X3_scanWhole_3 tyX3 tyX3_ok nmX3 hown hK hP hD hS 0 rfl rfl 12 (by decide) (hts (.fieldLink RX3 85 "WaxTurns$Reade\x72" "whole" "I") (List.mem_cons_of_mem _ (List.mem_append_left _ (List.mem_of_getElem? (i := 0) rfl)))) (fun _ h9 => h9) rfl (tyX3_ok 12 (by decide)) rfl rfl (Nat.le_of_ble_eq_true rfl) dX3_scanWhole_2 (fun H locs hP hD hS => ?_)
  refine zs_0 (y := (a0, .inr (3, [a0g_0, a0g_1, a0g_2, .ref a0_3, a0g_4, a0g_5, a0g_6, .int a0_7, .int a0_8, .int a0_9, .int a0_10, a0g_11, .int 0, a0g_13]))) hP hD rfl (fun hP hD => ?_)
  have J5 : ∀ (n : Nat) (j5a0_9 : Int32) (j5a0_12 : Int32) (H : Heap) (locs : List Loc) (ls : Array Slot), (901 : Int) - j5a0_9.toInt ≤ (n : Int) → (0 : Int) ≤ j5a0_9.toInt → j5a0_9.toInt ≤ (900 : Int) → (FX = fl_wh (fun t9 => Sf_X3_scanWhole_5_1 a0_7.toInt a0_8.toInt (fl_A fa0_3) t9.1 t9.2) (0, 0, 0) n (j5a0_9.toInt, j5a0_12.toInt)) → va_P (dC, dI) vwCl [(a0, .inr (3, [a0g_0, a0g_1, a0g_2, .ref a0_3, a0g_4, a0g_5, a0g_6, .int a0_7, .int a0_8, .int j5a0_9, .int a0_10, a0g_11, .int j5a0_12, a0g_13])), (a0_3, .inl (ka0_3, 900, .inl (fa0_3)))] H → va_D A [(a0, .inr (3, [a0g_0, a0g_1, a0g_2, .ref a0_3, a0g_4, a0g_5, a0g_6, .int a0_7, .int a0_8, .int j5a0_9, .int a0_10, a0g_11, .int j5a0_12, a0g_13])), (a0_3, .inl (ka0_3, 900, .inl (fa0_3)))] → va_S A s.heap H locs → lv_has ls 1 [(0, .ref a0)] → K H locs (F0 m 5 ls []) := by
    intro n
    induction n with
    | zero =>
      intro j5a0_9 j5a0_12 H locs ls hm bj5a0_9_l bj5a0_9_u hF0 hP hD hS hl
      first | exact zg_0 hm bj5a0_9_u (by decide) | (have h8 := ai_min j5a0_9; have h9 := ai_max j5a0_9; exact absurd hm (by omega))
    | succ n ih5 =>
      intro j5a0_9 j5a0_12 H locs ls hm bj5a0_9_l bj5a0_9_u hF0 hP hD hS hl
      refine (hK0 _ _ _).mpr ?_
      have hm5 := hm
      obtain ⟨SX5, hSX5⟩ : ∃ q9, Sf_X3_scanWhole_5_1 a0_7.toInt a0_8.toInt (fl_A fa0_3) j5a0_9.toInt j5a0_12.toInt = q9 := ⟨_, rfl⟩
      have hF1 := hSX5.symm.trans (Sf_X3_scanWhole_5_1.eq_1 a0_7.toInt a0_8.toInt (fl_A fa0_3) j5a0_9.toInt j5a0_12.toInt)
      refine lv_aload_n hx hb dX3_scanWhole_5 rfl (lv_at hl 0 rfl) ?_
      refine va_get (D := (dC, dI)) (ci := 3) (v := .int j5a0_9) (C := RX3) (T := TX3) (N := 14) hx hb hts zi_X3_scanWhole_3 hown hK hP 0 rfl rfl 9 (by decide) (hts (.fieldLink RX3 51 "WaxTurns$Reade\x72" "behind" "I") (List.mem_cons_of_mem _ (List.mem_append_left _ (List.mem_of_getElem? (i := 1) rfl)))) (fun _ h9 => h9) rfl dX3_scanWhole_6 ?_
      refine lv_aload_n hx hb dX3_scanWhole_9 rfl (lv_at hl 0 rfl) ?_
      refine va_get (D := (dC, dI)) (ci := 3) (v := .int a0_7) (C := RX3) (T := TX3) (N := 14) hx hb hts zi_X3_scanWhole_3 hown hK hP 0 rfl rfl 7 (by decide) (hts (.fieldLink RX3 36 "WaxTurns$Reade\x72" "end" "I") (List.mem_cons_of_mem _ (List.mem_append_left _ (List.mem_of_getElem? (i := 2) rfl)))) (fun _ h9 => h9) rfl dX3_scanWhole_10 ?_
      have J81 : ∀ (H : Heap) (locs : List Loc) (ls : Array Slot), (FX = Gf_X3_scanWhole_81_1 a0_8.toInt j5a0_9.toInt j5a0_12.toInt) → va_P (dC, dI) vwCl [(a0, .inr (3, [a0g_0, a0g_1, a0g_2, .ref a0_3, a0g_4, a0g_5, a0g_6, .int a0_7, .int a0_8, .int j5a0_9, .int a0_10, a0g_11, .int j5a0_12, a0g_13])), (a0_3, .inl (ka0_3, 900, .inl (fa0_3)))] H → va_D A [(a0, .inr (3, [a0g_0, a0g_1, a0g_2, .ref a0_3, a0g_4, a0g_5, a0g_6, .int a0_7, .int a0_8, .int j5a0_9, .int a0_10, a0g_11, .int j5a0_12, a0g_13])), (a0_3, .inl (ka0_3, 900, .inl (fa0_3)))] → va_S A s.heap H locs → lv_has ls 1 [(0, .ref a0)] → K H locs (F0 m 81 ls []) := by
        intro  H locs ls  hF0 hP hD hS hl
        refine (hK0 _ _ _).mpr ?_
        have hF0 := hF0.trans (Gf_X3_scanWhole_81_1.eq_1 a0_8.toInt j5a0_9.toInt j5a0_12.toInt)
        refine lv_aload_n hx hb dX3_scanWhole_81 rfl (lv_at hl 0 rfl) ?_
        refine lv_aload_n hx hb dX3_scanWhole_82 rfl (lv_at hl 0 rfl) ?_
        refine va_get (D := (dC, dI)) (ci := 3) (v := .int j5a0_9) (C := RX3) (T := TX3) (N := 14) hx hb hts zi_X3_scanWhole_3 hown hK hP 0 rfl rfl 9 (by decide) (hts (.fieldLink RX3 51 "WaxTurns$Reade\x72" "behind" "I") (List.mem_cons_of_mem _ (List.mem_append_left _ (List.mem_of_getElem? (i := 1) rfl)))) (fun _ h9 => h9) rfl dX3_scanWhole_83 ?_
        refine lv_aload_n hx hb dX3_scanWhole_86 rfl (lv_at hl 0 rfl) ?_
        refine va_get (D := (dC, dI)) (ci := 3) (v := .int a0_8) (C := RX3) (T := TX3) (N := 14) hx hb hts zi_X3_scanWhole_3 hown hK hP 0 rfl rfl 8 (by decide) (hts (.fieldLink RX3 72 "WaxTurns$Reade\x72" "start" "I") (List.mem_cons_of_mem _ (List.mem_append_left _ (List.mem_of_getElem? (i := 4) rfl)))) (fun _ h9 => h9) rfl dX3_scanWhole_87 ?_
        refine lv_isub hx hb dX3_scanWhole_90 ?_
        refine lv_topi (fun x90 ex90 => ?_)
        have qx90 : x90.toInt = j5a0_9.toInt - a0_8.toInt := ai_sub ex90 ⟨bj5a0_9_l, bj5a0_9_u⟩ ⟨ba0_8_l, ba0_8_u⟩ (by decide) (by decide)
        have bx90 : (-900 : Int) ≤ x90.toInt ∧ x90.toInt ≤ 900 := ⟨by rw [qx90]; exact Int.sub_le_sub bj5a0_9_l ba0_8_u, by rw [qx90]; exact Int.sub_le_sub bj5a0_9_u ba0_8_l⟩
        have hF0 := hF0.trans (fl_lt_eq (show x90.toInt = j5a0_9.toInt - a0_8.toInt from qx90))
        refine lv_iconst (v := 3) hx hb dX3_scanWhole_91 zk_iconst_3 ?_
        have J100 : ∀ (j100s0 : Int32) (H : Heap) (locs : List Loc) (ls : Array Slot), (2 : Int) ≤ j100s0.toInt → j100s0.toInt ≤ (4 : Int) → (FX = Gf_X3_scanWhole_100_1 j5a0_9.toInt j5a0_12.toInt j100s0.toInt) → va_P (dC, dI) vwCl [(a0, .inr (3, [a0g_0, a0g_1, a0g_2, .ref a0_3, a0g_4, a0g_5, a0g_6, .int a0_7, .int a0_8, .int j5a0_9, .int a0_10, a0g_11, .int j5a0_12, a0g_13])), (a0_3, .inl (ka0_3, 900, .inl (fa0_3)))] H → va_D A [(a0, .inr (3, [a0g_0, a0g_1, a0g_2, .ref a0_3, a0g_4, a0g_5, a0g_6, .int a0_7, .int a0_8, .int j5a0_9, .int a0_10, a0g_11, .int j5a0_12, a0g_13])), (a0_3, .inl (ka0_3, 900, .inl (fa0_3)))] → va_S A s.heap H locs → lv_has ls 1 [] → K H locs (F0 m 100 ls [.int j100s0, .ref a0]) := by
          intro j100s0 H locs ls  bj100s0_l bj100s0_u hF0 hP hD hS hl
          refine (hK0 _ _ _).mpr ?_
          have hF0 := hF0.trans (Gf_X3_scanWhole_100_1.eq_1 j5a0_9.toInt j5a0_12.toInt j100s0.toInt)
          refine va_put (D := (dC, dI)) (ci := 3) (v := .int j100s0) (ty := .int) (C := RX3) (T := TX3) (N := 14) hx hb hts zi_X3_scanWhole_3 tyX3 tyX3_ok nmX3 hown hK hP hD hS 0 rfl rfl 10 (by decide) (hts (.fieldLink RX3 61 "WaxTurns$Reade\x72" "token" "I") (List.mem_cons_of_mem _ (List.mem_append_left _ (List.mem_of_getElem? (i := 5) rfl)))) (fun _ h9 => h9) rfl (tyX3_ok 10 (by decide)) rfl rfl (Nat.le_of_ble_eq_true rfl) dX3_scanWhole_100 (fun H locs hP hD hS => ?_)
          refine zs_0 (y := (a0, .inr (3, [a0g_0, a0g_1, a0g_2, .ref a0_3, a0g_4, a0g_5, a0g_6, .int a0_7, .int a0_8, .int j5a0_9, .int j100s0, a0g_11, .int j5a0_12, a0g_13]))) hP hD rfl (fun hP hD => ?_)
          have hFe : FX = (j5a0_9.toInt, j100s0.toInt, j5a0_12.toInt) := hF0
          exact W.vret hx hb hr (fun t ht hW => ⟨⟨(), rfl, trivial, j5a0_9, j100s0, j5a0_12, ⟨bj5a0_9_l, bj5a0_9_u⟩, ⟨Int.le_trans (by decide) bj100s0_l, bj100s0_u⟩, hFe, by rw [ht]; exact hP, va_K.moved hW.alike hK, hD⟩, hS.F ht⟩) hS.2.2 dX3_scanWhole_103
        refine lv_icmp_gt (tgt := 99) hx hb dX3_scanWhole_92 (by decide) (fun c92 => ?_) (fun c92 => ?_)
        · have gc92 := ai_lt c92
          have l92t_x90 : (4 : Int) ≤ x90.toInt := ai_ltlo gc92 zq8
          have hF0 := hF0.trans (if_pos (show 3 < x90.toInt from gc92))
          refine lv_iconst (v := 4) hx hb dX3_scanWhole_99 zk_iconst_4 ?_
          exact (hK0 _ _ _).mp (J100 4 _ _ _  (Int.le_trans zq140 zq68) zq67 (by rw [show (4 : Int32).toInt = 4 from by decide]; exact hF0) hP hD hS (lv_sub hl [] rfl))
        · have gc92 := ai_nlt c92
          have u92f_x90 : x90.toInt ≤ (3 : Int) := Int.le_trans gc92 zq9
          have hF0 := hF0.trans (if_neg (show ¬ (3 < x90.toInt) from Int.not_lt.mpr gc92))
          refine lv_iconst (v := 2) hx hb dX3_scanWhole_95 zk_iconst_2 ?_
          refine lv_goto (tgt := 100) hx hb dX3_scanWhole_96 (by decide) ?_
          exact (hK0 _ _ _).mp (J100 2 _ _ _  zq12 (Int.le_trans zq13 zq140) (by rw [show (2 : Int32).toInt = 2 from by decide]; exact hF0) hP hD hS (lv_sub hl [] rfl))
      refine lv_icmp_ge (tgt := 81) hx hb dX3_scanWhole_13 (by decide) (fun c13 => ?_) (fun c13 => ?_)
      · have gc13 := ai_le c13
        have u13t_a0_7 : a0_7.toInt ≤ (900 : Int) := ba0_7_u
        have l13t_j5a0_9 : (0 : Int) ≤ j5a0_9.toInt := bj5a0_9_l
        have hF1 := hF1.trans (if_pos (show a0_7.toInt ≤ j5a0_9.toInt from gc13))
        have hF0 := hF0.trans (fl_wh_r (hSX5.trans hF1))
        exact (hK0 _ _ _).mp (J81  _ _ _   hF0 hP hD hS (lv_sub hl [0] rfl))
      · have gc13 := ai_nle c13
        have u13f_j5a0_9 : j5a0_9.toInt ≤ (899 : Int) := ai_lthi gc13 ba0_7_u
        have l13f_a0_7 : (1 : Int) ≤ a0_7.toInt := ai_ltlo gc13 bj5a0_9_l
        have hF1 := hF1.trans (if_neg (show ¬ (a0_7.toInt ≤ j5a0_9.toInt) from Int.not_le.mpr gc13))
        refine lv_aload_n hx hb dX3_scanWhole_16 rfl (lv_at hl 0 rfl) ?_
        refine va_get (D := (dC, dI)) (ci := 3) (v := .ref a0_3) (C := RX3) (T := TX3) (N := 14) hx hb hts zi_X3_scanWhole_3 hown hK hP 0 rfl rfl 3 (by decide) (hts (.fieldLink RX3 9 "WaxTurns$Reade\x72" "tape" "[B") (List.mem_cons_of_mem _ (List.mem_append_left _ (List.mem_of_getElem? (i := 3) rfl)))) (fun _ h9 => h9) rfl dX3_scanWhole_17 ?_
        refine lv_aload_n hx hb dX3_scanWhole_20 rfl (lv_at hl 0 rfl) ?_
        refine va_get (D := (dC, dI)) (ci := 3) (v := .int j5a0_9) (C := RX3) (T := TX3) (N := 14) hx hb hts zi_X3_scanWhole_3 hown hK hP 0 rfl rfl 9 (by decide) (hts (.fieldLink RX3 51 "WaxTurns$Reade\x72" "behind" "I") (List.mem_cons_of_mem _ (List.mem_append_left _ (List.mem_of_getElem? (i := 1) rfl)))) (fun _ h9 => h9) rfl dX3_scanWhole_21 ?_
        refine va_bald hx hb hK hP 1 0 rfl rfl (ai_in bj5a0_9_l u13f_j5a0_9 (by decide) (by decide)) dX3_scanWhole_24 ?_
        refine lv_topi (fun x24 ex24 => ?_)
        have fqx24 := congrArg Int32.toInt ex24
        have hF1 := hF1.trans (fl_lt_eq (show x24.toInt = (fl_A fa0_3) (j5a0_9.toInt.toNat) from fqx24))
        refine lv_bipush (v := 48) hx hb dX3_scanWhole_25 zk_bipush_48 ?_
        refine lv_icmp_lt (tgt := 81) hx hb dX3_scanWhole_27 (by decide) (fun c27 => ?_) (fun c27 => ?_)
        · have gc27 := ai_lt c27
          have u27t_x24 : x24.toInt ≤ (47 : Int) := ai_lthi gc27 zq141
          have hF1 := hF1.trans (if_pos (show x24.toInt < 48 from gc27))
          have hF0 := hF0.trans (fl_wh_r (hSX5.trans hF1))
          exact (hK0 _ _ _).mp (J81  _ _ _   hF0 hP hD hS (lv_sub hl [0] rfl))
        · have gc27 := ai_nlt c27
          have l27f_x24 : (48 : Int) ≤ x24.toInt := Int.le_trans zq142 gc27
          have hF1 := hF1.trans (if_neg (show ¬ (x24.toInt < 48) from Int.not_lt.mpr gc27))
          refine lv_aload_n hx hb dX3_scanWhole_30 rfl (lv_at hl 0 rfl) ?_
          refine va_get (D := (dC, dI)) (ci := 3) (v := .ref a0_3) (C := RX3) (T := TX3) (N := 14) hx hb hts zi_X3_scanWhole_3 hown hK hP 0 rfl rfl 3 (by decide) (hts (.fieldLink RX3 9 "WaxTurns$Reade\x72" "tape" "[B") (List.mem_cons_of_mem _ (List.mem_append_left _ (List.mem_of_getElem? (i := 3) rfl)))) (fun _ h9 => h9) rfl dX3_scanWhole_31 ?_
          refine lv_aload_n hx hb dX3_scanWhole_34 rfl (lv_at hl 0 rfl) ?_
          refine va_get (D := (dC, dI)) (ci := 3) (v := .int j5a0_9) (C := RX3) (T := TX3) (N := 14) hx hb hts zi_X3_scanWhole_3 hown hK hP 0 rfl rfl 9 (by decide) (hts (.fieldLink RX3 51 "WaxTurns$Reade\x72" "behind" "I") (List.mem_cons_of_mem _ (List.mem_append_left _ (List.mem_of_getElem? (i := 1) rfl)))) (fun _ h9 => h9) rfl dX3_scanWhole_35 ?_
          refine va_bald hx hb hK hP 1 0 rfl rfl (ai_in bj5a0_9_l u13f_j5a0_9 (by decide) (by decide)) dX3_scanWhole_38 ?_
          refine ax_ti x24 ex24.symm ?_
          refine lv_bipush (v := 57) hx hb dX3_scanWhole_39 zk_bipush_57 ?_
          refine lv_icmp_gt (tgt := 81) hx hb dX3_scanWhole_41 (by decide) (fun c41 => ?_) (fun c41 => ?_)
          · have gc41 := ai_lt c41
            have l41t_x24 : (58 : Int) ≤ x24.toInt := ai_ltlo gc41 zq143
            have hF1 := hF1.trans (if_pos (show 57 < x24.toInt from gc41))
            have hF0 := hF0.trans (fl_wh_r (hSX5.trans hF1))
            exact (hK0 _ _ _).mp (J81  _ _ _   hF0 hP hD hS (lv_sub hl [0] rfl))
          · have gc41 := ai_nlt c41
            have u41f_x24 : x24.toInt ≤ (57 : Int) := Int.le_trans gc41 zq144
            have hF1 := hF1.trans (if_neg (show ¬ (57 < x24.toInt) from Int.not_lt.mpr gc41))
            refine lv_aload_n hx hb dX3_scanWhole_44 rfl (lv_at hl 0 rfl) ?_
            refine lv_bipush (v := 10) hx hb dX3_scanWhole_45 zk_bipush_10 ?_
            refine lv_aload_n hx hb dX3_scanWhole_47 rfl (lv_at hl 0 rfl) ?_
            refine va_get (D := (dC, dI)) (ci := 3) (v := .int j5a0_12) (C := RX3) (T := TX3) (N := 14) hx hb hts zi_X3_scanWhole_3 hown hK hP 0 rfl rfl 12 (by decide) (hts (.fieldLink RX3 85 "WaxTurns$Reade\x72" "whole" "I") (List.mem_cons_of_mem _ (List.mem_append_left _ (List.mem_of_getElem? (i := 0) rfl)))) (fun _ h9 => h9) rfl dX3_scanWhole_48 ?_
            refine lv_imul hx hb dX3_scanWhole_51 ?_
            refine lv_topi (fun x51 ex51 => ?_)
            have fqx51 := fl_imul_eq ex51
            have hF1 := hF1.trans (fl_lt_eq (show x51.toInt = fl_imul 10 j5a0_12.toInt from fqx51))
            refine lv_aload_n hx hb dX3_scanWhole_52 rfl (lv_at hl 0 rfl) ?_
            refine va_get (D := (dC, dI)) (ci := 3) (v := .ref a0_3) (C := RX3) (T := TX3) (N := 14) hx hb hts zi_X3_scanWhole_3 hown hK hP 0 rfl rfl 3 (by decide) (hts (.fieldLink RX3 9 "WaxTurns$Reade\x72" "tape" "[B") (List.mem_cons_of_mem _ (List.mem_append_left _ (List.mem_of_getElem? (i := 3) rfl)))) (fun _ h9 => h9) rfl dX3_scanWhole_53 ?_
            refine lv_aload_n hx hb dX3_scanWhole_56 rfl (lv_at hl 0 rfl) ?_
            refine va_get (D := (dC, dI)) (ci := 3) (v := .int j5a0_9) (C := RX3) (T := TX3) (N := 14) hx hb hts zi_X3_scanWhole_3 hown hK hP 0 rfl rfl 9 (by decide) (hts (.fieldLink RX3 51 "WaxTurns$Reade\x72" "behind" "I") (List.mem_cons_of_mem _ (List.mem_append_left _ (List.mem_of_getElem? (i := 1) rfl)))) (fun _ h9 => h9) rfl dX3_scanWhole_57 ?_
            refine va_bald hx hb hK hP 1 0 rfl rfl (ai_in bj5a0_9_l u13f_j5a0_9 (by decide) (by decide)) dX3_scanWhole_60 ?_
            refine ax_ti x24 ex24.symm ?_
            refine lv_iadd hx hb dX3_scanWhole_61 ?_
            refine lv_topi (fun x61 ex61 => ?_)
            have fqx61 := fl_iadd_eq ex61
            have hF1 := hF1.trans (fl_lt_eq (show x61.toInt = fl_iadd x51.toInt x24.toInt from fqx61))
            refine lv_bipush (v := 48) hx hb dX3_scanWhole_62 zk_bipush_48 ?_
            refine lv_isub hx hb dX3_scanWhole_64 ?_
            refine lv_topi (fun x64 ex64 => ?_)
            have fqx64 := fl_isub_eq ex64
            have hF1 := hF1.trans (fl_lt_eq (show x64.toInt = fl_isub x61.toInt 48 from fqx64))
            refine va_put (D := (dC, dI)) (ci := 3) (v := .int x64) (ty := .int) (C := RX3) (T := TX3) (N := 14) hx hb hts zi_X3_scanWhole_3 tyX3 tyX3_ok nmX3 hown hK hP hD hS 0 rfl rfl 12 (by decide) (hts (.fieldLink RX3 85 "WaxTurns$Reade\x72" "whole" "I") (List.mem_cons_of_mem _ (List.mem_append_left _ (List.mem_of_getElem? (i := 0) rfl)))) (fun _ h9 => h9) rfl (tyX3_ok 12 (by decide)) rfl rfl (Nat.le_of_ble_eq_true rfl) dX3_scanWhole_65 (fun H locs hP hD hS => ?_)
            refine zs_0 (y := (a0, .inr (3, [a0g_0, a0g_1, a0g_2, .ref a0_3, a0g_4, a0g_5, a0g_6, .int a0_7, .int a0_8, .int j5a0_9, .int a0_10, a0g_11, .int x64, a0g_13]))) hP hD rfl (fun hP hD => ?_)
            refine lv_aload_n hx hb dX3_scanWhole_68 rfl (lv_at hl 0 rfl) ?_
            refine lv_dup hx hb dX3_scanWhole_69 rfl ?_
            refine va_get (D := (dC, dI)) (ci := 3) (v := .int j5a0_9) (C := RX3) (T := TX3) (N := 14) hx hb hts zi_X3_scanWhole_3 hown hK hP 0 rfl rfl 9 (by decide) (hts (.fieldLink RX3 51 "WaxTurns$Reade\x72" "behind" "I") (List.mem_cons_of_mem _ (List.mem_append_left _ (List.mem_of_getElem? (i := 1) rfl)))) (fun _ h9 => h9) rfl dX3_scanWhole_70 ?_
            refine lv_iconst (v := 1) hx hb dX3_scanWhole_73 zk_iconst_1 ?_
            refine lv_iadd hx hb dX3_scanWhole_74 ?_
            refine lv_topi (fun x74 ex74 => ?_)
            have qx74 : x74.toInt = j5a0_9.toInt + (1 : Int32).toInt := ai_add ex74 ⟨bj5a0_9_l, u13f_j5a0_9⟩ ⟨zq1, zq0⟩ (by decide) (by decide)
            have bx74 : (1 : Int) ≤ x74.toInt ∧ x74.toInt ≤ 900 := ⟨by rw [qx74]; exact Int.add_le_add bj5a0_9_l zq1, by rw [qx74]; exact Int.add_le_add u13f_j5a0_9 zq0⟩
            have wx74 : x74.toInt = j5a0_9.toInt + 1 := qx74
            have hF1 := hF1.trans (fl_lt_eq (show x74.toInt = j5a0_9.toInt + 1 from qx74))
            refine va_put (D := (dC, dI)) (ci := 3) (v := .int x74) (ty := .int) (C := RX3) (T := TX3) (N := 14) hx hb hts zi_X3_scanWhole_3 tyX3 tyX3_ok nmX3 hown hK hP hD hS 0 rfl rfl 9 (by decide) (hts (.fieldLink RX3 51 "WaxTurns$Reade\x72" "behind" "I") (List.mem_cons_of_mem _ (List.mem_append_left _ (List.mem_of_getElem? (i := 1) rfl)))) (fun _ h9 => h9) rfl (tyX3_ok 9 (by decide)) rfl rfl (Nat.le_of_ble_eq_true rfl) dX3_scanWhole_75 (fun H locs hP hD hS => ?_)
            refine zs_0 (y := (a0, .inr (3, [a0g_0, a0g_1, a0g_2, .ref a0_3, a0g_4, a0g_5, a0g_6, .int a0_7, .int a0_8, .int x74, .int a0_10, a0g_11, .int x64, a0g_13]))) hP hD rfl (fun hP hD => ?_)
            refine lv_goto (tgt := 5) hx hb dX3_scanWhole_78 (by decide) ?_
            exact (hK0 _ _ _).mp (ih5 x74 x64 _ _ _ (by have h0 := qx74; omega) (Int.le_trans zq4 bx74.1) bx74.2 (hF0.trans (fl_wh_l (hSX5.trans hF1))) hP hD hS (lv_sub hl [0] rfl))
  exact (hK0 _ _ _).mp (J5 901 a0_9 0 _ _ _ (by have h1 : (0 : Int) ≤ a0_9.toInt := ba0_9_l; have h2 : a0_9.toInt ≤ (900 : Int) := ba0_9_u; omega) ba0_9_l ba0_9_u (by rw [show (0 : Int32).toInt = 0 from by decide]; exact hF0) hP hD hS (lv_sub hl [0] rfl))
end P311_00_f
section P311_01_f
set_option maxHeartbeats 4000000 in
set_option maxRecDepth 100000 in
theorem f_X3_advance (l : Launch) (dC : Nat → ClassId) (dI : Nat → Nat → Nat) (sz : Nat) (a0 : Nat) (a0g_0 a0g_1 a0g_2 a0g_4 a0g_5 a0g_6 a0g_13 : Value) (a0_3 : Nat) (a0_7 : Int32) (a0_8 : Int32) (a0_9 : Int32) (a0_10 : Int32) (a0_11 : Int64) (a0_12 : Int32) (ka0_3 : ClassId) (fa0_3 : Nat → Int32) (ba0_7_l : (0 : Int) ≤ a0_7.toInt) (ba0_7_u : a0_7.toInt ≤ (900 : Int)) (ba0_8_l : (0 : Int) ≤ a0_8.toInt) (ba0_8_u : a0_8.toInt ≤ (900 : Int)) (ba0_9_l : (0 : Int) ≤ a0_9.toInt) (ba0_9_u : a0_9.toInt ≤ (900 : Int)) (ba0_10_l : (0 : Int) ≤ a0_10.toInt) (ba0_10_u : a0_10.toInt ≤ (4 : Int)) : zm l yX3_advance wsX3_advance ({ frames := 1, cells := 0, slots := 0, locals := 20 }) [.ref a0] dC dI sz [(a0, .inr (3, [a0g_0, a0g_1, a0g_2, .ref a0_3, a0g_4, a0g_5, a0g_6, .int a0_7, .int a0_8, .int a0_9, .int a0_10, .long a0_11, .int a0_12, a0g_13])), (a0_3, .inl (ka0_3, 900, .inl (fa0_3)))] [(ka0_3, .byte)] (fun A _ => True) (fun A => va_Qv (fun (_ : Unit) => True) (fun (_ : Unit) (t : State) => ∃ na0_8 : Int32, ∃ na0_9 : Int32, ∃ na0_10 : Int32, ∃ na0_11 : Int64, ∃ na0_12 : Int32, ((0 : Int) ≤ na0_8.toInt ∧ na0_8.toInt ≤ 900) ∧ ((0 : Int) ≤ na0_9.toInt ∧ na0_9.toInt ≤ 900) ∧ ((0 : Int) ≤ na0_10.toInt ∧ na0_10.toInt ≤ 4) ∧ (Ff_X3_advance a0_7.toInt a0_9.toInt a0_11.toInt a0_12.toInt (fl_A fa0_3) = (na0_8.toInt, na0_9.toInt, na0_10.toInt, na0_11.toInt, na0_12.toInt)) ∧ ax_B dC dI A [(a0, .inr (3, [a0g_0, a0g_1, a0g_2, .ref a0_3, a0g_4, a0g_5, a0g_6, .int a0_7, .int na0_8, .int na0_9, .int na0_10, .long na0_11, .int na0_12, a0g_13])), (a0_3, .inl (ka0_3, 900, .inl (fa0_3)))] [(ka0_3, .byte)] t) A) := by
  refine zh (cc := cX3_advance) (maxL := 1) (ret := none) zn_RX3 rfl (Nat.le_of_ble_eq_true rfl) (fun p e s m below meth c A ls hx hb hml hr hts (hown : s.vm.findClass RX3 = some m.cls) hlocks hA hS hP hK hD hE (hl : lv_has ls 1 [(0, .ref a0)]) => ?_)
  generalize hFX : Ff_X3_advance a0_7.toInt a0_9.toInt a0_11.toInt a0_12.toInt (fl_A fa0_3) = FX at ⊢
  have hF0 := hFX.symm.trans (Ff_X3_advance.eq_1 a0_7.toInt a0_9.toInt a0_11.toInt a0_12.toInt (fl_A fa0_3))
  refine ai_open (fun K hK0 => ?_)
  refine (hK0 _ _ _).mpr ?_
  have J0 : ∀ (n : Nat) (j0a0_9 : Int32) (H : Heap) (locs : List Loc) (ls : Array Slot), (901 : Int) - j0a0_9.toInt ≤ (n : Int) → (0 : Int) ≤ j0a0_9.toInt → j0a0_9.toInt ≤ (900 : Int) → (FX = fl_wh (Sf_X3_advance_0_1 a0_7.toInt a0_11.toInt a0_12.toInt (fl_A fa0_3)) (0, 0, 0, 0, 0) n j0a0_9.toInt) → va_P (dC, dI) vwCl [(a0, .inr (3, [a0g_0, a0g_1, a0g_2, .ref a0_3, a0g_4, a0g_5, a0g_6, .int a0_7, .int a0_8, .int j0a0_9, .int a0_10, .long a0_11, .int a0_12, a0g_13])), (a0_3, .inl (ka0_3, 900, .inl (fa0_3)))] H → va_D A [(a0, .inr (3, [a0g_0, a0g_1, a0g_2, .ref a0_3, a0g_4, a0g_5, a0g_6, .int a0_7, .int a0_8, .int j0a0_9, .int a0_10, .long a0_11, .int a0_12, a0g_13])), (a0_3, .inl (ka0_3, 900, .inl (fa0_3)))] → va_S A s.heap H locs → lv_has ls 1 [(0, .ref a0)] → K H locs (F0 m 0 ls []) := by
    intro n
    induction n with
    | zero =>
      intro j0a0_9 H locs ls hm bj0a0_9_l bj0a0_9_u hF0 hP hD hS hl
      first | exact zg_0 hm bj0a0_9_u (by decide) | (have h8 := ai_min j0a0_9; have h9 := ai_max j0a0_9; exact absurd hm (by omega))
    | succ n ih0 =>
      intro j0a0_9 H locs ls hm bj0a0_9_l bj0a0_9_u hF0 hP hD hS hl
      refine (hK0 _ _ _).mpr ?_
      have hm0 := hm
      obtain ⟨SX0, hSX0⟩ : ∃ q9, Sf_X3_advance_0_1 a0_7.toInt a0_11.toInt a0_12.toInt (fl_A fa0_3) j0a0_9.toInt = q9 := ⟨_, rfl⟩
      have hF1 := hSX0.symm.trans (Sf_X3_advance_0_1.eq_1 a0_7.toInt a0_11.toInt a0_12.toInt (fl_A fa0_3) j0a0_9.toInt)
      refine lv_aload_n hx hb dX3_advance_0 rfl (lv_at hl 0 rfl) ?_
      refine va_get (D := (dC, dI)) (ci := 3) (v := .int j0a0_9) (C := RX3) (T := TX3) (N := 14) hx hb hts zi_X3_advance_3 hown hK hP 0 rfl rfl 9 (by decide) (hts (.fieldLink RX3 51 "WaxTurns$Reade\x72" "behind" "I") (List.mem_cons_of_mem _ (List.mem_append_left _ (List.mem_of_getElem? (i := 0) rfl)))) (fun _ h9 => h9) rfl dX3_advance_1 ?_
      refine lv_aload_n hx hb dX3_advance_4 rfl (lv_at hl 0 rfl) ?_
      refine va_get (D := (dC, dI)) (ci := 3) (v := .int a0_7) (C := RX3) (T := TX3) (N := 14) hx hb hts zi_X3_advance_3 hown hK hP 0 rfl rfl 7 (by decide) (hts (.fieldLink RX3 36 "WaxTurns$Reade\x72" "end" "I") (List.mem_cons_of_mem _ (List.mem_append_left _ (List.mem_of_getElem? (i := 1) rfl)))) (fun _ h9 => h9) rfl dX3_advance_5 ?_
      have J38 : ∀ (H : Heap) (locs : List Loc) (ls : Array Slot), (FX = Gf_X3_advance_38_1 a0_7.toInt a0_11.toInt a0_12.toInt (fl_A fa0_3) j0a0_9.toInt) → va_P (dC, dI) vwCl [(a0, .inr (3, [a0g_0, a0g_1, a0g_2, .ref a0_3, a0g_4, a0g_5, a0g_6, .int a0_7, .int a0_8, .int j0a0_9, .int a0_10, .long a0_11, .int a0_12, a0g_13])), (a0_3, .inl (ka0_3, 900, .inl (fa0_3)))] H → va_D A [(a0, .inr (3, [a0g_0, a0g_1, a0g_2, .ref a0_3, a0g_4, a0g_5, a0g_6, .int a0_7, .int a0_8, .int j0a0_9, .int a0_10, .long a0_11, .int a0_12, a0g_13])), (a0_3, .inl (ka0_3, 900, .inl (fa0_3)))] → va_S A s.heap H locs → lv_has ls 1 [(0, .ref a0)] → K H locs (F0 m 38 ls []) := by
        intro  H locs ls  hF0 hP hD hS hl
        refine (hK0 _ _ _).mpr ?_
        have hF0 := hF0.trans (Gf_X3_advance_38_1.eq_1 a0_7.toInt a0_11.toInt a0_12.toInt (fl_A fa0_3) j0a0_9.toInt)
        refine lv_aload_n hx hb dX3_advance_38 rfl (lv_at hl 0 rfl) ?_
        refine lv_aload_n hx hb dX3_advance_39 rfl (lv_at hl 0 rfl) ?_
        refine va_get (D := (dC, dI)) (ci := 3) (v := .int j0a0_9) (C := RX3) (T := TX3) (N := 14) hx hb hts zi_X3_advance_3 hown hK hP 0 rfl rfl 9 (by decide) (hts (.fieldLink RX3 51 "WaxTurns$Reade\x72" "behind" "I") (List.mem_cons_of_mem _ (List.mem_append_left _ (List.mem_of_getElem? (i := 0) rfl)))) (fun _ h9 => h9) rfl dX3_advance_40 ?_
        refine va_put (D := (dC, dI)) (ci := 3) (v := .int j0a0_9) (ty := .int) (C := RX3) (T := TX3) (N := 14) hx hb hts zi_X3_advance_3 tyX3 tyX3_ok nmX3 hown hK hP hD hS 0 rfl rfl 8 (by decide) (hts (.fieldLink RX3 72 "WaxTurns$Reade\x72" "start" "I") (List.mem_cons_of_mem _ (List.mem_append_left _ (List.mem_of_getElem? (i := 3) rfl)))) (fun _ h9 => h9) rfl (tyX3_ok 8 (by decide)) rfl rfl (Nat.le_of_ble_eq_true rfl) dX3_advance_43 (fun H locs hP hD hS => ?_)
        refine zs_0 (y := (a0, .inr (3, [a0g_0, a0g_1, a0g_2, .ref a0_3, a0g_4, a0g_5, a0g_6, .int a0_7, .int j0a0_9, .int j0a0_9, .int a0_10, .long a0_11, .int a0_12, a0g_13]))) hP hD rfl (fun hP hD => ?_)
        refine lv_aload_n hx hb dX3_advance_46 rfl (lv_at hl 0 rfl) ?_
        refine va_get (D := (dC, dI)) (ci := 3) (v := .int j0a0_9) (C := RX3) (T := TX3) (N := 14) hx hb hts zi_X3_advance_3 hown hK hP 0 rfl rfl 8 (by decide) (hts (.fieldLink RX3 72 "WaxTurns$Reade\x72" "start" "I") (List.mem_cons_of_mem _ (List.mem_append_left _ (List.mem_of_getElem? (i := 3) rfl)))) (fun _ h9 => h9) rfl dX3_advance_47 ?_
        refine lv_aload_n hx hb dX3_advance_50 rfl (lv_at hl 0 rfl) ?_
        refine va_get (D := (dC, dI)) (ci := 3) (v := .int a0_7) (C := RX3) (T := TX3) (N := 14) hx hb hts zi_X3_advance_3 hown hK hP 0 rfl rfl 7 (by decide) (hts (.fieldLink RX3 36 "WaxTurns$Reade\x72" "end" "I") (List.mem_cons_of_mem _ (List.mem_append_left _ (List.mem_of_getElem? (i := 1) rfl)))) (fun _ h9 => h9) rfl dX3_advance_51 ?_
        refine lv_icmp_lt (tgt := 65) hx hb dX3_advance_54 (by decide) (fun c54 => ?_) (fun c54 => ?_)
        · have gc54 := ai_lt c54
          have u54t_j0a0_9 : j0a0_9.toInt ≤ (899 : Int) := ai_lthi gc54 ba0_7_u
          have l54t_a0_7 : (1 : Int) ≤ a0_7.toInt := ai_ltlo gc54 bj0a0_9_l
          have hF0 := hF0.trans (if_pos (show j0a0_9.toInt < a0_7.toInt from gc54))
          refine lv_aload_n hx hb dX3_advance_65 rfl (lv_at hl 0 rfl) ?_
          refine va_get (D := (dC, dI)) (ci := 3) (v := .ref a0_3) (C := RX3) (T := TX3) (N := 14) hx hb hts zi_X3_advance_3 hown hK hP 0 rfl rfl 3 (by decide) (hts (.fieldLink RX3 9 "WaxTurns$Reade\x72" "tape" "[B") (List.mem_cons_of_mem _ (List.mem_append_left _ (List.mem_of_getElem? (i := 2) rfl)))) (fun _ h9 => h9) rfl dX3_advance_66 ?_
          refine lv_aload_n hx hb dX3_advance_69 rfl (lv_at hl 0 rfl) ?_
          refine va_get (D := (dC, dI)) (ci := 3) (v := .int j0a0_9) (C := RX3) (T := TX3) (N := 14) hx hb hts zi_X3_advance_3 hown hK hP 0 rfl rfl 8 (by decide) (hts (.fieldLink RX3 72 "WaxTurns$Reade\x72" "start" "I") (List.mem_cons_of_mem _ (List.mem_append_left _ (List.mem_of_getElem? (i := 3) rfl)))) (fun _ h9 => h9) rfl dX3_advance_70 ?_
          refine va_bald hx hb hK hP 1 0 rfl rfl (ai_in bj0a0_9_l u54t_j0a0_9 (by decide) (by decide)) dX3_advance_73 ?_
          refine lv_topi (fun x73 ex73 => ?_)
          have fqx73 := congrArg Int32.toInt ex73
          have hF0 := hF0.trans (fl_lt_eq (show x73.toInt = (fl_A fa0_3) (j0a0_9.toInt.toNat) from fqx73))
          refine lv_bipush (v := 59) hx hb dX3_advance_74 zk_bipush_59 ?_
          refine lv_icmp_ne (tgt := 97) hx hb dX3_advance_76 (by decide) (fun c76 => ?_) (fun c76 => ?_)
          · have gc76 := ai_ne c76
            have hF0 := hF0.trans (if_neg (show ¬ (x73.toInt = 59) from  gc76))
            refine lv_aload_n hx hb dX3_advance_97 rfl (lv_at hl 0 rfl) ?_
            refine va_get (D := (dC, dI)) (ci := 3) (v := .ref a0_3) (C := RX3) (T := TX3) (N := 14) hx hb hts zi_X3_advance_3 hown hK hP 0 rfl rfl 3 (by decide) (hts (.fieldLink RX3 9 "WaxTurns$Reade\x72" "tape" "[B") (List.mem_cons_of_mem _ (List.mem_append_left _ (List.mem_of_getElem? (i := 2) rfl)))) (fun _ h9 => h9) rfl dX3_advance_98 ?_
            refine lv_aload_n hx hb dX3_advance_101 rfl (lv_at hl 0 rfl) ?_
            refine va_get (D := (dC, dI)) (ci := 3) (v := .int j0a0_9) (C := RX3) (T := TX3) (N := 14) hx hb hts zi_X3_advance_3 hown hK hP 0 rfl rfl 8 (by decide) (hts (.fieldLink RX3 72 "WaxTurns$Reade\x72" "start" "I") (List.mem_cons_of_mem _ (List.mem_append_left _ (List.mem_of_getElem? (i := 3) rfl)))) (fun _ h9 => h9) rfl dX3_advance_102 ?_
            refine va_bald hx hb hK hP 1 0 rfl rfl (ai_in bj0a0_9_l u54t_j0a0_9 (by decide) (by decide)) dX3_advance_105 ?_
            refine ax_ti x73 ex73.symm ?_
            refine lv_bipush (v := 97) hx hb dX3_advance_106 zk_bipush_97 ?_
            have J132 : ∀ (H : Heap) (locs : List Loc) (ls : Array Slot), (FX = Gf_X3_advance_132_1 a0_7.toInt a0_11.toInt a0_12.toInt (fl_A fa0_3) j0a0_9.toInt) → va_P (dC, dI) vwCl [(a0, .inr (3, [a0g_0, a0g_1, a0g_2, .ref a0_3, a0g_4, a0g_5, a0g_6, .int a0_7, .int j0a0_9, .int j0a0_9, .int a0_10, .long a0_11, .int a0_12, a0g_13])), (a0_3, .inl (ka0_3, 900, .inl (fa0_3)))] H → va_D A [(a0, .inr (3, [a0g_0, a0g_1, a0g_2, .ref a0_3, a0g_4, a0g_5, a0g_6, .int a0_7, .int j0a0_9, .int j0a0_9, .int a0_10, .long a0_11, .int a0_12, a0g_13])), (a0_3, .inl (ka0_3, 900, .inl (fa0_3)))] → va_S A s.heap H locs → lv_has ls 1 [(0, .ref a0)] → K H locs (F0 m 132 ls []) := by
              intro  H locs ls  hF0 hP hD hS hl
              refine (hK0 _ _ _).mpr ?_
              have hF0 := hF0.trans (Gf_X3_advance_132_1.eq_1 a0_7.toInt a0_11.toInt a0_12.toInt (fl_A fa0_3) j0a0_9.toInt)
              refine lv_aload_n hx hb dX3_advance_132 rfl (lv_at hl 0 rfl) ?_
              refine va_get (D := (dC, dI)) (ci := 3) (v := .ref a0_3) (C := RX3) (T := TX3) (N := 14) hx hb hts zi_X3_advance_3 hown hK hP 0 rfl rfl 3 (by decide) (hts (.fieldLink RX3 9 "WaxTurns$Reade\x72" "tape" "[B") (List.mem_cons_of_mem _ (List.mem_append_left _ (List.mem_of_getElem? (i := 2) rfl)))) (fun _ h9 => h9) rfl dX3_advance_133 ?_
              refine lv_aload_n hx hb dX3_advance_136 rfl (lv_at hl 0 rfl) ?_
              refine va_get (D := (dC, dI)) (ci := 3) (v := .int j0a0_9) (C := RX3) (T := TX3) (N := 14) hx hb hts zi_X3_advance_3 hown hK hP 0 rfl rfl 8 (by decide) (hts (.fieldLink RX3 72 "WaxTurns$Reade\x72" "start" "I") (List.mem_cons_of_mem _ (List.mem_append_left _ (List.mem_of_getElem? (i := 3) rfl)))) (fun _ h9 => h9) rfl dX3_advance_137 ?_
              refine va_bald hx hb hK hP 1 0 rfl rfl (ai_in bj0a0_9_l u54t_j0a0_9 (by decide) (by decide)) dX3_advance_140 ?_
              refine lv_topi (fun x140 ex140 => ?_)
              have fqx140 := congrArg Int32.toInt ex140
              have hF0 := hF0.trans (fl_lt_eq (show x140.toInt = (fl_A fa0_3) (j0a0_9.toInt.toNat) from fqx140))
              refine lv_bipush (v := 48) hx hb dX3_advance_141 zk_bipush_48 ?_
              have J167 : ∀ (H : Heap) (locs : List Loc) (ls : Array Slot), (FX = Gf_X3_advance_167_1 a0_11.toInt a0_12.toInt j0a0_9.toInt) → va_P (dC, dI) vwCl [(a0, .inr (3, [a0g_0, a0g_1, a0g_2, .ref a0_3, a0g_4, a0g_5, a0g_6, .int a0_7, .int j0a0_9, .int j0a0_9, .int a0_10, .long a0_11, .int a0_12, a0g_13])), (a0_3, .inl (ka0_3, 900, .inl (fa0_3)))] H → va_D A [(a0, .inr (3, [a0g_0, a0g_1, a0g_2, .ref a0_3, a0g_4, a0g_5, a0g_6, .int a0_7, .int j0a0_9, .int j0a0_9, .int a0_10, .long a0_11, .int a0_12, a0g_13])), (a0_3, .inl (ka0_3, 900, .inl (fa0_3)))] → va_S A s.heap H locs → lv_has ls 1 [(0, .ref a0)] → K H locs (F0 m 167 ls []) := by
                intro  H locs ls  hF0 hP hD hS hl
                refine (hK0 _ _ _).mpr ?_
                have hF0 := hF0.trans (Gf_X3_advance_167_1.eq_1 a0_11.toInt a0_12.toInt j0a0_9.toInt)
                refine lv_aload_n hx hb dX3_advance_167 rfl (lv_at hl 0 rfl) ?_
                refine lv_iconst (v := 4) hx hb dX3_advance_168 zk_iconst_4 ?_
                refine va_put (D := (dC, dI)) (ci := 3) (v := .int 4) (ty := .int) (C := RX3) (T := TX3) (N := 14) hx hb hts zi_X3_advance_3 tyX3 tyX3_ok nmX3 hown hK hP hD hS 0 rfl rfl 10 (by decide) (hts (.fieldLink RX3 61 "WaxTurns$Reade\x72" "token" "I") (List.mem_cons_of_mem _ (List.mem_append_left _ (List.mem_of_getElem? (i := 4) rfl)))) (fun _ h9 => h9) rfl (tyX3_ok 10 (by decide)) rfl rfl (Nat.le_of_ble_eq_true rfl) dX3_advance_169 (fun H locs hP hD hS => ?_)
                refine zs_0 (y := (a0, .inr (3, [a0g_0, a0g_1, a0g_2, .ref a0_3, a0g_4, a0g_5, a0g_6, .int a0_7, .int j0a0_9, .int j0a0_9, .int 4, .long a0_11, .int a0_12, a0g_13]))) hP hD rfl (fun hP hD => ?_)
                have hFe : FX = (j0a0_9.toInt, j0a0_9.toInt, 4, a0_11.toInt, a0_12.toInt) := hF0
                exact W.vret hx hb hr (fun t ht hW => ⟨⟨(), rfl, trivial, j0a0_9, j0a0_9, 4, a0_11, a0_12, ⟨bj0a0_9_l, Int.le_trans u54t_j0a0_9 (by decide)⟩, ⟨bj0a0_9_l, Int.le_trans u54t_j0a0_9 (by decide)⟩, ⟨Int.le_trans (by decide) zq68, zq67⟩, hFe, by rw [ht]; exact hP, va_K.moved hW.alike hK, hD⟩, hS.F ht⟩) hS.2.2 dX3_advance_172
              refine lv_icmp_lt (tgt := 167) hx hb dX3_advance_143 (by decide) (fun c143 => ?_) (fun c143 => ?_)
              · have gc143 := ai_lt c143
                have u143t_x140 : x140.toInt ≤ (47 : Int) := ai_lthi gc143 zq141
                have hF0 := hF0.trans (if_pos (show x140.toInt < 48 from gc143))
                exact (hK0 _ _ _).mp (J167  _ _ _   hF0 hP hD hS (lv_sub hl [0] rfl))
              · have gc143 := ai_nlt c143
                have l143f_x140 : (48 : Int) ≤ x140.toInt := Int.le_trans zq142 gc143
                have hF0 := hF0.trans (if_neg (show ¬ (x140.toInt < 48) from Int.not_lt.mpr gc143))
                refine lv_aload_n hx hb dX3_advance_146 rfl (lv_at hl 0 rfl) ?_
                refine va_get (D := (dC, dI)) (ci := 3) (v := .ref a0_3) (C := RX3) (T := TX3) (N := 14) hx hb hts zi_X3_advance_3 hown hK hP 0 rfl rfl 3 (by decide) (hts (.fieldLink RX3 9 "WaxTurns$Reade\x72" "tape" "[B") (List.mem_cons_of_mem _ (List.mem_append_left _ (List.mem_of_getElem? (i := 2) rfl)))) (fun _ h9 => h9) rfl dX3_advance_147 ?_
                refine lv_aload_n hx hb dX3_advance_150 rfl (lv_at hl 0 rfl) ?_
                refine va_get (D := (dC, dI)) (ci := 3) (v := .int j0a0_9) (C := RX3) (T := TX3) (N := 14) hx hb hts zi_X3_advance_3 hown hK hP 0 rfl rfl 8 (by decide) (hts (.fieldLink RX3 72 "WaxTurns$Reade\x72" "start" "I") (List.mem_cons_of_mem _ (List.mem_append_left _ (List.mem_of_getElem? (i := 3) rfl)))) (fun _ h9 => h9) rfl dX3_advance_151 ?_
                refine va_bald hx hb hK hP 1 0 rfl rfl (ai_in bj0a0_9_l u54t_j0a0_9 (by decide) (by decide)) dX3_advance_154 ?_
                refine ax_ti x140 ex140.symm ?_
                refine lv_bipush (v := 57) hx hb dX3_advance_155 zk_bipush_57 ?_
                refine lv_icmp_gt (tgt := 167) hx hb dX3_advance_157 (by decide) (fun c157 => ?_) (fun c157 => ?_)
                · have gc157 := ai_lt c157
                  have l157t_x140 : (58 : Int) ≤ x140.toInt := ai_ltlo gc157 zq143
                  have hF0 := hF0.trans (if_pos (show 57 < x140.toInt from gc157))
                  exact (hK0 _ _ _).mp (J167  _ _ _   hF0 hP hD hS (lv_sub hl [0] rfl))
                · have gc157 := ai_nlt c157
                  have u157f_x140 : x140.toInt ≤ (57 : Int) := Int.le_trans gc157 zq144
                  have hF0 := hF0.trans (if_neg (show ¬ (57 < x140.toInt) from Int.not_lt.mpr gc157))
                  refine lv_aload_n hx hb dX3_advance_160 rfl (lv_at hl 0 rfl) ?_
                  have hKc := hK.sub (tys' := [(ka0_3, .byte)]) [0] rfl
                  refine va_callv (va_runV (As := []) (rest := []) ⟨hx, hb, hml, hown, hts⟩ (f_X3_scanWhole l dC dI H.size a0 a0g_0 a0g_1 a0g_2 a0g_4 a0g_5 a0g_6 (.long a0_11) a0g_13 a0_3 a0_7 j0a0_9 j0a0_9 a0_10 a0_12 ka0_3 fa0_3 (Int.le_trans zq4 l54t_a0_7) ba0_7_u bj0a0_9_l (Int.le_trans u54t_j0a0_9 zq145) bj0a0_9_l (Int.le_trans u54t_j0a0_9 zq145) ba0_10_l ba0_10_u) (cwV 0 hts gX3_advance_X3_scanWhole rfl rfl rfl zd_X3_scanWhole ⟨Nat.le_of_ble_eq_true rfl, Nat.le_of_ble_eq_true rfl⟩) ⟨ax_blind (fun _ _ _ _ _ => trivial), zr_3 hKc (zp_P2 hP) (q0 := 0) rfl, ax_pre (zp_P2 hP) hKc (zp_D2 hD) (fun _ _ => trivial)⟩ rfl rfl hl.1 rfl (lv_room (Nat.le_of_ble_eq_true rfl)) dX3_advance_161 ⟨Nat.le_of_ble_eq_true rfl, Nat.le_of_ble_eq_true rfl⟩) hS (fun q _ h => zp_F2 hD hS hA q h) (zp_F2 hD hS hA) (fun u t H locs ht hvm hw => zx_3 (fun v161na0_9 v161na0_10 v161na0_12 => zy_3 (fun bv161na0_9 bv161na0_10 hraw161_0 hB hz1 hk1 hS1 => zo2 hB ht hP hD hk1 (zp_F2 hD hS hA) hS1 (fun hP hK1 hD hS => ?_))))
                  have hc161 : Ff_X3_scanWhole a0_7.toInt j0a0_9.toInt j0a0_9.toInt (fl_A fa0_3) = (v161na0_9.toInt, v161na0_10.toInt, v161na0_12.toInt) := hraw161_0
                  have hF0 := hF0.trans (fl_c3_eq hc161)
                  refine lv_goto (tgt := 172) hx hb dX3_advance_164 (by decide) ?_
                  have hFe : FX = (j0a0_9.toInt, v161na0_9.toInt, v161na0_10.toInt, a0_11.toInt, v161na0_12.toInt) := hF0
                  exact W.vret hx hb hr (fun t ht hW => ⟨⟨(), rfl, trivial, j0a0_9, v161na0_9, v161na0_10, a0_11, v161na0_12, ⟨bj0a0_9_l, Int.le_trans u54t_j0a0_9 (by decide)⟩, ⟨bv161na0_9.1, bv161na0_9.2⟩, ⟨bv161na0_10.1, bv161na0_10.2⟩, hFe, by rw [ht]; exact hP, va_K.moved hW.alike hK, hD⟩, hS.F ht⟩) hS.2.2 dX3_advance_172
            refine lv_icmp_lt (tgt := 132) hx hb dX3_advance_108 (by decide) (fun c108 => ?_) (fun c108 => ?_)
            · have gc108 := ai_lt c108
              have u108t_x73 : x73.toInt ≤ (96 : Int) := ai_lthi gc108 zq136
              have hF0 := hF0.trans (if_pos (show x73.toInt < 97 from gc108))
              exact (hK0 _ _ _).mp (J132  _ _ _   hF0 hP hD hS (lv_sub hl [0] rfl))
            · have gc108 := ai_nlt c108
              have l108f_x73 : (97 : Int) ≤ x73.toInt := Int.le_trans zq137 gc108
              have hF0 := hF0.trans (if_neg (show ¬ (x73.toInt < 97) from Int.not_lt.mpr gc108))
              refine lv_aload_n hx hb dX3_advance_111 rfl (lv_at hl 0 rfl) ?_
              refine va_get (D := (dC, dI)) (ci := 3) (v := .ref a0_3) (C := RX3) (T := TX3) (N := 14) hx hb hts zi_X3_advance_3 hown hK hP 0 rfl rfl 3 (by decide) (hts (.fieldLink RX3 9 "WaxTurns$Reade\x72" "tape" "[B") (List.mem_cons_of_mem _ (List.mem_append_left _ (List.mem_of_getElem? (i := 2) rfl)))) (fun _ h9 => h9) rfl dX3_advance_112 ?_
              refine lv_aload_n hx hb dX3_advance_115 rfl (lv_at hl 0 rfl) ?_
              refine va_get (D := (dC, dI)) (ci := 3) (v := .int j0a0_9) (C := RX3) (T := TX3) (N := 14) hx hb hts zi_X3_advance_3 hown hK hP 0 rfl rfl 8 (by decide) (hts (.fieldLink RX3 72 "WaxTurns$Reade\x72" "start" "I") (List.mem_cons_of_mem _ (List.mem_append_left _ (List.mem_of_getElem? (i := 3) rfl)))) (fun _ h9 => h9) rfl dX3_advance_116 ?_
              refine va_bald hx hb hK hP 1 0 rfl rfl (ai_in bj0a0_9_l u54t_j0a0_9 (by decide) (by decide)) dX3_advance_119 ?_
              refine ax_ti x73 ex73.symm ?_
              refine lv_bipush (v := 122) hx hb dX3_advance_120 zk_bipush_122 ?_
              refine lv_icmp_gt (tgt := 132) hx hb dX3_advance_122 (by decide) (fun c122 => ?_) (fun c122 => ?_)
              · have gc122 := ai_lt c122
                have l122t_x73 : (123 : Int) ≤ x73.toInt := ai_ltlo gc122 zq138
                have hF0 := hF0.trans (if_pos (show 122 < x73.toInt from gc122))
                exact (hK0 _ _ _).mp (J132  _ _ _   hF0 hP hD hS (lv_sub hl [0] rfl))
              · have gc122 := ai_nlt c122
                have u122f_x73 : x73.toInt ≤ (122 : Int) := Int.le_trans gc122 zq139
                have hF0 := hF0.trans (if_neg (show ¬ (122 < x73.toInt) from Int.not_lt.mpr gc122))
                refine lv_aload_n hx hb dX3_advance_125 rfl (lv_at hl 0 rfl) ?_
                have hKc := hK.sub (tys' := [(ka0_3, .byte)]) [0] rfl
                refine va_callv (va_runV (As := []) (rest := []) ⟨hx, hb, hml, hown, hts⟩ (f_X3_scanWord l dC dI H.size a0 a0g_0 a0g_1 a0g_2 a0g_4 a0g_5 a0g_6 (.int a0_12) a0g_13 a0_3 a0_7 j0a0_9 j0a0_9 a0_10 a0_11 ka0_3 fa0_3 (Int.le_trans zq4 l54t_a0_7) ba0_7_u bj0a0_9_l (Int.le_trans u54t_j0a0_9 zq145) bj0a0_9_l (Int.le_trans u54t_j0a0_9 zq145) ba0_10_l ba0_10_u) (cwV 0 hts gX3_advance_X3_scanWord rfl rfl rfl zd_X3_scanWord ⟨Nat.le_of_ble_eq_true rfl, Nat.le_of_ble_eq_true rfl⟩) ⟨ax_blind (fun _ _ _ _ _ => trivial), zr_3 hKc (zp_P2 hP) (q0 := 0) rfl, ax_pre (zp_P2 hP) hKc (zp_D2 hD) (fun _ _ => trivial)⟩ rfl rfl hl.1 rfl (lv_room (Nat.le_of_ble_eq_true rfl)) dX3_advance_126 ⟨Nat.le_of_ble_eq_true rfl, Nat.le_of_ble_eq_true rfl⟩) hS (fun q _ h => zp_F2 hD hS hA q h) (zp_F2 hD hS hA) (fun u t H locs ht hvm hw => zx_3 (fun v126na0_9 v126na0_10 v126na0_11 => zy_3 (fun bv126na0_9 bv126na0_10 hraw126_0 hB hz1 hk1 hS1 => zo2 hB ht hP hD hk1 (zp_F2 hD hS hA) hS1 (fun hP hK1 hD hS => ?_))))
                have hc126 : Ff_X3_scanWord a0_7.toInt j0a0_9.toInt j0a0_9.toInt (fl_A fa0_3) = (v126na0_9.toInt, v126na0_10.toInt, v126na0_11.toInt) := hraw126_0
                have hF0 := hF0.trans (fl_c3_eq hc126)
                refine lv_goto (tgt := 172) hx hb dX3_advance_129 (by decide) ?_
                have hFe : FX = (j0a0_9.toInt, v126na0_9.toInt, v126na0_10.toInt, v126na0_11.toInt, a0_12.toInt) := hF0
                exact W.vret hx hb hr (fun t ht hW => ⟨⟨(), rfl, trivial, j0a0_9, v126na0_9, v126na0_10, v126na0_11, a0_12, ⟨bj0a0_9_l, Int.le_trans u54t_j0a0_9 (by decide)⟩, ⟨bv126na0_9.1, bv126na0_9.2⟩, ⟨bv126na0_10.1, bv126na0_10.2⟩, hFe, by rw [ht]; exact hP, va_K.moved hW.alike hK, hD⟩, hS.F ht⟩) hS.2.2 dX3_advance_172
          · have gc76 := ai_eq c76
            have u76f_x73 : x73.toInt ≤ (59 : Int) := Int.le_trans (Int.le_of_eq gc76) zq146
            have l76f_x73 : (59 : Int) ≤ x73.toInt := Int.le_trans zq147 (Int.le_of_eq gc76.symm)
            have hF0 := hF0.trans (if_pos (show x73.toInt = 59 from gc76))
            refine lv_aload_n hx hb dX3_advance_79 rfl (lv_at hl 0 rfl) ?_
            refine lv_iconst (v := 3) hx hb dX3_advance_80 zk_iconst_3 ?_
            refine va_put (D := (dC, dI)) (ci := 3) (v := .int 3) (ty := .int) (C := RX3) (T := TX3) (N := 14) hx hb hts zi_X3_advance_3 tyX3 tyX3_ok nmX3 hown hK hP hD hS 0 rfl rfl 10 (by decide) (hts (.fieldLink RX3 61 "WaxTurns$Reade\x72" "token" "I") (List.mem_cons_of_mem _ (List.mem_append_left _ (List.mem_of_getElem? (i := 4) rfl)))) (fun _ h9 => h9) rfl (tyX3_ok 10 (by decide)) rfl rfl (Nat.le_of_ble_eq_true rfl) dX3_advance_81 (fun H locs hP hD hS => ?_)
            refine zs_0 (y := (a0, .inr (3, [a0g_0, a0g_1, a0g_2, .ref a0_3, a0g_4, a0g_5, a0g_6, .int a0_7, .int j0a0_9, .int j0a0_9, .int 3, .long a0_11, .int a0_12, a0g_13]))) hP hD rfl (fun hP hD => ?_)
            refine lv_aload_n hx hb dX3_advance_84 rfl (lv_at hl 0 rfl) ?_
            refine lv_dup hx hb dX3_advance_85 rfl ?_
            refine va_get (D := (dC, dI)) (ci := 3) (v := .int j0a0_9) (C := RX3) (T := TX3) (N := 14) hx hb hts zi_X3_advance_3 hown hK hP 0 rfl rfl 9 (by decide) (hts (.fieldLink RX3 51 "WaxTurns$Reade\x72" "behind" "I") (List.mem_cons_of_mem _ (List.mem_append_left _ (List.mem_of_getElem? (i := 0) rfl)))) (fun _ h9 => h9) rfl dX3_advance_86 ?_
            refine lv_iconst (v := 1) hx hb dX3_advance_89 zk_iconst_1 ?_
            refine lv_iadd hx hb dX3_advance_90 ?_
            refine lv_topi (fun x90 ex90 => ?_)
            have qx90 : x90.toInt = j0a0_9.toInt + (1 : Int32).toInt := ai_add ex90 ⟨bj0a0_9_l, u54t_j0a0_9⟩ ⟨zq1, zq0⟩ (by decide) (by decide)
            have bx90 : (1 : Int) ≤ x90.toInt ∧ x90.toInt ≤ 900 := ⟨by rw [qx90]; exact Int.add_le_add bj0a0_9_l zq1, by rw [qx90]; exact Int.add_le_add u54t_j0a0_9 zq0⟩
            have wx90 : x90.toInt = j0a0_9.toInt + 1 := qx90
            have hF0 := hF0.trans (fl_lt_eq (show x90.toInt = j0a0_9.toInt + 1 from qx90))
            refine va_put (D := (dC, dI)) (ci := 3) (v := .int x90) (ty := .int) (C := RX3) (T := TX3) (N := 14) hx hb hts zi_X3_advance_3 tyX3 tyX3_ok nmX3 hown hK hP hD hS 0 rfl rfl 9 (by decide) (hts (.fieldLink RX3 51 "WaxTurns$Reade\x72" "behind" "I") (List.mem_cons_of_mem _ (List.mem_append_left _ (List.mem_of_getElem? (i := 0) rfl)))) (fun _ h9 => h9) rfl (tyX3_ok 9 (by decide)) rfl rfl (Nat.le_of_ble_eq_true rfl) dX3_advance_91 (fun H locs hP hD hS => ?_)
            refine zs_0 (y := (a0, .inr (3, [a0g_0, a0g_1, a0g_2, .ref a0_3, a0g_4, a0g_5, a0g_6, .int a0_7, .int j0a0_9, .int x90, .int 3, .long a0_11, .int a0_12, a0g_13]))) hP hD rfl (fun hP hD => ?_)
            refine lv_goto (tgt := 172) hx hb dX3_advance_94 (by decide) ?_
            have hFe : FX = (j0a0_9.toInt, x90.toInt, 3, a0_11.toInt, a0_12.toInt) := hF0
            exact W.vret hx hb hr (fun t ht hW => ⟨⟨(), rfl, trivial, j0a0_9, x90, 3, a0_11, a0_12, ⟨bj0a0_9_l, Int.le_trans u54t_j0a0_9 (by decide)⟩, ⟨Int.le_trans (by decide) bx90.1, bx90.2⟩, ⟨Int.le_trans (by decide) zq8, Int.le_trans zq9 (by decide)⟩, hFe, by rw [ht]; exact hP, va_K.moved hW.alike hK, hD⟩, hS.F ht⟩) hS.2.2 dX3_advance_172
        · have gc54 := ai_nlt c54
          have u54f_a0_7 : a0_7.toInt ≤ (900 : Int) := ba0_7_u
          have l54f_j0a0_9 : (0 : Int) ≤ j0a0_9.toInt := bj0a0_9_l
          have hF0 := hF0.trans (if_neg (show ¬ (j0a0_9.toInt < a0_7.toInt) from Int.not_lt.mpr gc54))
          refine lv_aload_n hx hb dX3_advance_57 rfl (lv_at hl 0 rfl) ?_
          refine lv_iconst (v := 0) hx hb dX3_advance_58 zk_iconst_0 ?_
          refine va_put (D := (dC, dI)) (ci := 3) (v := .int 0) (ty := .int) (C := RX3) (T := TX3) (N := 14) hx hb hts zi_X3_advance_3 tyX3 tyX3_ok nmX3 hown hK hP hD hS 0 rfl rfl 10 (by decide) (hts (.fieldLink RX3 61 "WaxTurns$Reade\x72" "token" "I") (List.mem_cons_of_mem _ (List.mem_append_left _ (List.mem_of_getElem? (i := 4) rfl)))) (fun _ h9 => h9) rfl (tyX3_ok 10 (by decide)) rfl rfl (Nat.le_of_ble_eq_true rfl) dX3_advance_59 (fun H locs hP hD hS => ?_)
          refine zs_0 (y := (a0, .inr (3, [a0g_0, a0g_1, a0g_2, .ref a0_3, a0g_4, a0g_5, a0g_6, .int a0_7, .int j0a0_9, .int j0a0_9, .int 0, .long a0_11, .int a0_12, a0g_13]))) hP hD rfl (fun hP hD => ?_)
          refine lv_goto (tgt := 172) hx hb dX3_advance_62 (by decide) ?_
          have hFe : FX = (j0a0_9.toInt, j0a0_9.toInt, 0, a0_11.toInt, a0_12.toInt) := hF0
          exact W.vret hx hb hr (fun t ht hW => ⟨⟨(), rfl, trivial, j0a0_9, j0a0_9, 0, a0_11, a0_12, ⟨l54f_j0a0_9, bj0a0_9_u⟩, ⟨l54f_j0a0_9, bj0a0_9_u⟩, ⟨zq5, Int.le_trans zq6 (by decide)⟩, hFe, by rw [ht]; exact hP, va_K.moved hW.alike hK, hD⟩, hS.F ht⟩) hS.2.2 dX3_advance_172
      refine lv_icmp_ge (tgt := 38) hx hb dX3_advance_8 (by decide) (fun c8 => ?_) (fun c8 => ?_)
      · have gc8 := ai_le c8
        have u8t_a0_7 : a0_7.toInt ≤ (900 : Int) := ba0_7_u
        have l8t_j0a0_9 : (0 : Int) ≤ j0a0_9.toInt := bj0a0_9_l
        have hF1 := hF1.trans (if_pos (show a0_7.toInt ≤ j0a0_9.toInt from gc8))
        have hF0 := hF0.trans (fl_wh_r (hSX0.trans hF1))
        exact (hK0 _ _ _).mp (J38  _ _ _   hF0 hP hD hS (lv_sub hl [0] rfl))
      · have gc8 := ai_nle c8
        have u8f_j0a0_9 : j0a0_9.toInt ≤ (899 : Int) := ai_lthi gc8 ba0_7_u
        have l8f_a0_7 : (1 : Int) ≤ a0_7.toInt := ai_ltlo gc8 bj0a0_9_l
        have hF1 := hF1.trans (if_neg (show ¬ (a0_7.toInt ≤ j0a0_9.toInt) from Int.not_le.mpr gc8))
        refine lv_aload_n hx hb dX3_advance_11 rfl (lv_at hl 0 rfl) ?_
        refine va_get (D := (dC, dI)) (ci := 3) (v := .ref a0_3) (C := RX3) (T := TX3) (N := 14) hx hb hts zi_X3_advance_3 hown hK hP 0 rfl rfl 3 (by decide) (hts (.fieldLink RX3 9 "WaxTurns$Reade\x72" "tape" "[B") (List.mem_cons_of_mem _ (List.mem_append_left _ (List.mem_of_getElem? (i := 2) rfl)))) (fun _ h9 => h9) rfl dX3_advance_12 ?_
        refine lv_aload_n hx hb dX3_advance_15 rfl (lv_at hl 0 rfl) ?_
        refine va_get (D := (dC, dI)) (ci := 3) (v := .int j0a0_9) (C := RX3) (T := TX3) (N := 14) hx hb hts zi_X3_advance_3 hown hK hP 0 rfl rfl 9 (by decide) (hts (.fieldLink RX3 51 "WaxTurns$Reade\x72" "behind" "I") (List.mem_cons_of_mem _ (List.mem_append_left _ (List.mem_of_getElem? (i := 0) rfl)))) (fun _ h9 => h9) rfl dX3_advance_16 ?_
        refine va_bald hx hb hK hP 1 0 rfl rfl (ai_in bj0a0_9_l u8f_j0a0_9 (by decide) (by decide)) dX3_advance_19 ?_
        refine lv_topi (fun x19 ex19 => ?_)
        have fqx19 := congrArg Int32.toInt ex19
        have hF1 := hF1.trans (fl_lt_eq (show x19.toInt = (fl_A fa0_3) (j0a0_9.toInt.toNat) from fqx19))
        refine lv_bipush (v := 32) hx hb dX3_advance_20 zk_bipush_32 ?_
        refine lv_icmp_ne (tgt := 38) hx hb dX3_advance_22 (by decide) (fun c22 => ?_) (fun c22 => ?_)
        · have gc22 := ai_ne c22
          have hF1 := hF1.trans (if_neg (show ¬ (x19.toInt = 32) from  gc22))
          have hF0 := hF0.trans (fl_wh_r (hSX0.trans hF1))
          exact (hK0 _ _ _).mp (J38  _ _ _   hF0 hP hD hS (lv_sub hl [0] rfl))
        · have gc22 := ai_eq c22
          have u22f_x19 : x19.toInt ≤ (32 : Int) := Int.le_trans (Int.le_of_eq gc22) zq148
          have l22f_x19 : (32 : Int) ≤ x19.toInt := Int.le_trans zq149 (Int.le_of_eq gc22.symm)
          have hF1 := hF1.trans (if_pos (show x19.toInt = 32 from gc22))
          refine lv_aload_n hx hb dX3_advance_25 rfl (lv_at hl 0 rfl) ?_
          refine lv_dup hx hb dX3_advance_26 rfl ?_
          refine va_get (D := (dC, dI)) (ci := 3) (v := .int j0a0_9) (C := RX3) (T := TX3) (N := 14) hx hb hts zi_X3_advance_3 hown hK hP 0 rfl rfl 9 (by decide) (hts (.fieldLink RX3 51 "WaxTurns$Reade\x72" "behind" "I") (List.mem_cons_of_mem _ (List.mem_append_left _ (List.mem_of_getElem? (i := 0) rfl)))) (fun _ h9 => h9) rfl dX3_advance_27 ?_
          refine lv_iconst (v := 1) hx hb dX3_advance_30 zk_iconst_1 ?_
          refine lv_iadd hx hb dX3_advance_31 ?_
          refine lv_topi (fun x31 ex31 => ?_)
          have qx31 : x31.toInt = j0a0_9.toInt + (1 : Int32).toInt := ai_add ex31 ⟨bj0a0_9_l, u8f_j0a0_9⟩ ⟨zq1, zq0⟩ (by decide) (by decide)
          have bx31 : (1 : Int) ≤ x31.toInt ∧ x31.toInt ≤ 900 := ⟨by rw [qx31]; exact Int.add_le_add bj0a0_9_l zq1, by rw [qx31]; exact Int.add_le_add u8f_j0a0_9 zq0⟩
          have wx31 : x31.toInt = j0a0_9.toInt + 1 := qx31
          have hF1 := hF1.trans (fl_lt_eq (show x31.toInt = j0a0_9.toInt + 1 from qx31))
          refine va_put (D := (dC, dI)) (ci := 3) (v := .int x31) (ty := .int) (C := RX3) (T := TX3) (N := 14) hx hb hts zi_X3_advance_3 tyX3 tyX3_ok nmX3 hown hK hP hD hS 0 rfl rfl 9 (by decide) (hts (.fieldLink RX3 51 "WaxTurns$Reade\x72" "behind" "I") (List.mem_cons_of_mem _ (List.mem_append_left _ (List.mem_of_getElem? (i := 0) rfl)))) (fun _ h9 => h9) rfl (tyX3_ok 9 (by decide)) rfl rfl (Nat.le_of_ble_eq_true rfl) dX3_advance_32 (fun H locs hP hD hS => ?_)
          refine zs_0 (y := (a0, .inr (3, [a0g_0, a0g_1, a0g_2, .ref a0_3, a0g_4, a0g_5, a0g_6, .int a0_7, .int a0_8, .int x31, .int a0_10, .long a0_11, .int a0_12, a0g_13]))) hP hD rfl (fun hP hD => ?_)
          refine lv_goto (tgt := 0) hx hb dX3_advance_35 (by decide) ?_
          exact (hK0 _ _ _).mp (ih0 x31 _ _ _ (by have h0 := qx31; omega) (Int.le_trans zq4 bx31.1) bx31.2 (hF0.trans (fl_wh_l (hSX0.trans hF1))) hP hD hS (lv_sub hl [0] rfl))
  exact (hK0 _ _ _).mp (J0 901 a0_9 _ _ _ (by have h1 : (0 : Int) ≤ a0_9.toInt := ba0_9_l; have h2 : a0_9.toInt ≤ (900 : Int) := ba0_9_u; omega) ba0_9_l ba0_9_u hF0 hP hD hS (lv_sub hl [0] rfl))

set_option maxHeartbeats 4000000 in
set_option maxRecDepth 100000 in
theorem f_X3_isWord (l : Launch) (dC : Nat → ClassId) (dI : Nat → Nat → Nat) (sz : Nat) (a0 : Nat) (a1 : Nat) (a0g_0 a0g_1 a0g_2 a0g_3 a0g_4 a0g_5 a0g_6 a0g_7 a0g_8 a0g_9 a0g_12 a0g_13 : Value) (a0_10 : Int32) (a0_11 : Int64) (na1 : Nat) (ca1 : Nat → Int32) (ba0_10_l : (0 : Int) ≤ a0_10.toInt) (ba0_10_u : a0_10.toInt ≤ (4 : Int)) : zm l yX3_isWord wsX3_isWord ({ frames := 4, cells := 0, slots := 0, locals := 85 }) [.ref a0, .ref a1] dC dI sz [(a0, .inr (3, [a0g_0, a0g_1, a0g_2, a0g_3, a0g_4, a0g_5, a0g_6, a0g_7, a0g_8, a0g_9, .int a0_10, .long a0_11, a0g_12, a0g_13]))] [] (fun A U => sxc_W a1 na1 ca1 A U) (fun A => va_Qi (fun (r : Int32) (_ : Unit) => ((r = 1 ∧ (1 : Int) ≤ a0_10.toInt ∧ a0_10.toInt ≤ (1 : Int)) ∨ (r = 0)) ∧ r.toInt = Ff_X3_isWord a0_10.toInt a0_11.toInt (na1 : Int) (fl_A ca1)) (fun (_ : Unit) (t : State) => ax_B dC dI A [(a0, .inr (3, [a0g_0, a0g_1, a0g_2, a0g_3, a0g_4, a0g_5, a0g_6, a0g_7, a0g_8, a0g_9, .int a0_10, .long a0_11, a0g_12, a0g_13]))] [] t) A) := by
  refine zh (cc := cX3_isWord) (maxL := 5) (ret := (some .boolean)) zn_RX3 rfl (Nat.le_of_ble_eq_true rfl) (fun p e s m below meth c A ls hx hb hml hr hts (hown : s.vm.findClass RX3 = some m.cls) hlocks hA hS hP hK hD hE (hl : lv_has ls 5 [(0, .ref a0), (1, .ref a1)]) => ?_)
  have hE0 := hE
  generalize hFX : Ff_X3_isWord a0_10.toInt a0_11.toInt (na1 : Int) (fl_A ca1) = FX at ⊢
  have hF0 := hFX.symm.trans (Ff_X3_isWord.eq_1 a0_10.toInt a0_11.toInt (na1 : Int) (fl_A ca1))
  refine ai_open (fun K hK0 => ?_)
  refine (hK0 _ _ _).mpr ?_
  refine lv_aload_n hx hb dX3_isWord_0 rfl (lv_at hl 0 rfl) ?_
  refine va_get (D := (dC, dI)) (ci := 3) (v := .int a0_10) (C := RX3) (T := TX3) (N := 14) hx hb hts zi_X3_isWord_3 hown hK hP 0 rfl rfl 10 (by decide) (hts (.fieldLink RX3 61 "WaxTurns$Reade\x72" "token" "I") (zm_X3_isWord_r1 (List.mem_of_getElem? (i := 0) rfl))) (fun _ h9 => h9) rfl dX3_isWord_1 ?_
  refine lv_iconst (v := 1) hx hb dX3_isWord_4 zk_iconst_1 ?_
  refine lv_icmp_eq (tgt := 10) hx hb dX3_isWord_5 (by decide) (fun c5 => ?_) (fun c5 => ?_)
  · have gc5 := ai_eq c5
    have u5t_a0_10 : a0_10.toInt ≤ (1 : Int) := Int.le_trans (Int.le_of_eq gc5) zq0
    have l5t_a0_10 : (1 : Int) ≤ a0_10.toInt := Int.le_trans zq1 (Int.le_of_eq gc5.symm)
    have hF0 := hF0.trans (if_pos (show a0_10.toInt = 1 from gc5))
    refine lv_lconst (v := 0) hx hb dX3_isWord_10 (by decide) ?_
    refine lv_lstore_n (lv' := [(2, .long 0), (0, .ref a0), (1, .ref a1)]) hx hb dX3_isWord_11 rfl hl (by decide) rfl (fun ls hl => ?_)
    refine lv_iconst (v := 0) hx hb dX3_isWord_12 zk_iconst_0 ?_
    refine lv_istore (lv' := [(4, .int 0), (2, .long 0), (0, .ref a0), (1, .ref a1)]) hx hb dX3_isWord_13 hl (by decide) rfl (fun ls hl => ?_)
    have J15 : ∀ (n : Nat) (j15l4 : Int32) (j15l2 : Int64) (H : Heap) (locs : List Loc) (ls : Array Slot), (9 : Int) - j15l4.toInt ≤ (n : Int) → (0 : Int) ≤ j15l4.toInt → j15l4.toInt ≤ (8 : Int) → (FX = fl_wh (fun t9 => Sf_X3_isWord_15_1 a0_11.toInt (na1 : Int) (fl_A ca1) t9.1 t9.2) 0 n (j15l4.toInt, j15l2.toInt)) → va_P (dC, dI) vwCl [(a0, .inr (3, [a0g_0, a0g_1, a0g_2, a0g_3, a0g_4, a0g_5, a0g_6, a0g_7, a0g_8, a0g_9, .int a0_10, .long a0_11, a0g_12, a0g_13]))] H → va_D A [(a0, .inr (3, [a0g_0, a0g_1, a0g_2, a0g_3, a0g_4, a0g_5, a0g_6, a0g_7, a0g_8, a0g_9, .int a0_10, .long a0_11, a0g_12, a0g_13]))] → va_S A s.heap H locs → lv_has ls 5 [(0, .ref a0), (1, .ref a1), (2, .long j15l2), (4, .int j15l4)] → K H locs (F0 m 15 ls []) := by
      intro n
      induction n with
      | zero =>
        intro j15l4 j15l2 H locs ls hm bj15l4_l bj15l4_u hF0 hP hD hS hl
        first | exact zg_0 hm bj15l4_u (by decide) | (have h8 := ai_min j15l4; have h9 := ai_max j15l4; exact absurd hm (by omega))
      | succ n ih15 =>
        intro j15l4 j15l2 H locs ls hm bj15l4_l bj15l4_u hF0 hP hD hS hl
        refine (hK0 _ _ _).mpr ?_
        have hm15 := hm
        obtain ⟨SX15, hSX15⟩ : ∃ q9, Sf_X3_isWord_15_1 a0_11.toInt (na1 : Int) (fl_A ca1) j15l4.toInt j15l2.toInt = q9 := ⟨_, rfl⟩
        have hF1 := hSX15.symm.trans (Sf_X3_isWord_15_1.eq_1 a0_11.toInt (na1 : Int) (fl_A ca1) j15l4.toInt j15l2.toInt)
        refine lv_iload hx hb dX3_isWord_15 (lv_at hl 3 rfl) ?_
        refine lv_aload_n hx hb dX3_isWord_17 rfl (lv_at hl 1 rfl) ?_
        refine va_calli (va_runV (As := []) (rest := [.int j15l4]) ⟨hx, hb, hml, hown, hts⟩ (f_J0_length_8abf5 l dC dI H.size a1 na1 ca1 ) (cwV 0 hts gX3_isWord_J0_length_8abf5 rfl rfl rfl zd_J0_length_8abf5 ⟨Nat.le_of_ble_eq_true rfl, Nat.le_of_ble_eq_true rfl⟩) ⟨ax_blind (fun _ _ _ _ hq => sxc_W_same _ _ _ _ (hq)), sxc_recv hE0 hS, ax_preE (zp_P0 hP) (zp_K hK) (zp_D0 hD) (fun U hU hW => sxc_W_to hE0 hS.2.1 (zp_F0 hD hS hA) hU hW)⟩ rfl rfl hl.1 rfl (lv_room (Nat.le_of_ble_eq_true rfl)) dX3_isWord_18 ⟨Nat.le_of_ble_eq_true rfl, Nat.le_of_ble_eq_true rfl⟩) hS (fun q _ h => zp_F0 hD hS hA q h) (zp_F0 hD hS hA) (fun r18 u t H locs ht hvm hw hB hz1 hk1 hS1 => zo0 hB ht hP hD hk1 (zp_F0 hD hS hA) hS1 (fun hP hK1 hD hS => ?_))
        obtain ⟨hw, hfr18⟩ := hw
        have hc18 : (na1 : Int) = r18.toInt := hfr18.symm
        have hF1 := hF1.trans (fl_lt_eq hc18.symm)
        rcases hw with hw
        · obtain ⟨hwr18, hnr18⟩ := hw
          refine lv_icmp_ge (tgt := 43) hx hb dX3_isWord_21 (by decide) (fun c21 => ?_) (fun c21 => ?_)
          · have gc21 := ai_le c21
            have u21t_r18 : r18.toInt ≤ (8 : Int) := (by omega : r18.toInt ≤ (8 : Int))
            have l21t_j15l4 : (0 : Int) ≤ j15l4.toInt := bj15l4_l
            have hF1 := hF1.trans (if_pos (show r18.toInt ≤ j15l4.toInt from gc21))
            have hF0 := hF0.trans (fl_wh_r (hSX15.trans hF1))
            refine lv_aload_n hx hb dX3_isWord_43 rfl (lv_at hl 0 rfl) ?_
            refine va_get (D := (dC, dI)) (ci := 3) (v := .long a0_11) (C := RX3) (T := TX3) (N := 14) hx hb hts zi_X3_isWord_3 hown hK hP 0 rfl rfl 11 (by decide) (hts (.fieldLink RX3 81 "WaxTurns$Reade\x72" "word" "J") (zm_X3_isWord_r1 (List.mem_of_getElem? (i := 1) rfl))) (fun _ h9 => h9) rfl dX3_isWord_44 ?_
            refine lv_lload_n hx hb dX3_isWord_47 rfl (lv_at hl 2 rfl) ?_
            refine W.lcmp hx hb dX3_isWord_48 ?_
            refine lv_topi (fun x48 ex48 => ?_)
            have fqx48 := fl_cmp_eq ex48
            have hF0 := hF0.trans (fl_lt_eq (show x48.toInt = fl_cmp a0_11.toInt j15l2.toInt from fqx48))
            refine lv_if_ne (tgt := 56) hx hb dX3_isWord_49 (by decide) (fun c49 => ?_) (fun c49 => ?_)
            · have gc49 := ai_ne c49
              have hF0 := hF0.trans (if_neg (show ¬ (x48.toInt = 0) from  gc49))
              refine lv_iconst (v := 0) hx hb dX3_isWord_56 zk_iconst_0 ?_
              have hFe : FX = 0 := hF0
              exact W.zret (v := 0) hx hb hr rfl (fun t ht hW => ⟨⟨0, (), rfl, ⟨(Or.inr (rfl)), hFe.symm⟩, by rw [ht]; exact hP, va_K.moved hW.alike hK, hD⟩, hS.F ht⟩) hS.2.2 dX3_isWord_57
            · have gc49 := ai_eq c49
              have u49f_x48 : x48.toInt ≤ (0 : Int) := Int.le_trans (Int.le_of_eq gc49) zq6
              have l49f_x48 : (0 : Int) ≤ x48.toInt := Int.le_trans zq5 (Int.le_of_eq gc49.symm)
              have hF0 := hF0.trans (if_pos (show x48.toInt = 0 from gc49))
              refine lv_iconst (v := 1) hx hb dX3_isWord_52 zk_iconst_1 ?_
              refine lv_goto (tgt := 57) hx hb dX3_isWord_53 (by decide) ?_
              have hFe : FX = 1 := hF0
              exact W.zret (v := 1) hx hb hr rfl (fun t ht hW => ⟨⟨1, (), rfl, ⟨(Or.inl ⟨rfl, l5t_a0_10, u5t_a0_10⟩), hFe.symm⟩, by rw [ht]; exact hP, va_K.moved hW.alike hK, hD⟩, hS.F ht⟩) hS.2.2 dX3_isWord_57
          · have gc21 := ai_nle c21
            have u21f_j15l4 : j15l4.toInt ≤ (7 : Int) := ai_lthi gc21 (by omega : r18.toInt ≤ (8 : Int))
            have l21f_r18 : (1 : Int) ≤ r18.toInt := ai_ltlo gc21 bj15l4_l
            have hF1 := hF1.trans (if_neg (show ¬ (r18.toInt ≤ j15l4.toInt) from Int.not_le.mpr gc21))
            refine lv_lload_n hx hb dX3_isWord_24 rfl (lv_at hl 2 rfl) ?_
            refine lv_bipush (v := 8) hx hb dX3_isWord_25 zk_bipush_8 ?_
            refine lv_lshl hx hb dX3_isWord_27 rfl ?_
            refine lv_topl (fun x27 ex27 => ?_)
            have fqx27 := fl_lshl_eq ex27
            have hF1 := hF1.trans (fl_lt_eq (show x27.toInt = fl_lshl j15l2.toInt 8 from fqx27))
            refine lv_aload_n hx hb dX3_isWord_28 rfl (lv_at hl 1 rfl) ?_
            refine lv_iload hx hb dX3_isWord_29 (lv_at hl 3 rfl) ?_
            refine va_calli (va_runV (As := [.int j15l4]) (rest := [.long x27]) ⟨hx, hb, hml, hown, hts⟩ (f_J0_charAt_5068e l dC dI H.size a1 na1 ca1 j15l4 bj15l4_l (by omega)) (cwV 1 hts gX3_isWord_J0_charAt_5068e rfl rfl rfl zd_J0_charAt_5068e ⟨Nat.le_of_ble_eq_true rfl, Nat.le_of_ble_eq_true rfl⟩) ⟨ax_blind (fun _ _ _ _ hq => sxc_W_same _ _ _ _ (hq)), sxc_recv hE0 hS, ax_preE (zp_P0 hP) (zp_K hK) (zp_D0 hD) (fun U hU hW => sxc_W_to hE0 hS.2.1 (zp_F0 hD hS hA) hU hW)⟩ rfl rfl hl.1 rfl (lv_room (Nat.le_of_ble_eq_true rfl)) dX3_isWord_31 ⟨Nat.le_of_ble_eq_true rfl, Nat.le_of_ble_eq_true rfl⟩) hS (fun q _ h => zp_F0 hD hS hA q h) (zp_F0 hD hS hA) (fun r31 u t H locs ht hvm hw hB hz1 hk1 hS1 => zo0 hB ht hP hD hk1 (zp_F0 hD hS hA) hS1 (fun hP hK1 hD hS => ?_))
            obtain ⟨hw, hfr31⟩ := hw
            have hc31 : (fl_A ca1) (j15l4.toInt.toNat) = r31.toInt := hfr31.symm
            have hF1 := hF1.trans (fl_lt_eq hc31.symm)
            obtain ⟨x34, ex34⟩ : ∃ y : Int64, y = (r31 : Int32).toInt64 := ⟨_, rfl⟩
            refine lv_i2l (v := x34) hx hb dX3_isWord_34 ex34.symm ?_
            have fqx34 := fl_i2l_eq ex34
            have hF1 := hF1.trans (fl_lt_eq (show x34.toInt = r31.toInt from fqx34))
            refine lv_lor hx hb dX3_isWord_35 ?_
            refine lv_topl (fun x35 ex35 => ?_)
            have fqx35 := fl_lor_eq ex35
            have hF1 := hF1.trans (fl_lt_eq (show x35.toInt = fl_lor x27.toInt x34.toInt from fqx35))
            refine lv_lstore_n (lv' := [(2, .long x35), (0, .ref a0), (1, .ref a1), (4, .int j15l4)]) hx hb dX3_isWord_36 rfl hl (by decide) rfl (fun ls hl => ?_)
            obtain ⟨x37, ex37⟩ : ∃ y : Int32, y = j15l4 + Int32.ofInt 1 := ⟨_, rfl⟩
            have qx37 : x37.toInt = j15l4.toInt + 1 := ai_inc ex37 (by decide) (by decide) u21f_j15l4 (by decide)
            have bx37 : (1 : Int) ≤ x37.toInt ∧ x37.toInt ≤ 8 := ⟨by rw [qx37]; exact Int.add_le_add bj15l4_l (Int.le_refl _), by rw [qx37]; exact Int.add_le_add u21f_j15l4 (Int.le_refl _)⟩
            refine lv_iinc (v := x37) (lv' := [(4, .int x37), (2, .long x35), (0, .ref a0), (1, .ref a1)]) hx hb dX3_isWord_37 hl (k := 3) rfl ex37.symm (by decide) rfl (fun ls hl => ?_)
            have hF1 := hF1.trans (fl_lt_eq (show x37.toInt = j15l4.toInt + 1 from qx37))
            refine lv_goto (tgt := 15) hx hb dX3_isWord_40 (by decide) ?_
            exact (hK0 _ _ _).mp (ih15 x37 x35 _ _ _ (by first | exact zg_s hm15 qx37 | (have h0 := qx37; omega)) (Int.le_trans zq4 bx37.1) bx37.2 (hF0.trans (fl_wh_l (hSX15.trans hF1))) hP hD hS (lv_sub hl [2, 3, 1, 0] rfl))
    exact (hK0 _ _ _).mp (J15 9 0 0 _ _ _ (by first | decide +kernel | (have h1 : (0 : Int) ≤ (0 : Int32).toInt := zq5; have h2 : (0 : Int32).toInt ≤ (0 : Int) := zq6; omega)) zq5 (Int.le_trans zq6 zq20) (by rw [show (0 : Int32).toInt = 0 from by decide, show (0 : Int64).toInt = 0 from by decide]; exact hF0) hP hD hS (lv_sub hl [2, 3, 1, 0] rfl))
  · have gc5 := ai_ne c5
    have hF0 := hF0.trans (if_neg (show ¬ (a0_10.toInt = 1) from  gc5))
    refine lv_iconst (v := 0) hx hb dX3_isWord_8 zk_iconst_0 ?_
    have hFe : FX = 0 := hF0
    exact W.zret (v := 0) hx hb hr rfl (fun t ht hW => ⟨⟨0, (), rfl, ⟨(Or.inr (rfl)), hFe.symm⟩, by rw [ht]; exact hP, va_K.moved hW.alike hK, hD⟩, hS.F ht⟩) hS.2.2 dX3_isWord_9

set_option maxHeartbeats 4000000 in
set_option maxRecDepth 100000 in
theorem f_X3_isWholeWithin (l : Launch) (dC : Nat → ClassId) (dI : Nat → Nat → Nat) (sz : Nat) (a0 : Nat) (a1 : Int32) (a2 : Int32) (a0g_0 a0g_3 a0g_4 a0g_5 a0g_6 a0g_7 a0g_9 a0g_11 a0g_13 : Value) (a0_1 : Int32) (a0_2 : Int32) (a0_8 : Int32) (a0_10 : Int32) (a0_12 : Int32) (ba0_8_l : (0 : Int) ≤ a0_8.toInt) (ba0_8_u : a0_8.toInt ≤ (900 : Int)) (ba0_10_l : (0 : Int) ≤ a0_10.toInt) (ba0_10_u : a0_10.toInt ≤ (4 : Int)) : zm l yX3_isWholeWithin wsX3_isWholeWithin ({ frames := 1, cells := 0, slots := 0, locals := 22 }) [.ref a0, .int a1, .int a2] dC dI sz [(a0, .inr (3, [a0g_0, .int a0_1, .int a0_2, a0g_3, a0g_4, a0g_5, a0g_6, a0g_7, .int a0_8, a0g_9, .int a0_10, a0g_11, .int a0_12, a0g_13]))] [] (fun A U => va_Nw (.methodLinkNest RX3 223 yX7_within RX7) U) (fun A => va_Qi (fun (r : Int32) (_ : Unit) => ((r = 1 ∧ a1.toInt ≤ a0_12.toInt ∧ a0_12.toInt ≤ a2.toInt) ∨ r = 0) ∧ r.toInt = (Ff_X3_isWholeWithin a1.toInt a2.toInt a0_1.toInt a0_2.toInt a0_8.toInt a0_10.toInt a0_12.toInt).1) (fun (_ : Unit) (t : State) => ∃ na0_1 : Int32, ∃ na0_2 : Int32, ((Ff_X3_isWholeWithin a1.toInt a2.toInt a0_1.toInt a0_2.toInt a0_8.toInt a0_10.toInt a0_12.toInt).2 = (na0_1.toInt, na0_2.toInt)) ∧ ax_B dC dI A [(a0, .inr (3, [a0g_0, .int na0_1, .int na0_2, a0g_3, a0g_4, a0g_5, a0g_6, a0g_7, .int a0_8, a0g_9, .int a0_10, a0g_11, .int a0_12, a0g_13]))] [] t) A) := by
  refine zh (cc := cX3_isWholeWithin) (maxL := 3) (ret := (some .boolean)) zn_RX3 rfl (Nat.le_of_ble_eq_true rfl) (fun p e s m below meth c A ls hx hb hml hr hts (hown : s.vm.findClass RX3 = some m.cls) hlocks hA hS hP hK hD hE (hl : lv_has ls 3 [(0, .ref a0), (1, .int a1), (2, .int a2)]) => ?_)
  have hE0 := hE
  generalize hFX : Ff_X3_isWholeWithin a1.toInt a2.toInt a0_1.toInt a0_2.toInt a0_8.toInt a0_10.toInt a0_12.toInt = FX at ⊢
  have hF0 := hFX.symm.trans (Ff_X3_isWholeWithin.eq_1 a1.toInt a2.toInt a0_1.toInt a0_2.toInt a0_8.toInt a0_10.toInt a0_12.toInt)
  refine lv_aload_n hx hb dX3_isWholeWithin_0 rfl (lv_at hl 0 rfl) ?_
  refine va_get (D := (dC, dI)) (ci := 3) (v := .int a0_10) (C := RX3) (T := TX3) (N := 14) hx hb hts zi_X3_isWholeWithin_3 hown hK hP 0 rfl rfl 10 (by decide) (hts (.fieldLink RX3 61 "WaxTurns$Reade\x72" "token" "I") (List.mem_cons_of_mem _ (List.mem_append_left _ (List.mem_of_getElem? (i := 0) rfl)))) (fun _ h9 => h9) rfl dX3_isWholeWithin_1 ?_
  refine lv_iconst (v := 2) hx hb dX3_isWholeWithin_4 zk_iconst_2 ?_
  refine lv_icmp_eq (tgt := 14) hx hb dX3_isWholeWithin_5 (by decide) (fun c5 => ?_) (fun c5 => ?_)
  · have gc5 := ai_eq c5
    have u5t_a0_10 : a0_10.toInt ≤ (2 : Int) := Int.le_trans (Int.le_of_eq gc5) zq13
    have l5t_a0_10 : (2 : Int) ≤ a0_10.toInt := Int.le_trans zq12 (Int.le_of_eq gc5.symm)
    have hF0 := hF0.trans (if_pos (show a0_10.toInt = 2 from gc5))
    refine lv_aload_n hx hb dX3_isWholeWithin_14 rfl (lv_at hl 0 rfl) ?_
    refine va_get (D := (dC, dI)) (ci := 3) (v := .int a0_12) (C := RX3) (T := TX3) (N := 14) hx hb hts zi_X3_isWholeWithin_3 hown hK hP 0 rfl rfl 12 (by decide) (hts (.fieldLink RX3 85 "WaxTurns$Reade\x72" "whole" "I") (List.mem_cons_of_mem _ (List.mem_append_left _ (List.mem_of_getElem? (i := 1) rfl)))) (fun _ h9 => h9) rfl dX3_isWholeWithin_15 ?_
    refine lv_iload_n hx hb dX3_isWholeWithin_18 rfl (lv_at hl 1 rfl) ?_
    refine lv_iload_n hx hb dX3_isWholeWithin_19 rfl (lv_at hl 2 rfl) ?_
    refine va_calli (va_runSN (As := [.int a0_12, .int a1, .int a2]) (rest := []) ⟨hx, hb, hml, hown, hts⟩ (f_X7_within l dC dI s.heap.size a0_12 a1 a2 ) ⟨va_cnB 3 hts gX3_isWholeWithin_X7_within_n223 rfl rfl rfl hE0 (hts (.initialized RX7) (List.mem_cons_of_mem _ (List.mem_append_left _ (List.mem_of_getElem? (i := 11) rfl)))) zd_X7_within.2 ⟨Nat.le_of_ble_eq_true rfl, Nat.le_of_ble_eq_true rfl⟩, (hts (.static yX7_within) (List.mem_cons_of_mem _ (List.mem_append_left _ (List.mem_of_getElem? (i := 10) rfl)))), trivial⟩ ⟨ax_blind (fun _ _ _ _ _ => trivial), ax_pre (zp_P0 hP) (zp_K hK) (zp_D0 hD) (fun _ _ => trivial)⟩ rfl rfl hl.1 rfl (lv_room (Nat.le_of_ble_eq_true rfl)) dX3_isWholeWithin_20 ⟨Nat.le_of_ble_eq_true rfl, Nat.le_of_ble_eq_true rfl⟩) hS (fun q _ h => zp_F0 hD hS hA q h) (zp_F0 hD hS hA) (fun r20 u t H locs ht hvm hw hB hz1 hk1 hS1 => zo0 hB ht hP hD hk1 (zp_F0 hD hS hA) hS1 (fun hP hK1 hD hS => ?_))
    obtain ⟨hw, hfr20⟩ := hw
    have hc20 : Ff_X7_within a0_12.toInt a1.toInt a2.toInt = r20.toInt := hfr20.symm
    have hF0 := hF0.trans (fl_lt_eq hc20.symm)
    rcases hw with hw | hw
    · obtain ⟨hw, h20⟩ := hw
      subst hw
      have hF0 := hF0.trans (if_pos (by decide))
      refine lv_if_ne (tgt := 34) hx hb dX3_isWholeWithin_23 (by decide) (fun _ => ?_) (fun c23 => absurd c23 (by decide +kernel))
      refine lv_iconst (v := 1) hx hb dX3_isWholeWithin_34 zk_iconst_1 ?_
      refine lv_goto (tgt := 39) hx hb dX3_isWholeWithin_35 (by decide) ?_
      have hFe : FX = (1, a0_1.toInt, a0_2.toInt) := hF0
      exact W.zret (v := 1) hx hb hr rfl (fun t ht hW => ⟨⟨1, (), rfl, ⟨(Or.inl ⟨rfl, h20⟩), (congrArg Prod.fst hFe).symm⟩, a0_1, a0_2, (congrArg Prod.snd hFe), by rw [ht]; exact hP, va_K.moved hW.alike hK, hD⟩, hS.F ht⟩) hS.2.2 dX3_isWholeWithin_39
    · obtain ⟨hw, h20⟩ := hw
      subst hw
      have hF0 := hF0.trans (if_neg (by decide))
      refine lv_if_ne (tgt := 34) hx hb dX3_isWholeWithin_23 (by decide) (fun c23 => absurd (by decide +kernel) c23) (fun _ => ?_)
      refine lv_aload_n hx hb dX3_isWholeWithin_26 rfl (lv_at hl 0 rfl) ?_
      refine lv_iconst (v := 4) hx hb dX3_isWholeWithin_27 zk_iconst_4 ?_
      refine va_calli (va_runV (As := [.int 4]) (rest := []) ⟨hx, hb, hml, hown, hts⟩ (f_X3_fails l dC dI H.size a0 4 a0g_0 a0g_3 a0g_4 a0g_5 a0g_6 a0g_7 a0g_9 (.int a0_10) a0g_11 (.int a0_12) a0g_13 a0_1 a0_2 a0_8 ba0_8_l ba0_8_u) (cwV 1 hts gX3_isWholeWithin_X3_fails rfl rfl rfl zd_X3_fails ⟨Nat.le_of_ble_eq_true rfl, Nat.le_of_ble_eq_true rfl⟩) ⟨ax_blind (fun _ _ _ _ _ => trivial), zr_3 (zp_K hK) (zp_P1 hP) (q0 := 0) rfl, ax_pre (zp_P1 hP) (zp_K hK) (zp_D1 hD) (fun _ _ => trivial)⟩ rfl rfl hl.1 rfl (lv_room (Nat.le_of_ble_eq_true rfl)) dX3_isWholeWithin_28 ⟨Nat.le_of_ble_eq_true rfl, Nat.le_of_ble_eq_true rfl⟩) hS (fun q _ h => zp_F1 hD hS hA q h) (zp_F1 hD hS hA) (fun r28 u t H locs ht hvm hw => zx_2 (fun v28na0_1 v28na0_2 => zy_1 (fun hraw28_0 hB hz1 hk1 hS1 => zo1 hB ht hP hD hk1 (zp_F1 hD hS hA) hS1 (fun hP hK1 hD hS => ?_))))
      obtain ⟨hw, hfr28⟩ := hw
      rw [show (4 : Int32).toInt = 4 from by decide] at hfr28 hraw28_0
      have hc28 : Ff_X3_fails 4 a0_8.toInt = (r28.toInt, v28na0_1.toInt, v28na0_2.toInt) := Prod.ext hfr28.symm hraw28_0
      have hF0 := hF0.trans (fl_c3_eq hc28)
      have hw : r28 = 0 := hw
      have hw := hw.symm
      subst hw
      refine lv_if_eq (tgt := 38) hx hb dX3_isWholeWithin_31 (by decide) (fun _ => ?_) (fun c31 => absurd (by decide +kernel) c31)
      refine lv_iconst (v := 0) hx hb dX3_isWholeWithin_38 zk_iconst_0 ?_
      have hFe : FX = (0, v28na0_1.toInt, v28na0_2.toInt) := hF0
      exact W.zret (v := 0) hx hb hr rfl (fun t ht hW => ⟨⟨0, (), rfl, ⟨(Or.inr rfl), (congrArg Prod.fst hFe).symm⟩, v28na0_1, v28na0_2, (congrArg Prod.snd hFe), by rw [ht]; exact hP, va_K.moved hW.alike hK, hD⟩, hS.F ht⟩) hS.2.2 dX3_isWholeWithin_39
  · have gc5 := ai_ne c5
    have hF0 := hF0.trans (if_neg (show ¬ (a0_10.toInt = 2) from  gc5))
    refine lv_aload_n hx hb dX3_isWholeWithin_8 rfl (lv_at hl 0 rfl) ?_
    refine lv_iconst (v := 1) hx hb dX3_isWholeWithin_9 zk_iconst_1 ?_
    refine va_calli (va_runV (As := [.int 1]) (rest := []) ⟨hx, hb, hml, hown, hts⟩ (f_X3_fails l dC dI s.heap.size a0 1 a0g_0 a0g_3 a0g_4 a0g_5 a0g_6 a0g_7 a0g_9 (.int a0_10) a0g_11 (.int a0_12) a0g_13 a0_1 a0_2 a0_8 ba0_8_l ba0_8_u) (cwV 1 hts gX3_isWholeWithin_X3_fails rfl rfl rfl zd_X3_fails ⟨Nat.le_of_ble_eq_true rfl, Nat.le_of_ble_eq_true rfl⟩) ⟨ax_blind (fun _ _ _ _ _ => trivial), zr_3 (zp_K hK) (zp_P1 hP) (q0 := 0) rfl, ax_pre (zp_P1 hP) (zp_K hK) (zp_D1 hD) (fun _ _ => trivial)⟩ rfl rfl hl.1 rfl (lv_room (Nat.le_of_ble_eq_true rfl)) dX3_isWholeWithin_10 ⟨Nat.le_of_ble_eq_true rfl, Nat.le_of_ble_eq_true rfl⟩) hS (fun q _ h => zp_F1 hD hS hA q h) (zp_F1 hD hS hA) (fun r10 u t H locs ht hvm hw => zx_2 (fun v10na0_1 v10na0_2 => zy_1 (fun hraw10_0 hB hz1 hk1 hS1 => zo1 hB ht hP hD hk1 (zp_F1 hD hS hA) hS1 (fun hP hK1 hD hS => ?_))))
    obtain ⟨hw, hfr10⟩ := hw
    rw [show (1 : Int32).toInt = 1 from by decide] at hfr10 hraw10_0
    have hc10 : Ff_X3_fails 1 a0_8.toInt = (r10.toInt, v10na0_1.toInt, v10na0_2.toInt) := Prod.ext hfr10.symm hraw10_0
    have hF0 := hF0.trans (fl_c3_eq hc10)
    have hw : r10 = 0 := hw
    have hw := hw.symm
    subst hw
    have hFe : FX = (0, v10na0_1.toInt, v10na0_2.toInt) := hF0
    exact W.zret (v := 0) hx hb hr rfl (fun t ht hW => ⟨⟨0, (), rfl, ⟨(Or.inr rfl), (congrArg Prod.fst hFe).symm⟩, v10na0_1, v10na0_2, (congrArg Prod.snd hFe), by rw [ht]; exact hP, va_K.moved hW.alike hK, hD⟩, hS.F ht⟩) hS.2.2 dX3_isWholeWithin_13

set_option maxHeartbeats 4000000 in
set_option maxRecDepth 100000 in
theorem f_X3_takeWord (l : Launch) (dC : Nat → ClassId) (dI : Nat → Nat → Nat) (sz : Nat) (a0 : Nat) (a1 : Nat) (a0g_0 a0g_4 a0g_5 a0g_6 a0g_13 : Value) (a0_1 : Int32) (a0_2 : Int32) (a0_3 : Nat) (a0_7 : Int32) (a0_8 : Int32) (a0_9 : Int32) (a0_10 : Int32) (a0_11 : Int64) (a0_12 : Int32) (ka0_3 : ClassId) (fa0_3 : Nat → Int32) (na1 : Nat) (ca1 : Nat → Int32) (ba0_7_l : (0 : Int) ≤ a0_7.toInt) (ba0_7_u : a0_7.toInt ≤ (900 : Int)) (ba0_8_l : (0 : Int) ≤ a0_8.toInt) (ba0_8_u : a0_8.toInt ≤ (900 : Int)) (ba0_9_l : (0 : Int) ≤ a0_9.toInt) (ba0_9_u : a0_9.toInt ≤ (900 : Int)) (ba0_10_l : (0 : Int) ≤ a0_10.toInt) (ba0_10_u : a0_10.toInt ≤ (4 : Int)) : zm l yX3_takeWord wsX3_takeWord ({ frames := 5, cells := 0, slots := 0, locals := 109 }) [.ref a0, .ref a1] dC dI sz [(a0, .inr (3, [a0g_0, .int a0_1, .int a0_2, .ref a0_3, a0g_4, a0g_5, a0g_6, .int a0_7, .int a0_8, .int a0_9, .int a0_10, .long a0_11, .int a0_12, a0g_13])), (a0_3, .inl (ka0_3, 900, .inl (fa0_3)))] [(ka0_3, .byte)] (fun A U => sxc_W a1 na1 ca1 A U) (fun A => va_Qi (fun (r : Int32) (_ : Unit) => ((r = 1) ∨ (r = 0)) ∧ r.toInt = (Ff_X3_takeWord a0_1.toInt a0_2.toInt a0_7.toInt a0_8.toInt a0_9.toInt a0_10.toInt a0_11.toInt a0_12.toInt (fl_A fa0_3) (na1 : Int) (fl_A ca1)).1) (fun (_ : Unit) (t : State) => ∃ na0_1 : Int32, ∃ na0_2 : Int32, ∃ na0_8 : Int32, ∃ na0_9 : Int32, ∃ na0_10 : Int32, ∃ na0_11 : Int64, ∃ na0_12 : Int32, ((0 : Int) ≤ na0_8.toInt ∧ na0_8.toInt ≤ 900) ∧ ((0 : Int) ≤ na0_9.toInt ∧ na0_9.toInt ≤ 900) ∧ ((0 : Int) ≤ na0_10.toInt ∧ na0_10.toInt ≤ 4) ∧ ((Ff_X3_takeWord a0_1.toInt a0_2.toInt a0_7.toInt a0_8.toInt a0_9.toInt a0_10.toInt a0_11.toInt a0_12.toInt (fl_A fa0_3) (na1 : Int) (fl_A ca1)).2 = (na0_1.toInt, na0_2.toInt, na0_8.toInt, na0_9.toInt, na0_10.toInt, na0_11.toInt, na0_12.toInt)) ∧ ax_B dC dI A [(a0, .inr (3, [a0g_0, .int na0_1, .int na0_2, .ref a0_3, a0g_4, a0g_5, a0g_6, .int a0_7, .int na0_8, .int na0_9, .int na0_10, .long na0_11, .int na0_12, a0g_13])), (a0_3, .inl (ka0_3, 900, .inl (fa0_3)))] [(ka0_3, .byte)] t) A) := by
  refine zh (cc := cX3_takeWord) (maxL := 2) (ret := (some .boolean)) zn_RX3 rfl (Nat.le_of_ble_eq_true rfl) (fun p e s m below meth c A ls hx hb hml hr hts (hown : s.vm.findClass RX3 = some m.cls) hlocks hA hS hP hK hD hE (hl : lv_has ls 2 [(0, .ref a0), (1, .ref a1)]) => ?_)
  have hE0 := hE
  generalize hFX : Ff_X3_takeWord a0_1.toInt a0_2.toInt a0_7.toInt a0_8.toInt a0_9.toInt a0_10.toInt a0_11.toInt a0_12.toInt (fl_A fa0_3) (na1 : Int) (fl_A ca1) = FX at ⊢
  have hF0 := hFX.symm.trans (Ff_X3_takeWord.eq_1 a0_1.toInt a0_2.toInt a0_7.toInt a0_8.toInt a0_9.toInt a0_10.toInt a0_11.toInt a0_12.toInt (fl_A fa0_3) (na1 : Int) (fl_A ca1))
  refine lv_aload_n hx hb dX3_takeWord_0 rfl (lv_at hl 0 rfl) ?_
  refine lv_aload_n hx hb dX3_takeWord_1 rfl (lv_at hl 1 rfl) ?_
  refine va_calli (va_runV (As := [.ref a1]) (rest := []) ⟨hx, hb, hml, hown, hts⟩ (f_X3_isWord l dC dI s.heap.size a0 a1 a0g_0 (.int a0_1) (.int a0_2) (.ref a0_3) a0g_4 a0g_5 a0g_6 (.int a0_7) (.int a0_8) (.int a0_9) (.int a0_12) a0g_13 a0_10 a0_11 na1 ca1 ba0_10_l ba0_10_u) (cwV 1 hts gX3_takeWord_X3_isWord rfl rfl rfl zd_X3_isWord ⟨Nat.le_of_ble_eq_true rfl, Nat.le_of_ble_eq_true rfl⟩) ⟨ax_blind (fun _ _ _ _ hq => sxc_W_same _ _ _ _ (hq)), zr_3 (zp_K hK) (zp_P1 hP) (q0 := 0) rfl, ax_preE (zp_P1 hP) (zp_K hK) (zp_D1 hD) (fun U hU hW => sxc_W_to hE0 hS.2.1 (zp_F1 hD hS hA) hU hW)⟩ rfl rfl hl.1 rfl (lv_room (Nat.le_of_ble_eq_true rfl)) dX3_takeWord_2 ⟨Nat.le_of_ble_eq_true rfl, Nat.le_of_ble_eq_true rfl⟩) hS (fun q _ h => zp_F1 hD hS hA q h) (zp_F1 hD hS hA) (fun r2 u t H locs ht hvm hw hB hz1 hk1 hS1 => zo1 hB ht hP hD hk1 (zp_F1 hD hS hA) hS1 (fun hP hK1 hD hS => ?_))
  obtain ⟨hw, hfr2⟩ := hw
  have hc2 : Ff_X3_isWord a0_10.toInt a0_11.toInt (na1 : Int) (fl_A ca1) = r2.toInt := hfr2.symm
  have hF0 := hF0.trans (fl_lt_eq hc2.symm)
  rcases hw with hw | hw
  · obtain ⟨hw, h2_0, h2_1⟩ := hw
    subst hw
    have l2k0_a0_10 : (1 : Int) ≤ a0_10.toInt := h2_0
    have u2k0_a0_10 : a0_10.toInt ≤ (1 : Int) := h2_1
    have hF0 := hF0.trans (if_pos (by decide))
    refine lv_if_ne (tgt := 14) hx hb dX3_takeWord_5 (by decide) (fun _ => ?_) (fun c5 => absurd c5 (by decide +kernel))
    refine lv_aload_n hx hb dX3_takeWord_14 rfl (lv_at hl 0 rfl) ?_
    have hKc := hK.sub (tys' := [(ka0_3, .byte)]) [0] rfl
    refine va_callv (va_runV (As := []) (rest := []) ⟨hx, hb, hml, hown, hts⟩ (f_X3_advance l dC dI H.size a0 a0g_0 (.int a0_1) (.int a0_2) a0g_4 a0g_5 a0g_6 a0g_13 a0_3 a0_7 a0_8 a0_9 a0_10 a0_11 a0_12 ka0_3 fa0_3 ba0_7_l ba0_7_u ba0_8_l ba0_8_u ba0_9_l ba0_9_u (Int.le_trans zq4 l2k0_a0_10) (Int.le_trans u2k0_a0_10 zq135)) (cwV 0 hts gX3_takeWord_X3_advance rfl rfl rfl zd_X3_advance ⟨Nat.le_of_ble_eq_true rfl, Nat.le_of_ble_eq_true rfl⟩) ⟨ax_blind (fun _ _ _ _ _ => trivial), zr_3 hKc (zp_P2 hP) (q0 := 0) rfl, ax_pre (zp_P2 hP) hKc (zp_D2 hD) (fun _ _ => trivial)⟩ rfl rfl hl.1 rfl (lv_room (Nat.le_of_ble_eq_true rfl)) dX3_takeWord_15 ⟨Nat.le_of_ble_eq_true rfl, Nat.le_of_ble_eq_true rfl⟩) hS (fun q _ h => zp_F2 hD hS hA q h) (zp_F2 hD hS hA) (fun u t H locs ht hvm hw => zx_5 (fun v15na0_8 v15na0_9 v15na0_10 v15na0_11 v15na0_12 => zy_4 (fun bv15na0_8 bv15na0_9 bv15na0_10 hraw15_0 hB hz1 hk1 hS1 => zo2 hB ht hP hD hk1 (zp_F2 hD hS hA) hS1 (fun hP hK1 hD hS => ?_))))
    have hc15 : Ff_X3_advance a0_7.toInt a0_9.toInt a0_11.toInt a0_12.toInt (fl_A fa0_3) = (v15na0_8.toInt, v15na0_9.toInt, v15na0_10.toInt, v15na0_11.toInt, v15na0_12.toInt) := hraw15_0
    have hF0 := hF0.trans (fl_c5_eq hc15)
    refine lv_iconst (v := 1) hx hb dX3_takeWord_18 zk_iconst_1 ?_
    have hFe : FX = (1, a0_1.toInt, a0_2.toInt, v15na0_8.toInt, v15na0_9.toInt, v15na0_10.toInt, v15na0_11.toInt, v15na0_12.toInt) := hF0
    exact W.zret (v := 1) hx hb hr rfl (fun t ht hW => ⟨⟨1, (), rfl, ⟨(Or.inl (rfl)), (congrArg Prod.fst hFe).symm⟩, a0_1, a0_2, v15na0_8, v15na0_9, v15na0_10, v15na0_11, v15na0_12, ⟨bv15na0_8.1, bv15na0_8.2⟩, ⟨bv15na0_9.1, bv15na0_9.2⟩, ⟨bv15na0_10.1, bv15na0_10.2⟩, (congrArg Prod.snd hFe), by rw [ht]; exact hP, va_K.moved hW.alike hK, hD⟩, hS.F ht⟩) hS.2.2 dX3_takeWord_19
  · subst hw
    have hF0 := hF0.trans (if_neg (by decide))
    refine lv_if_ne (tgt := 14) hx hb dX3_takeWord_5 (by decide) (fun c5 => absurd (by decide +kernel) c5) (fun _ => ?_)
    refine lv_aload_n hx hb dX3_takeWord_8 rfl (lv_at hl 0 rfl) ?_
    refine lv_iconst (v := 1) hx hb dX3_takeWord_9 zk_iconst_1 ?_
    refine va_calli (va_runV (As := [.int 1]) (rest := []) ⟨hx, hb, hml, hown, hts⟩ (f_X3_fails l dC dI H.size a0 1 a0g_0 (.ref a0_3) a0g_4 a0g_5 a0g_6 (.int a0_7) (.int a0_9) (.int a0_10) (.long a0_11) (.int a0_12) a0g_13 a0_1 a0_2 a0_8 ba0_8_l ba0_8_u) (cwV 1 hts gX3_takeWord_X3_fails rfl rfl rfl zd_X3_fails ⟨Nat.le_of_ble_eq_true rfl, Nat.le_of_ble_eq_true rfl⟩) ⟨ax_blind (fun _ _ _ _ _ => trivial), zr_3 (zp_K hK) (zp_P1 hP) (q0 := 0) rfl, ax_pre (zp_P1 hP) (zp_K hK) (zp_D1 hD) (fun _ _ => trivial)⟩ rfl rfl hl.1 rfl (lv_room (Nat.le_of_ble_eq_true rfl)) dX3_takeWord_10 ⟨Nat.le_of_ble_eq_true rfl, Nat.le_of_ble_eq_true rfl⟩) hS (fun q _ h => zp_F1 hD hS hA q h) (zp_F1 hD hS hA) (fun r10 u t H locs ht hvm hw => zx_2 (fun v10na0_1 v10na0_2 => zy_1 (fun hraw10_0 hB hz1 hk1 hS1 => zo1 hB ht hP hD hk1 (zp_F1 hD hS hA) hS1 (fun hP hK1 hD hS => ?_))))
    obtain ⟨hw, hfr10⟩ := hw
    rw [show (1 : Int32).toInt = 1 from by decide] at hfr10 hraw10_0
    have hc10 : Ff_X3_fails 1 a0_8.toInt = (r10.toInt, v10na0_1.toInt, v10na0_2.toInt) := Prod.ext hfr10.symm hraw10_0
    have hF0 := hF0.trans (fl_c3_eq hc10)
    have hw : r10 = 0 := hw
    have hw := hw.symm
    subst hw
    have hFe : FX = (0, v10na0_1.toInt, v10na0_2.toInt, a0_8.toInt, a0_9.toInt, a0_10.toInt, a0_11.toInt, a0_12.toInt) := hF0
    exact W.zret (v := 0) hx hb hr rfl (fun t ht hW => ⟨⟨0, (), rfl, ⟨(Or.inr (rfl)), (congrArg Prod.fst hFe).symm⟩, v10na0_1, v10na0_2, a0_8, a0_9, a0_10, a0_11, a0_12, ⟨ba0_8_l, ba0_8_u⟩, ⟨ba0_9_l, ba0_9_u⟩, ⟨ba0_10_l, ba0_10_u⟩, (congrArg Prod.snd hFe), by rw [ht]; exact hP, va_K.moved hW.alike hK, hD⟩, hS.F ht⟩) hS.2.2 dX3_takeWord_13

set_option maxHeartbeats 4000000 in
set_option maxRecDepth 100000 in
theorem f_X3_takeWhole (l : Launch) (dC : Nat → ClassId) (dI : Nat → Nat → Nat) (sz : Nat) (a0 : Nat) (a1 : Nat) (a2 : Int32) (a3 : Int32) (a0g_0 a0g_4 a0g_5 a0g_6 : Value) (a0_1 : Int32) (a0_2 : Int32) (a0_3 : Nat) (a0_7 : Int32) (a0_8 : Int32) (a0_9 : Int32) (a0_10 : Int32) (a0_11 : Int64) (a0_12 : Int32) (a0_13 : Int32) (ka0_3 : ClassId) (fa0_3 : Nat → Int32) (na1 : Nat) (ca1 : Nat → Int32) (ba0_7_l : (0 : Int) ≤ a0_7.toInt) (ba0_7_u : a0_7.toInt ≤ (900 : Int)) (ba0_8_l : (0 : Int) ≤ a0_8.toInt) (ba0_8_u : a0_8.toInt ≤ (900 : Int)) (ba0_9_l : (0 : Int) ≤ a0_9.toInt) (ba0_9_u : a0_9.toInt ≤ (900 : Int)) (ba0_10_l : (0 : Int) ≤ a0_10.toInt) (ba0_10_u : a0_10.toInt ≤ (4 : Int)) : zm l yX3_takeWhole wsX3_takeWhole ({ frames := 5, cells := 0, slots := 0, locals := 109 }) [.ref a0, .ref a1, .int a2, .int a3] dC dI sz [(a0, .inr (3, [a0g_0, .int a0_1, .int a0_2, .ref a0_3, a0g_4, a0g_5, a0g_6, .int a0_7, .int a0_8, .int a0_9, .int a0_10, .long a0_11, .int a0_12, .int a0_13])), (a0_3, .inl (ka0_3, 900, .inl (fa0_3)))] [(ka0_3, .byte)] (fun A U => sxc_W a1 na1 ca1 A U ∧ va_Nw (.methodLinkNest RX3 223 yX7_within RX7) U) (fun A => va_Qi (fun (r : Int32) (na0_13 : Int32) => ((r = 1 ∧ a2.toInt ≤ na0_13.toInt ∧ na0_13.toInt ≤ a3.toInt) ∨ r = 0) ∧ r.toInt = (Ff_X3_takeWhole a2.toInt a3.toInt a0_1.toInt a0_2.toInt a0_7.toInt a0_8.toInt a0_9.toInt a0_10.toInt a0_11.toInt a0_12.toInt a0_13.toInt (fl_A fa0_3) (na1 : Int) (fl_A ca1)).1) (fun (na0_13 : Int32) (t : State) => ∃ na0_1 : Int32, ∃ na0_2 : Int32, ∃ na0_8 : Int32, ∃ na0_9 : Int32, ∃ na0_10 : Int32, ∃ na0_11 : Int64, ∃ na0_12 : Int32, ((0 : Int) ≤ na0_8.toInt ∧ na0_8.toInt ≤ 900) ∧ ((0 : Int) ≤ na0_9.toInt ∧ na0_9.toInt ≤ 900) ∧ ((0 : Int) ≤ na0_10.toInt ∧ na0_10.toInt ≤ 4) ∧ ((Ff_X3_takeWhole a2.toInt a3.toInt a0_1.toInt a0_2.toInt a0_7.toInt a0_8.toInt a0_9.toInt a0_10.toInt a0_11.toInt a0_12.toInt a0_13.toInt (fl_A fa0_3) (na1 : Int) (fl_A ca1)).2 = (na0_1.toInt, na0_2.toInt, na0_8.toInt, na0_9.toInt, na0_10.toInt, na0_11.toInt, na0_12.toInt, na0_13.toInt)) ∧ ax_B dC dI A [(a0, .inr (3, [a0g_0, .int na0_1, .int na0_2, .ref a0_3, a0g_4, a0g_5, a0g_6, .int a0_7, .int na0_8, .int na0_9, .int na0_10, .long na0_11, .int na0_12, .int na0_13])), (a0_3, .inl (ka0_3, 900, .inl (fa0_3)))] [(ka0_3, .byte)] t) A) := by
  refine zh (cc := cX3_takeWhole) (maxL := 4) (ret := (some .boolean)) zn_RX3 rfl (Nat.le_of_ble_eq_true rfl) (fun p e s m below meth c A ls hx hb hml hr hts (hown : s.vm.findClass RX3 = some m.cls) hlocks hA hS hP hK hD hE (hl : lv_has ls 4 [(0, .ref a0), (1, .ref a1), (2, .int a2), (3, .int a3)]) => ?_)
  obtain ⟨hE0, hE1⟩ := hE
  generalize hFX : Ff_X3_takeWhole a2.toInt a3.toInt a0_1.toInt a0_2.toInt a0_7.toInt a0_8.toInt a0_9.toInt a0_10.toInt a0_11.toInt a0_12.toInt a0_13.toInt (fl_A fa0_3) (na1 : Int) (fl_A ca1) = FX at ⊢
  have hF0 := hFX.symm.trans (Ff_X3_takeWhole.eq_1 a2.toInt a3.toInt a0_1.toInt a0_2.toInt a0_7.toInt a0_8.toInt a0_9.toInt a0_10.toInt a0_11.toInt a0_12.toInt a0_13.toInt (fl_A fa0_3) (na1 : Int) (fl_A ca1))
  refine lv_aload_n hx hb dX3_takeWhole_0 rfl (lv_at hl 0 rfl) ?_
  refine lv_aload_n hx hb dX3_takeWhole_1 rfl (lv_at hl 1 rfl) ?_
  refine va_calli (va_runV (As := [.ref a1]) (rest := []) ⟨hx, hb, hml, hown, hts⟩ (f_X3_isWord l dC dI s.heap.size a0 a1 a0g_0 (.int a0_1) (.int a0_2) (.ref a0_3) a0g_4 a0g_5 a0g_6 (.int a0_7) (.int a0_8) (.int a0_9) (.int a0_12) (.int a0_13) a0_10 a0_11 na1 ca1 ba0_10_l ba0_10_u) (cwV 1 hts gX3_takeWhole_X3_isWord rfl rfl rfl zd_X3_isWord ⟨Nat.le_of_ble_eq_true rfl, Nat.le_of_ble_eq_true rfl⟩) ⟨ax_blind (fun _ _ _ _ hq => sxc_W_same _ _ _ _ (hq)), zr_3 (zp_K hK) (zp_P1 hP) (q0 := 0) rfl, ax_preE (zp_P1 hP) (zp_K hK) (zp_D1 hD) (fun U hU hW => sxc_W_to hE0 hS.2.1 (zp_F1 hD hS hA) hU hW)⟩ rfl rfl hl.1 rfl (lv_room (Nat.le_of_ble_eq_true rfl)) dX3_takeWhole_2 ⟨Nat.le_of_ble_eq_true rfl, Nat.le_of_ble_eq_true rfl⟩) hS (fun q _ h => zp_F1 hD hS hA q h) (zp_F1 hD hS hA) (fun r2 u t H locs ht hvm hw hB hz1 hk1 hS1 => zo1 hB ht hP hD hk1 (zp_F1 hD hS hA) hS1 (fun hP hK1 hD hS => ?_))
  obtain ⟨hw, hfr2⟩ := hw
  have hc2 : Ff_X3_isWord a0_10.toInt a0_11.toInt (na1 : Int) (fl_A ca1) = r2.toInt := hfr2.symm
  have hF0 := hF0.trans (fl_lt_eq hc2.symm)
  rcases hw with hw | hw
  · obtain ⟨hw, h2_0, h2_1⟩ := hw
    subst hw
    have l2k0_a0_10 : (1 : Int) ≤ a0_10.toInt := h2_0
    have u2k0_a0_10 : a0_10.toInt ≤ (1 : Int) := h2_1
    have hF0 := hF0.trans (if_pos (by decide))
    refine lv_if_ne (tgt := 14) hx hb dX3_takeWhole_5 (by decide) (fun _ => ?_) (fun c5 => absurd c5 (by decide +kernel))
    refine lv_aload_n hx hb dX3_takeWhole_14 rfl (lv_at hl 0 rfl) ?_
    have hKc := hK.sub (tys' := [(ka0_3, .byte)]) [0] rfl
    refine va_callv (va_runV (As := []) (rest := []) ⟨hx, hb, hml, hown, hts⟩ (f_X3_advance l dC dI H.size a0 a0g_0 (.int a0_1) (.int a0_2) a0g_4 a0g_5 a0g_6 (.int a0_13) a0_3 a0_7 a0_8 a0_9 a0_10 a0_11 a0_12 ka0_3 fa0_3 ba0_7_l ba0_7_u ba0_8_l ba0_8_u ba0_9_l ba0_9_u (Int.le_trans zq4 l2k0_a0_10) (Int.le_trans u2k0_a0_10 zq135)) (cwV 0 hts gX3_takeWhole_X3_advance rfl rfl rfl zd_X3_advance ⟨Nat.le_of_ble_eq_true rfl, Nat.le_of_ble_eq_true rfl⟩) ⟨ax_blind (fun _ _ _ _ _ => trivial), zr_3 hKc (zp_P2 hP) (q0 := 0) rfl, ax_pre (zp_P2 hP) hKc (zp_D2 hD) (fun _ _ => trivial)⟩ rfl rfl hl.1 rfl (lv_room (Nat.le_of_ble_eq_true rfl)) dX3_takeWhole_15 ⟨Nat.le_of_ble_eq_true rfl, Nat.le_of_ble_eq_true rfl⟩) hS (fun q _ h => zp_F2 hD hS hA q h) (zp_F2 hD hS hA) (fun u t H locs ht hvm hw => zx_5 (fun v15na0_8 v15na0_9 v15na0_10 v15na0_11 v15na0_12 => zy_4 (fun bv15na0_8 bv15na0_9 bv15na0_10 hraw15_0 hB hz1 hk1 hS1 => zo2 hB ht hP hD hk1 (zp_F2 hD hS hA) hS1 (fun hP hK1 hD hS => ?_))))
    have hc15 : Ff_X3_advance a0_7.toInt a0_9.toInt a0_11.toInt a0_12.toInt (fl_A fa0_3) = (v15na0_8.toInt, v15na0_9.toInt, v15na0_10.toInt, v15na0_11.toInt, v15na0_12.toInt) := hraw15_0
    have hF0 := hF0.trans (fl_c5_eq hc15)
    refine lv_aload_n hx hb dX3_takeWhole_18 rfl (lv_at hl 0 rfl) ?_
    refine lv_iload_n hx hb dX3_takeWhole_19 rfl (lv_at hl 2 rfl) ?_
    refine lv_iload_n hx hb dX3_takeWhole_20 rfl (lv_at hl 3 rfl) ?_
    refine va_calli (va_runV (As := [.int a2, .int a3]) (rest := []) ⟨hx, hb, hml, hown, hts⟩ (f_X3_isWholeWithin l dC dI H.size a0 a2 a3 a0g_0 (.ref a0_3) a0g_4 a0g_5 a0g_6 (.int a0_7) (.int v15na0_9) (.long v15na0_11) (.int a0_13) a0_1 a0_2 v15na0_8 v15na0_10 v15na0_12 bv15na0_8.1 bv15na0_8.2 bv15na0_10.1 bv15na0_10.2) (cwV 2 hts gX3_takeWhole_X3_isWholeWithin rfl rfl rfl zd_X3_isWholeWithin ⟨Nat.le_of_ble_eq_true rfl, Nat.le_of_ble_eq_true rfl⟩) ⟨ax_blind (fun _ _ _ _ hq => va_Nw.same rfl rfl (hq)), zr_3 (zp_K hK) (zp_P1 hP) (q0 := 0) rfl, ax_pre (zp_P1 hP) (zp_K hK) (zp_D1 hD) (fun _ hW => va_Nw.warmM hW hE1)⟩ rfl rfl hl.1 rfl (lv_room (Nat.le_of_ble_eq_true rfl)) dX3_takeWhole_21 ⟨Nat.le_of_ble_eq_true rfl, Nat.le_of_ble_eq_true rfl⟩) hS (fun q _ h => zp_F1 hD hS hA q h) (zp_F1 hD hS hA) (fun r21 u t H locs ht hvm hw => zx_2 (fun v21na0_1 v21na0_2 => zy_1 (fun hraw21_0 hB hz1 hk1 hS1 => zo1 hB ht hP hD hk1 (zp_F1 hD hS hA) hS1 (fun hP hK1 hD hS => ?_))))
    obtain ⟨hw, hfr21⟩ := hw
    have hc21 : Ff_X3_isWholeWithin a2.toInt a3.toInt a0_1.toInt a0_2.toInt v15na0_8.toInt v15na0_10.toInt v15na0_12.toInt = (r21.toInt, v21na0_1.toInt, v21na0_2.toInt) := Prod.ext hfr21.symm hraw21_0
    have hF0 := hF0.trans (fl_c3_eq hc21)
    rcases hw with hw | hw
    · obtain ⟨hw, h21⟩ := hw
      subst hw
      have hF0 := hF0.trans (if_pos (by decide))
      refine lv_if_ne (tgt := 29) hx hb dX3_takeWhole_24 (by decide) (fun _ => ?_) (fun c24 => absurd c24 (by decide +kernel))
      refine lv_aload_n hx hb dX3_takeWhole_29 rfl (lv_at hl 0 rfl) ?_
      refine lv_aload_n hx hb dX3_takeWhole_30 rfl (lv_at hl 0 rfl) ?_
      refine va_get (D := (dC, dI)) (ci := 3) (v := .int v15na0_12) (C := RX3) (T := TX3) (N := 14) hx hb hts zi_X3_takeWhole_3 hown hK hP 0 rfl rfl 12 (by decide) (hts (.fieldLink RX3 85 "WaxTurns$Reade\x72" "whole" "I") (zm_X3_takeWhole_r1 (List.mem_of_getElem? (i := 0) rfl))) (fun _ h9 => h9) rfl dX3_takeWhole_31 ?_
      refine va_put (D := (dC, dI)) (ci := 3) (v := .int v15na0_12) (ty := .int) (C := RX3) (T := TX3) (N := 14) hx hb hts zi_X3_takeWhole_3 tyX3 tyX3_ok nmX3 hown hK hP hD hS 0 rfl rfl 13 (by decide) (hts (.fieldLink RX3 156 "WaxTurns$Reade\x72" "taken" "I") (zm_X3_takeWhole_r1 (List.mem_of_getElem? (i := 1) rfl))) (fun _ h9 => h9) rfl (tyX3_ok 13 (by decide)) rfl rfl (Nat.le_of_ble_eq_true rfl) dX3_takeWhole_34 (fun H locs hP hD hS => ?_)
      refine zs_0 (y := (a0, .inr (3, [a0g_0, .int v21na0_1, .int v21na0_2, .ref a0_3, a0g_4, a0g_5, a0g_6, .int a0_7, .int v15na0_8, .int v15na0_9, .int v15na0_10, .long v15na0_11, .int v15na0_12, .int v15na0_12]))) hP hD rfl (fun hP hD => ?_)
      refine lv_aload_n hx hb dX3_takeWhole_37 rfl (lv_at hl 0 rfl) ?_
      have hKc := hK.sub (tys' := [(ka0_3, .byte)]) [0] rfl
      refine va_callv (va_runV (As := []) (rest := []) ⟨hx, hb, hml, hown, hts⟩ (f_X3_advance l dC dI H.size a0 a0g_0 (.int v21na0_1) (.int v21na0_2) a0g_4 a0g_5 a0g_6 (.int v15na0_12) a0_3 a0_7 v15na0_8 v15na0_9 v15na0_10 v15na0_11 v15na0_12 ka0_3 fa0_3 ba0_7_l ba0_7_u bv15na0_8.1 bv15na0_8.2 bv15na0_9.1 bv15na0_9.2 bv15na0_10.1 bv15na0_10.2) (cwV 0 hts gX3_takeWhole_X3_advance rfl rfl rfl zd_X3_advance ⟨Nat.le_of_ble_eq_true rfl, Nat.le_of_ble_eq_true rfl⟩) ⟨ax_blind (fun _ _ _ _ _ => trivial), zr_3 hKc (zp_P2 hP) (q0 := 0) rfl, ax_pre (zp_P2 hP) hKc (zp_D2 hD) (fun _ _ => trivial)⟩ rfl rfl hl.1 rfl (lv_room (Nat.le_of_ble_eq_true rfl)) dX3_takeWhole_38 ⟨Nat.le_of_ble_eq_true rfl, Nat.le_of_ble_eq_true rfl⟩) hS (fun q _ h => zp_F2 hD hS hA q h) (zp_F2 hD hS hA) (fun u t H locs ht hvm hw => zx_5 (fun v38na0_8 v38na0_9 v38na0_10 v38na0_11 v38na0_12 => zy_4 (fun bv38na0_8 bv38na0_9 bv38na0_10 hraw38_0 hB hz1 hk1 hS1 => zo2 hB ht hP hD hk1 (zp_F2 hD hS hA) hS1 (fun hP hK1 hD hS => ?_))))
      have hc38 : Ff_X3_advance a0_7.toInt v15na0_9.toInt v15na0_11.toInt v15na0_12.toInt (fl_A fa0_3) = (v38na0_8.toInt, v38na0_9.toInt, v38na0_10.toInt, v38na0_11.toInt, v38na0_12.toInt) := hraw38_0
      have hF0 := hF0.trans (fl_c5_eq hc38)
      refine lv_iconst (v := 1) hx hb dX3_takeWhole_41 zk_iconst_1 ?_
      have hFe : FX = (1, v21na0_1.toInt, v21na0_2.toInt, v38na0_8.toInt, v38na0_9.toInt, v38na0_10.toInt, v38na0_11.toInt, v38na0_12.toInt, v15na0_12.toInt) := hF0
      exact W.zret (v := 1) hx hb hr rfl (fun t ht hW => ⟨⟨1, v15na0_12, rfl, ⟨(Or.inl ⟨rfl, h21⟩), (congrArg Prod.fst hFe).symm⟩, v21na0_1, v21na0_2, v38na0_8, v38na0_9, v38na0_10, v38na0_11, v38na0_12, ⟨bv38na0_8.1, bv38na0_8.2⟩, ⟨bv38na0_9.1, bv38na0_9.2⟩, ⟨bv38na0_10.1, bv38na0_10.2⟩, (congrArg Prod.snd hFe), by rw [ht]; exact hP, va_K.moved hW.alike hK, hD⟩, hS.F ht⟩) hS.2.2 dX3_takeWhole_42
    · subst hw
      have hF0 := hF0.trans (if_neg (by decide))
      refine lv_if_ne (tgt := 29) hx hb dX3_takeWhole_24 (by decide) (fun c24 => absurd (by decide +kernel) c24) (fun _ => ?_)
      refine lv_iconst (v := 0) hx hb dX3_takeWhole_27 zk_iconst_0 ?_
      have hFe : FX = (0, v21na0_1.toInt, v21na0_2.toInt, v15na0_8.toInt, v15na0_9.toInt, v15na0_10.toInt, v15na0_11.toInt, v15na0_12.toInt, a0_13.toInt) := hF0
      exact W.zret (v := 0) hx hb hr rfl (fun t ht hW => ⟨⟨0, a0_13, rfl, ⟨(Or.inr rfl), (congrArg Prod.fst hFe).symm⟩, v21na0_1, v21na0_2, v15na0_8, v15na0_9, v15na0_10, v15na0_11, v15na0_12, ⟨bv15na0_8.1, bv15na0_8.2⟩, ⟨bv15na0_9.1, bv15na0_9.2⟩, ⟨bv15na0_10.1, bv15na0_10.2⟩, (congrArg Prod.snd hFe), by rw [ht]; exact hP, va_K.moved hW.alike hK, hD⟩, hS.F ht⟩) hS.2.2 dX3_takeWhole_28
  · subst hw
    have hF0 := hF0.trans (if_neg (by decide))
    refine lv_if_ne (tgt := 14) hx hb dX3_takeWhole_5 (by decide) (fun c5 => absurd (by decide +kernel) c5) (fun _ => ?_)
    refine lv_aload_n hx hb dX3_takeWhole_8 rfl (lv_at hl 0 rfl) ?_
    refine lv_iconst (v := 1) hx hb dX3_takeWhole_9 zk_iconst_1 ?_
    refine va_calli (va_runV (As := [.int 1]) (rest := []) ⟨hx, hb, hml, hown, hts⟩ (f_X3_fails l dC dI H.size a0 1 a0g_0 (.ref a0_3) a0g_4 a0g_5 a0g_6 (.int a0_7) (.int a0_9) (.int a0_10) (.long a0_11) (.int a0_12) (.int a0_13) a0_1 a0_2 a0_8 ba0_8_l ba0_8_u) (cwV 1 hts gX3_takeWhole_X3_fails rfl rfl rfl zd_X3_fails ⟨Nat.le_of_ble_eq_true rfl, Nat.le_of_ble_eq_true rfl⟩) ⟨ax_blind (fun _ _ _ _ _ => trivial), zr_3 (zp_K hK) (zp_P1 hP) (q0 := 0) rfl, ax_pre (zp_P1 hP) (zp_K hK) (zp_D1 hD) (fun _ _ => trivial)⟩ rfl rfl hl.1 rfl (lv_room (Nat.le_of_ble_eq_true rfl)) dX3_takeWhole_10 ⟨Nat.le_of_ble_eq_true rfl, Nat.le_of_ble_eq_true rfl⟩) hS (fun q _ h => zp_F1 hD hS hA q h) (zp_F1 hD hS hA) (fun r10 u t H locs ht hvm hw => zx_2 (fun v10na0_1 v10na0_2 => zy_1 (fun hraw10_0 hB hz1 hk1 hS1 => zo1 hB ht hP hD hk1 (zp_F1 hD hS hA) hS1 (fun hP hK1 hD hS => ?_))))
    obtain ⟨hw, hfr10⟩ := hw
    rw [show (1 : Int32).toInt = 1 from by decide] at hfr10 hraw10_0
    have hc10 : Ff_X3_fails 1 a0_8.toInt = (r10.toInt, v10na0_1.toInt, v10na0_2.toInt) := Prod.ext hfr10.symm hraw10_0
    have hF0 := hF0.trans (fl_c3_eq hc10)
    have hw : r10 = 0 := hw
    have hw := hw.symm
    subst hw
    have hFe : FX = (0, v10na0_1.toInt, v10na0_2.toInt, a0_8.toInt, a0_9.toInt, a0_10.toInt, a0_11.toInt, a0_12.toInt, a0_13.toInt) := hF0
    exact W.zret (v := 0) hx hb hr rfl (fun t ht hW => ⟨⟨0, a0_13, rfl, ⟨(Or.inr rfl), (congrArg Prod.fst hFe).symm⟩, v10na0_1, v10na0_2, a0_8, a0_9, a0_10, a0_11, a0_12, ⟨ba0_8_l, ba0_8_u⟩, ⟨ba0_9_l, ba0_9_u⟩, ⟨ba0_10_l, ba0_10_u⟩, (congrArg Prod.snd hFe), by rw [ht]; exact hP, va_K.moved hW.alike hK, hD⟩, hS.F ht⟩) hS.2.2 dX3_takeWhole_13

set_option maxHeartbeats 4000000 in
set_option maxRecDepth 100000 in
theorem f_X3_takeName (l : Launch) (dC : Nat → ClassId) (dI : Nat → Nat → Nat) (sz : Nat) (a0 : Nat) (a0g_0 a0g_5 a0g_13 : Value) (a0_1 : Int32) (a0_2 : Int32) (a0_3 : Nat) (a0_4 : Nat) (a0_6 : Int32) (a0_7 : Int32) (a0_8 : Int32) (a0_9 : Int32) (a0_10 : Int32) (a0_11 : Int64) (a0_12 : Int32) (ka0_4 : ClassId) (fa0_4 : Nat → Int64) (ka0_3 : ClassId) (fa0_3 : Nat → Int32) (ad : Nat → Nat) (ba0_6_l : (0 : Int) ≤ a0_6.toInt) (ba0_6_u : a0_6.toInt ≤ (12 : Int)) (ba0_7_l : (0 : Int) ≤ a0_7.toInt) (ba0_7_u : a0_7.toInt ≤ (900 : Int)) (ba0_8_l : (0 : Int) ≤ a0_8.toInt) (ba0_8_u : a0_8.toInt ≤ (900 : Int)) (ba0_9_l : (0 : Int) ≤ a0_9.toInt) (ba0_9_u : a0_9.toInt ≤ (900 : Int)) (ba0_10_l : (0 : Int) ≤ a0_10.toInt) (ba0_10_u : a0_10.toInt ≤ (4 : Int)) : zm l yX3_takeName wsX3_takeName ({ frames := 5, cells := 0, slots := 0, locals := 109 }) [.ref a0] dC dI sz [(a0, .inr (3, [a0g_0, .int a0_1, .int a0_2, .ref a0_3, .ref a0_4, a0g_5, .int a0_6, .int a0_7, .int a0_8, .int a0_9, .int a0_10, .long a0_11, .int a0_12, a0g_13])), (a0_4, .inl (ka0_4, 12, .inr (.inl (fa0_4)))), (a0_3, .inl (ka0_3, 900, .inl (fa0_3)))] [(ka0_4, .long), (ka0_3, .byte)] (fun A U => sxc_T ad A U) (fun A => va_Qi (fun (r : Int32) (_ : Unit) => ((r = 1) ∨ (r = 0)) ∧ r.toInt = (Ff_X3_takeName a0_1.toInt a0_2.toInt a0_6.toInt a0_7.toInt a0_8.toInt a0_9.toInt a0_10.toInt a0_11.toInt a0_12.toInt (fl_L fa0_4) (fl_A fa0_3)).1) (fun (_ : Unit) (t : State) => ∃ na0_1 : Int32, ∃ na0_2 : Int32, ∃ na0_6 : Int32, ∃ na0_8 : Int32, ∃ na0_9 : Int32, ∃ na0_10 : Int32, ∃ na0_11 : Int64, ∃ na0_12 : Int32, ∃ nfa0_4 : Nat → Int64, ((0 : Int) ≤ na0_6.toInt ∧ na0_6.toInt ≤ 12) ∧ ((0 : Int) ≤ na0_8.toInt ∧ na0_8.toInt ≤ 900) ∧ ((0 : Int) ≤ na0_9.toInt ∧ na0_9.toInt ≤ 900) ∧ ((0 : Int) ≤ na0_10.toInt ∧ na0_10.toInt ≤ 4) ∧ ((Ff_X3_takeName a0_1.toInt a0_2.toInt a0_6.toInt a0_7.toInt a0_8.toInt a0_9.toInt a0_10.toInt a0_11.toInt a0_12.toInt (fl_L fa0_4) (fl_A fa0_3)).2 = (na0_1.toInt, na0_2.toInt, na0_6.toInt, na0_8.toInt, na0_9.toInt, na0_10.toInt, na0_11.toInt, na0_12.toInt, (fl_L nfa0_4))) ∧ ax_B dC dI A [(a0, .inr (3, [a0g_0, .int na0_1, .int na0_2, .ref a0_3, .ref a0_4, a0g_5, .int na0_6, .int a0_7, .int na0_8, .int na0_9, .int na0_10, .long na0_11, .int na0_12, a0g_13])), (a0_4, .inl (ka0_4, 12, .inr (.inl (nfa0_4)))), (a0_3, .inl (ka0_3, 900, .inl (fa0_3)))] [(ka0_4, .long), (ka0_3, .byte)] t) A) := by
  refine zh (cc := cX3_takeName) (maxL := 2) (ret := (some .boolean)) zn_RX3 rfl (Nat.le_of_ble_eq_true rfl) (fun p e s m below meth c A ls hx hb hml hr hts (hown : s.vm.findClass RX3 = some m.cls) hlocks hA hS hP hK hD hE (hl : lv_has ls 2 [(0, .ref a0)]) => ?_)
  have hE0 := hE
  generalize hFX : Ff_X3_takeName a0_1.toInt a0_2.toInt a0_6.toInt a0_7.toInt a0_8.toInt a0_9.toInt a0_10.toInt a0_11.toInt a0_12.toInt (fl_L fa0_4) (fl_A fa0_3) = FX at ⊢
  have hF0 := hFX.symm.trans (Ff_X3_takeName.eq_1 a0_1.toInt a0_2.toInt a0_6.toInt a0_7.toInt a0_8.toInt a0_9.toInt a0_10.toInt a0_11.toInt a0_12.toInt (fl_L fa0_4) (fl_A fa0_3))
  refine ai_open (fun K hK0 => ?_)
  refine (hK0 _ _ _).mpr ?_
  refine lv_aload_n hx hb dX3_takeName_0 rfl (lv_at hl 0 rfl) ?_
  refine va_get (D := (dC, dI)) (ci := 3) (v := .int a0_10) (C := RX3) (T := TX3) (N := 14) hx hb hts zi_X3_takeName_3 hown hK hP 0 rfl rfl 10 (by decide) (hts (.fieldLink RX3 61 "WaxTurns$Reade\x72" "token" "I") (zm_X3_takeName_r1 (List.mem_of_getElem? (i := 0) rfl))) (fun _ h9 => h9) rfl dX3_takeName_1 ?_
  refine lv_iconst (v := 1) hx hb dX3_takeName_4 zk_iconst_1 ?_
  have J53 : ∀ (H : Heap) (locs : List Loc) (ls : Array Slot), (FX = Gf_X3_takeName_53_1 a0_6.toInt a0_8.toInt a0_9.toInt a0_10.toInt a0_11.toInt a0_12.toInt (fl_L fa0_4)) → va_P (dC, dI) vwCl [(a0, .inr (3, [a0g_0, .int a0_1, .int a0_2, .ref a0_3, .ref a0_4, a0g_5, .int a0_6, .int a0_7, .int a0_8, .int a0_9, .int a0_10, .long a0_11, .int a0_12, a0g_13])), (a0_4, .inl (ka0_4, 12, .inr (.inl (fa0_4)))), (a0_3, .inl (ka0_3, 900, .inl (fa0_3)))] H → va_D A [(a0, .inr (3, [a0g_0, .int a0_1, .int a0_2, .ref a0_3, .ref a0_4, a0g_5, .int a0_6, .int a0_7, .int a0_8, .int a0_9, .int a0_10, .long a0_11, .int a0_12, a0g_13])), (a0_4, .inl (ka0_4, 12, .inr (.inl (fa0_4)))), (a0_3, .inl (ka0_3, 900, .inl (fa0_3)))] → va_S A s.heap H locs → lv_has ls 2 [(0, .ref a0)] → K H locs (F0 m 53 ls []) := by
    intro  H locs ls  hF0 hP hD hS hl
    refine (hK0 _ _ _).mpr ?_
    have hF0 := hF0.trans (Gf_X3_takeName_53_1.eq_1 a0_6.toInt a0_8.toInt a0_9.toInt a0_10.toInt a0_11.toInt a0_12.toInt (fl_L fa0_4))
    refine lv_aload_n hx hb dX3_takeName_53 rfl (lv_at hl 0 rfl) ?_
    refine lv_iconst (v := 1) hx hb dX3_takeName_54 zk_iconst_1 ?_
    refine va_calli (va_runV (As := [.int 1]) (rest := []) ⟨hx, hb, hml, hown, hts⟩ (f_X3_fails l dC dI H.size a0 1 a0g_0 (.ref a0_3) (.ref a0_4) a0g_5 (.int a0_6) (.int a0_7) (.int a0_9) (.int a0_10) (.long a0_11) (.int a0_12) a0g_13 a0_1 a0_2 a0_8 ba0_8_l ba0_8_u) (cwV 1 hts gX3_takeName_X3_fails rfl rfl rfl zd_X3_fails ⟨Nat.le_of_ble_eq_true rfl, Nat.le_of_ble_eq_true rfl⟩) ⟨ax_blind (fun _ _ _ _ _ => trivial), zr_3 (zp_K hK) (zp_P1 hP) (q0 := 0) rfl, ax_pre (zp_P1 hP) (zp_K hK) (zp_D1 hD) (fun _ _ => trivial)⟩ rfl rfl hl.1 rfl (lv_room (Nat.le_of_ble_eq_true rfl)) dX3_takeName_55 ⟨Nat.le_of_ble_eq_true rfl, Nat.le_of_ble_eq_true rfl⟩) hS (fun q _ h => zp_F1 hD hS hA q h) (zp_F1 hD hS hA) (fun r55 u t H locs ht hvm hw => zx_2 (fun v55na0_1 v55na0_2 => zy_1 (fun hraw55_0 hB hz1 hk1 hS1 => zo1 hB ht hP hD hk1 (zp_F1 hD hS hA) hS1 (fun hP hK1 hD hS => ?_))))
    obtain ⟨hw, hfr55⟩ := hw
    rw [show (1 : Int32).toInt = 1 from by decide] at hfr55 hraw55_0
    have hc55 : Ff_X3_fails 1 a0_8.toInt = (r55.toInt, v55na0_1.toInt, v55na0_2.toInt) := Prod.ext hfr55.symm hraw55_0
    have hF0 := hF0.trans (fl_c3_eq hc55)
    have hw : r55 = 0 := hw
    have hw := hw.symm
    subst hw
    have hFe : FX = (0, v55na0_1.toInt, v55na0_2.toInt, a0_6.toInt, a0_8.toInt, a0_9.toInt, a0_10.toInt, a0_11.toInt, a0_12.toInt, (fl_L fa0_4)) := hF0
    exact W.zret (v := 0) hx hb hr rfl (fun t ht hW => ⟨⟨0, (), rfl, ⟨(Or.inr (rfl)), (congrArg Prod.fst hFe).symm⟩, v55na0_1, v55na0_2, a0_6, a0_8, a0_9, a0_10, a0_11, a0_12, fa0_4, ⟨ba0_6_l, ba0_6_u⟩, ⟨ba0_8_l, ba0_8_u⟩, ⟨ba0_9_l, ba0_9_u⟩, ⟨ba0_10_l, ba0_10_u⟩, (congrArg Prod.snd hFe), by rw [ht]; exact hP, va_K.moved hW.alike hK, hD⟩, hS.F ht⟩) hS.2.2 dX3_takeName_58
  refine lv_icmp_ne (tgt := 53) hx hb dX3_takeName_5 (by decide) (fun c5 => ?_) (fun c5 => ?_)
  · have gc5 := ai_ne c5
    have hF0 := hF0.trans (if_neg (show ¬ (a0_10.toInt = 1) from  gc5))
    exact (hK0 _ _ _).mp (J53  _ _ _   hF0 hP hD hS (lv_sub hl [0] rfl))
  · have gc5 := ai_eq c5
    have u5f_a0_10 : a0_10.toInt ≤ (1 : Int) := Int.le_trans (Int.le_of_eq gc5) zq0
    have l5f_a0_10 : (1 : Int) ≤ a0_10.toInt := Int.le_trans zq1 (Int.le_of_eq gc5.symm)
    have hF0 := hF0.trans (if_pos (show a0_10.toInt = 1 from gc5))
    refine lv_aload_n hx hb dX3_takeName_8 rfl (lv_at hl 0 rfl) ?_
    refine va_ldcS hx hb hown (sxc_R0 hE0) dX3_takeName_9 ?_
    refine va_calli (va_runV (As := [.ref (ad 0)]) (rest := []) ⟨hx, hb, hml, hown, hts⟩ (f_X3_isWord l dC dI s.heap.size a0 (ad 0) a0g_0 (.int a0_1) (.int a0_2) (.ref a0_3) (.ref a0_4) a0g_5 (.int a0_6) (.int a0_7) (.int a0_8) (.int a0_9) (.int a0_12) a0g_13 a0_10 a0_11 7 (sxc 0) (Int.le_trans zq4 l5f_a0_10) (Int.le_trans u5f_a0_10 zq135)) (cwV 1 hts gX3_takeName_X3_isWord rfl rfl rfl zd_X3_isWord ⟨Nat.le_of_ble_eq_true rfl, Nat.le_of_ble_eq_true rfl⟩) ⟨ax_blind (fun _ _ _ _ hq => sxc_W_same _ _ _ _ (hq)), zr_3 (zp_K hK) (zp_P1 hP) (q0 := 0) rfl, ax_preE (zp_P1 hP) (zp_K hK) (zp_D1 hD) (fun U hU hW => sxc_W_to (sxc_T_w hE0 (i := 0) (by decide)) hS.2.1 (zp_F1 hD hS hA) hU hW)⟩ rfl rfl hl.1 rfl (lv_room (Nat.le_of_ble_eq_true rfl)) dX3_takeName_11 ⟨Nat.le_of_ble_eq_true rfl, Nat.le_of_ble_eq_true rfl⟩) hS (fun q _ h => zp_F1 hD hS hA q h) (zp_F1 hD hS hA) (fun r11 u t H locs ht hvm hw hB hz1 hk1 hS1 => zo1 hB ht hP hD hk1 (zp_F1 hD hS hA) hS1 (fun hP hK1 hD hS => ?_))
    obtain ⟨hw, hfr11⟩ := hw
    rw [show ((7 : Nat) : Int) = 7 from rfl] at hfr11
    have hc11 : Ff_X3_isWord a0_10.toInt a0_11.toInt 7 (fl_A (sxc 0)) = r11.toInt := hfr11.symm
    have hF0 := hF0.trans (fl_lt_eq hc11.symm)
    rcases hw with hw | hw
    · obtain ⟨hw, h11_0, h11_1⟩ := hw
      subst hw
      have l11k0_a0_10 : (1 : Int) ≤ a0_10.toInt := l5f_a0_10
      have u11k0_a0_10 : a0_10.toInt ≤ (1 : Int) := u5f_a0_10
      have hF0 := hF0.trans (if_pos (by decide))
      refine lv_if_ne (tgt := 53) hx hb dX3_takeName_14 (by decide) (fun _ => ?_) (fun c14 => absurd c14 (by decide +kernel))
      exact (hK0 _ _ _).mp (J53  _ _ _   hF0 hP hD hS (lv_sub hl [0] rfl))
    · subst hw
      have hF0 := hF0.trans (if_neg (by decide))
      refine lv_if_ne (tgt := 53) hx hb dX3_takeName_14 (by decide) (fun c14 => absurd (by decide +kernel) c14) (fun _ => ?_)
      refine lv_aload_n hx hb dX3_takeName_17 rfl (lv_at hl 0 rfl) ?_
      refine va_ldcS hx hb hown (sxc_R1 hE0) dX3_takeName_18 ?_
      refine va_calli (va_runV (As := [.ref (ad 1)]) (rest := []) ⟨hx, hb, hml, hown, hts⟩ (f_X3_isWord l dC dI H.size a0 (ad 1) a0g_0 (.int a0_1) (.int a0_2) (.ref a0_3) (.ref a0_4) a0g_5 (.int a0_6) (.int a0_7) (.int a0_8) (.int a0_9) (.int a0_12) a0g_13 a0_10 a0_11 3 (sxc 1) (Int.le_trans zq4 l5f_a0_10) (Int.le_trans u5f_a0_10 zq135)) (cwV 1 hts gX3_takeName_X3_isWord rfl rfl rfl zd_X3_isWord ⟨Nat.le_of_ble_eq_true rfl, Nat.le_of_ble_eq_true rfl⟩) ⟨ax_blind (fun _ _ _ _ hq => sxc_W_same _ _ _ _ (hq)), zr_3 (zp_K hK) (zp_P1 hP) (q0 := 0) rfl, ax_preE (zp_P1 hP) (zp_K hK) (zp_D1 hD) (fun U hU hW => sxc_W_to (sxc_T_w hE0 (i := 1) (by decide)) hS.2.1 (zp_F1 hD hS hA) hU hW)⟩ rfl rfl hl.1 rfl (lv_room (Nat.le_of_ble_eq_true rfl)) dX3_takeName_20 ⟨Nat.le_of_ble_eq_true rfl, Nat.le_of_ble_eq_true rfl⟩) hS (fun q _ h => zp_F1 hD hS hA q h) (zp_F1 hD hS hA) (fun r20 u t H locs ht hvm hw hB hz1 hk1 hS1 => zo1 hB ht hP hD hk1 (zp_F1 hD hS hA) hS1 (fun hP hK1 hD hS => ?_))
      obtain ⟨hw, hfr20⟩ := hw
      rw [show ((3 : Nat) : Int) = 3 from rfl] at hfr20
      have hc20 : Ff_X3_isWord a0_10.toInt a0_11.toInt 3 (fl_A (sxc 1)) = r20.toInt := hfr20.symm
      have hF0 := hF0.trans (fl_lt_eq hc20.symm)
      rcases hw with hw | hw
      · obtain ⟨hw, h20_0, h20_1⟩ := hw
        subst hw
        have l20k0_a0_10 : (1 : Int) ≤ a0_10.toInt := l5f_a0_10
        have u20k0_a0_10 : a0_10.toInt ≤ (1 : Int) := u5f_a0_10
        have hF0 := hF0.trans (if_pos (by decide))
        refine lv_if_ne (tgt := 53) hx hb dX3_takeName_23 (by decide) (fun _ => ?_) (fun c23 => absurd c23 (by decide +kernel))
        exact (hK0 _ _ _).mp (J53  _ _ _   hF0 hP hD hS (lv_sub hl [0] rfl))
      · subst hw
        have hF0 := hF0.trans (if_neg (by decide))
        refine lv_if_ne (tgt := 53) hx hb dX3_takeName_23 (by decide) (fun c23 => absurd (by decide +kernel) c23) (fun _ => ?_)
        refine lv_aload_n hx hb dX3_takeName_26 rfl (lv_at hl 0 rfl) ?_
        refine va_ldcS hx hb hown (sxc_R2 hE0) dX3_takeName_27 ?_
        refine va_calli (va_runV (As := [.ref (ad 2)]) (rest := []) ⟨hx, hb, hml, hown, hts⟩ (f_X3_isWord l dC dI H.size a0 (ad 2) a0g_0 (.int a0_1) (.int a0_2) (.ref a0_3) (.ref a0_4) a0g_5 (.int a0_6) (.int a0_7) (.int a0_8) (.int a0_9) (.int a0_12) a0g_13 a0_10 a0_11 6 (sxc 2) (Int.le_trans zq4 l5f_a0_10) (Int.le_trans u5f_a0_10 zq135)) (cwV 1 hts gX3_takeName_X3_isWord rfl rfl rfl zd_X3_isWord ⟨Nat.le_of_ble_eq_true rfl, Nat.le_of_ble_eq_true rfl⟩) ⟨ax_blind (fun _ _ _ _ hq => sxc_W_same _ _ _ _ (hq)), zr_3 (zp_K hK) (zp_P1 hP) (q0 := 0) rfl, ax_preE (zp_P1 hP) (zp_K hK) (zp_D1 hD) (fun U hU hW => sxc_W_to (sxc_T_w hE0 (i := 2) (by decide)) hS.2.1 (zp_F1 hD hS hA) hU hW)⟩ rfl rfl hl.1 rfl (lv_room (Nat.le_of_ble_eq_true rfl)) dX3_takeName_29 ⟨Nat.le_of_ble_eq_true rfl, Nat.le_of_ble_eq_true rfl⟩) hS (fun q _ h => zp_F1 hD hS hA q h) (zp_F1 hD hS hA) (fun r29 u t H locs ht hvm hw hB hz1 hk1 hS1 => zo1 hB ht hP hD hk1 (zp_F1 hD hS hA) hS1 (fun hP hK1 hD hS => ?_))
        obtain ⟨hw, hfr29⟩ := hw
        rw [show ((6 : Nat) : Int) = 6 from rfl] at hfr29
        have hc29 : Ff_X3_isWord a0_10.toInt a0_11.toInt 6 (fl_A (sxc 2)) = r29.toInt := hfr29.symm
        have hF0 := hF0.trans (fl_lt_eq hc29.symm)
        rcases hw with hw | hw
        · obtain ⟨hw, h29_0, h29_1⟩ := hw
          subst hw
          have l29k0_a0_10 : (1 : Int) ≤ a0_10.toInt := l5f_a0_10
          have u29k0_a0_10 : a0_10.toInt ≤ (1 : Int) := u5f_a0_10
          have hF0 := hF0.trans (if_pos (by decide))
          refine lv_if_ne (tgt := 53) hx hb dX3_takeName_32 (by decide) (fun _ => ?_) (fun c32 => absurd c32 (by decide +kernel))
          exact (hK0 _ _ _).mp (J53  _ _ _   hF0 hP hD hS (lv_sub hl [0] rfl))
        · subst hw
          have hF0 := hF0.trans (if_neg (by decide))
          refine lv_if_ne (tgt := 53) hx hb dX3_takeName_32 (by decide) (fun c32 => absurd (by decide +kernel) c32) (fun _ => ?_)
          refine lv_aload_n hx hb dX3_takeName_35 rfl (lv_at hl 0 rfl) ?_
          refine va_ldcS hx hb hown (sxc_R3 hE0) dX3_takeName_36 ?_
          refine va_calli (va_runV (As := [.ref (ad 3)]) (rest := []) ⟨hx, hb, hml, hown, hts⟩ (f_X3_isWord l dC dI H.size a0 (ad 3) a0g_0 (.int a0_1) (.int a0_2) (.ref a0_3) (.ref a0_4) a0g_5 (.int a0_6) (.int a0_7) (.int a0_8) (.int a0_9) (.int a0_12) a0g_13 a0_10 a0_11 7 (sxc 3) (Int.le_trans zq4 l5f_a0_10) (Int.le_trans u5f_a0_10 zq135)) (cwV 1 hts gX3_takeName_X3_isWord rfl rfl rfl zd_X3_isWord ⟨Nat.le_of_ble_eq_true rfl, Nat.le_of_ble_eq_true rfl⟩) ⟨ax_blind (fun _ _ _ _ hq => sxc_W_same _ _ _ _ (hq)), zr_3 (zp_K hK) (zp_P1 hP) (q0 := 0) rfl, ax_preE (zp_P1 hP) (zp_K hK) (zp_D1 hD) (fun U hU hW => sxc_W_to (sxc_T_w hE0 (i := 3) (by decide)) hS.2.1 (zp_F1 hD hS hA) hU hW)⟩ rfl rfl hl.1 rfl (lv_room (Nat.le_of_ble_eq_true rfl)) dX3_takeName_38 ⟨Nat.le_of_ble_eq_true rfl, Nat.le_of_ble_eq_true rfl⟩) hS (fun q _ h => zp_F1 hD hS hA q h) (zp_F1 hD hS hA) (fun r38 u t H locs ht hvm hw hB hz1 hk1 hS1 => zo1 hB ht hP hD hk1 (zp_F1 hD hS hA) hS1 (fun hP hK1 hD hS => ?_))
          obtain ⟨hw, hfr38⟩ := hw
          rw [show ((7 : Nat) : Int) = 7 from rfl] at hfr38
          have hc38 : Ff_X3_isWord a0_10.toInt a0_11.toInt 7 (fl_A (sxc 3)) = r38.toInt := hfr38.symm
          have hF0 := hF0.trans (fl_lt_eq hc38.symm)
          rcases hw with hw | hw
          · obtain ⟨hw, h38_0, h38_1⟩ := hw
            subst hw
            have l38k0_a0_10 : (1 : Int) ≤ a0_10.toInt := l5f_a0_10
            have u38k0_a0_10 : a0_10.toInt ≤ (1 : Int) := u5f_a0_10
            have hF0 := hF0.trans (if_pos (by decide))
            refine lv_if_ne (tgt := 53) hx hb dX3_takeName_41 (by decide) (fun _ => ?_) (fun c41 => absurd c41 (by decide +kernel))
            exact (hK0 _ _ _).mp (J53  _ _ _   hF0 hP hD hS (lv_sub hl [0] rfl))
          · subst hw
            have hF0 := hF0.trans (if_neg (by decide))
            refine lv_if_ne (tgt := 53) hx hb dX3_takeName_41 (by decide) (fun c41 => absurd (by decide +kernel) c41) (fun _ => ?_)
            refine lv_aload_n hx hb dX3_takeName_44 rfl (lv_at hl 0 rfl) ?_
            refine va_ldcS hx hb hown (sxc_R4 hE0) dX3_takeName_45 ?_
            refine va_calli (va_runV (As := [.ref (ad 4)]) (rest := []) ⟨hx, hb, hml, hown, hts⟩ (f_X3_isWord l dC dI H.size a0 (ad 4) a0g_0 (.int a0_1) (.int a0_2) (.ref a0_3) (.ref a0_4) a0g_5 (.int a0_6) (.int a0_7) (.int a0_8) (.int a0_9) (.int a0_12) a0g_13 a0_10 a0_11 4 (sxc 4) (Int.le_trans zq4 l5f_a0_10) (Int.le_trans u5f_a0_10 zq135)) (cwV 1 hts gX3_takeName_X3_isWord rfl rfl rfl zd_X3_isWord ⟨Nat.le_of_ble_eq_true rfl, Nat.le_of_ble_eq_true rfl⟩) ⟨ax_blind (fun _ _ _ _ hq => sxc_W_same _ _ _ _ (hq)), zr_3 (zp_K hK) (zp_P1 hP) (q0 := 0) rfl, ax_preE (zp_P1 hP) (zp_K hK) (zp_D1 hD) (fun U hU hW => sxc_W_to (sxc_T_w hE0 (i := 4) (by decide)) hS.2.1 (zp_F1 hD hS hA) hU hW)⟩ rfl rfl hl.1 rfl (lv_room (Nat.le_of_ble_eq_true rfl)) dX3_takeName_47 ⟨Nat.le_of_ble_eq_true rfl, Nat.le_of_ble_eq_true rfl⟩) hS (fun q _ h => zp_F1 hD hS hA q h) (zp_F1 hD hS hA) (fun r47 u t H locs ht hvm hw hB hz1 hk1 hS1 => zo1 hB ht hP hD hk1 (zp_F1 hD hS hA) hS1 (fun hP hK1 hD hS => ?_))
            obtain ⟨hw, hfr47⟩ := hw
            rw [show ((4 : Nat) : Int) = 4 from rfl] at hfr47
            have hc47 : Ff_X3_isWord a0_10.toInt a0_11.toInt 4 (fl_A (sxc 4)) = r47.toInt := hfr47.symm
            have hF0 := hF0.trans (fl_lt_eq hc47.symm)
            rcases hw with hw | hw
            · obtain ⟨hw, h47_0, h47_1⟩ := hw
              subst hw
              have l47k0_a0_10 : (1 : Int) ≤ a0_10.toInt := l5f_a0_10
              have u47k0_a0_10 : a0_10.toInt ≤ (1 : Int) := u5f_a0_10
              have hF0 := hF0.trans (if_pos (by decide))
              refine lv_if_eq (tgt := 59) hx hb dX3_takeName_50 (by decide) (fun c50 => absurd c50 (by decide +kernel)) (fun _ => ?_)
              exact (hK0 _ _ _).mp (J53  _ _ _   hF0 hP hD hS (lv_sub hl [0] rfl))
            · subst hw
              have hF0 := hF0.trans (if_neg (by decide))
              refine lv_if_eq (tgt := 59) hx hb dX3_takeName_50 (by decide) (fun _ => ?_) (fun c50 => absurd (by decide +kernel) c50)
              refine lv_iconst (v := 0) hx hb dX3_takeName_59 zk_iconst_0 ?_
              refine lv_istore_n (lv' := [(1, .int 0), (0, .ref a0)]) hx hb dX3_takeName_60 rfl hl (by decide) rfl (fun ls hl => ?_)
              have J61 : ∀ (n : Nat) (j61l1 : Int32) (H : Heap) (locs : List Loc) (ls : Array Slot), (13 : Int) - j61l1.toInt ≤ (n : Int) → (0 : Int) ≤ j61l1.toInt → j61l1.toInt ≤ (12 : Int) → (FX = fl_wh (Sf_X3_takeName_61_1 a0_1.toInt a0_2.toInt a0_6.toInt a0_7.toInt a0_8.toInt a0_9.toInt a0_10.toInt a0_11.toInt a0_12.toInt (fl_L fa0_4) (fl_A fa0_3)) (0, 0, 0, 0, 0, 0, 0, 0, 0, (fun _ => 0)) n j61l1.toInt) → va_P (dC, dI) vwCl [(a0, .inr (3, [a0g_0, .int a0_1, .int a0_2, .ref a0_3, .ref a0_4, a0g_5, .int a0_6, .int a0_7, .int a0_8, .int a0_9, .int a0_10, .long a0_11, .int a0_12, a0g_13])), (a0_4, .inl (ka0_4, 12, .inr (.inl (fa0_4)))), (a0_3, .inl (ka0_3, 900, .inl (fa0_3)))] H → va_D A [(a0, .inr (3, [a0g_0, .int a0_1, .int a0_2, .ref a0_3, .ref a0_4, a0g_5, .int a0_6, .int a0_7, .int a0_8, .int a0_9, .int a0_10, .long a0_11, .int a0_12, a0g_13])), (a0_4, .inl (ka0_4, 12, .inr (.inl (fa0_4)))), (a0_3, .inl (ka0_3, 900, .inl (fa0_3)))] → va_S A s.heap H locs → lv_has ls 2 [(0, .ref a0), (1, .int j61l1)] → K H locs (F0 m 61 ls []) := by
                intro n
                induction n with
                | zero =>
                  intro j61l1 H locs ls hm bj61l1_l bj61l1_u hF0 hP hD hS hl
                  first | exact zg_0 hm bj61l1_u (by decide) | (have h8 := ai_min j61l1; have h9 := ai_max j61l1; exact absurd hm (by omega))
                | succ n ih61 =>
                  intro j61l1 H locs ls hm bj61l1_l bj61l1_u hF0 hP hD hS hl
                  refine (hK0 _ _ _).mpr ?_
                  have hm61 := hm
                  obtain ⟨SX61, hSX61⟩ : ∃ q9, Sf_X3_takeName_61_1 a0_1.toInt a0_2.toInt a0_6.toInt a0_7.toInt a0_8.toInt a0_9.toInt a0_10.toInt a0_11.toInt a0_12.toInt (fl_L fa0_4) (fl_A fa0_3) j61l1.toInt = q9 := ⟨_, rfl⟩
                  have hF1 := hSX61.symm.trans (Sf_X3_takeName_61_1.eq_1 a0_1.toInt a0_2.toInt a0_6.toInt a0_7.toInt a0_8.toInt a0_9.toInt a0_10.toInt a0_11.toInt a0_12.toInt (fl_L fa0_4) (fl_A fa0_3) j61l1.toInt)
                  refine lv_iload_n hx hb dX3_takeName_61 rfl (lv_at hl 1 rfl) ?_
                  refine lv_aload_n hx hb dX3_takeName_62 rfl (lv_at hl 0 rfl) ?_
                  refine va_get (D := (dC, dI)) (ci := 3) (v := .int a0_6) (C := RX3) (T := TX3) (N := 14) hx hb hts zi_X3_takeName_3 hown hK hP 0 rfl rfl 6 (by decide) (hts (.fieldLink RX3 42 "WaxTurns$Reade\x72" "nameCount" "I") (zm_X3_takeName_r1 (List.mem_of_getElem? (i := 1) rfl))) (fun _ h9 => h9) rfl dX3_takeName_63 ?_
                  refine lv_icmp_ge (tgt := 95) hx hb dX3_takeName_66 (by decide) (fun c66 => ?_) (fun c66 => ?_)
                  · have gc66 := ai_le c66
                    have u66t_a0_6 : a0_6.toInt ≤ (12 : Int) := ba0_6_u
                    have l66t_j61l1 : (0 : Int) ≤ j61l1.toInt := bj61l1_l
                    have hF1 := hF1.trans (if_pos (show a0_6.toInt ≤ j61l1.toInt from gc66))
                    have hF0 := hF0.trans (fl_wh_r (hSX61.trans hF1))
                    refine lv_aload_n hx hb dX3_takeName_95 rfl (lv_at hl 0 rfl) ?_
                    refine va_get (D := (dC, dI)) (ci := 3) (v := .int a0_6) (C := RX3) (T := TX3) (N := 14) hx hb hts zi_X3_takeName_3 hown hK hP 0 rfl rfl 6 (by decide) (hts (.fieldLink RX3 42 "WaxTurns$Reade\x72" "nameCount" "I") (zm_X3_takeName_r1 (List.mem_of_getElem? (i := 1) rfl))) (fun _ h9 => h9) rfl dX3_takeName_96 ?_
                    refine lv_bipush (v := 12) hx hb dX3_takeName_99 zk_bipush_12 ?_
                    have J127 : ∀ (j127a0_6 : Int32) (j127a0_4_a : Nat → Int64) (H : Heap) (locs : List Loc) (ls : Array Slot), (0 : Int) ≤ j127a0_6.toInt → j127a0_6.toInt ≤ (12 : Int) → (FX = Gf_X3_takeName_127_1 a0_1.toInt a0_2.toInt a0_7.toInt a0_9.toInt a0_11.toInt a0_12.toInt (fl_A fa0_3) j127a0_6.toInt (fl_L j127a0_4_a)) → va_P (dC, dI) vwCl [(a0, .inr (3, [a0g_0, .int a0_1, .int a0_2, .ref a0_3, .ref a0_4, a0g_5, .int j127a0_6, .int a0_7, .int a0_8, .int a0_9, .int a0_10, .long a0_11, .int a0_12, a0g_13])), (a0_4, .inl (ka0_4, 12, .inr (.inl (j127a0_4_a)))), (a0_3, .inl (ka0_3, 900, .inl (fa0_3)))] H → va_D A [(a0, .inr (3, [a0g_0, .int a0_1, .int a0_2, .ref a0_3, .ref a0_4, a0g_5, .int j127a0_6, .int a0_7, .int a0_8, .int a0_9, .int a0_10, .long a0_11, .int a0_12, a0g_13])), (a0_4, .inl (ka0_4, 12, .inr (.inl (j127a0_4_a)))), (a0_3, .inl (ka0_3, 900, .inl (fa0_3)))] → va_S A s.heap H locs → lv_has ls 2 [(0, .ref a0)] → K H locs (F0 m 127 ls []) := by
                      intro j127a0_6 j127a0_4_a H locs ls  bj127a0_6_l bj127a0_6_u hF0 hP hD hS hl
                      refine (hK0 _ _ _).mpr ?_
                      have hF0 := hF0.trans (Gf_X3_takeName_127_1.eq_1 a0_1.toInt a0_2.toInt a0_7.toInt a0_9.toInt a0_11.toInt a0_12.toInt (fl_A fa0_3) j127a0_6.toInt (fl_L j127a0_4_a))
                      refine lv_aload_n hx hb dX3_takeName_127 rfl (lv_at hl 0 rfl) ?_
                      refine zc_cutc (wc := [(a0, .inr (3, [a0g_0, .int a0_1, .int a0_2, .ref a0_3, .ref a0_4, a0g_5, .int j127a0_6, .int a0_7, .int a0_8, .int a0_9, .int a0_10, .long a0_11, .int a0_12, a0g_13])), (a0_3, .inl (ka0_3, 900, .inl (fa0_3)))]) hP hD hS hA [0, 2] (by decide +kernel) rfl (fun hPc hDc hFc hCc => ?_)
                      have hKc := hK.sub (tys' := [(ka0_3, .byte)]) [1] rfl
                      refine va_callv (va_runV (As := []) (rest := []) ⟨hx, hb, hml, hown, hts⟩ (f_X3_advance l dC dI H.size a0 a0g_0 (.int a0_1) (.int a0_2) (.ref a0_4) a0g_5 (.int j127a0_6) a0g_13 a0_3 a0_7 a0_8 a0_9 a0_10 a0_11 a0_12 ka0_3 fa0_3 ba0_7_l ba0_7_u ba0_8_l ba0_8_u ba0_9_l ba0_9_u (Int.le_trans zq4 l5f_a0_10) (Int.le_trans u5f_a0_10 zq135)) (cwV 0 hts gX3_takeName_X3_advance rfl rfl rfl zd_X3_advance ⟨Nat.le_of_ble_eq_true rfl, Nat.le_of_ble_eq_true rfl⟩) ⟨ax_blind (fun _ _ _ _ _ => trivial), zr_3 hKc hPc (q0 := 0) rfl, ax_pre hPc hKc hDc (fun _ _ => trivial)⟩ rfl rfl hl.1 rfl (lv_room (Nat.le_of_ble_eq_true rfl)) dX3_takeName_128 ⟨Nat.le_of_ble_eq_true rfl, Nat.le_of_ble_eq_true rfl⟩) hS (fun q _ h => hFc q h) hFc (fun u t H locs ht hvm hw => zx_5 (fun v128na0_8 v128na0_9 v128na0_10 v128na0_11 v128na0_12 => zy_4 (fun bv128na0_8 bv128na0_9 bv128na0_10 hraw128_0 hB hz1 hk1 hS1 => zo hB ht hS1 (fun hP1 hK1 hD1 hS => ?_))))
                      refine zc_backc (w := [(a0, .inr (3, [a0g_0, .int a0_1, .int a0_2, .ref a0_3, .ref a0_4, a0g_5, .int j127a0_6, .int a0_7, .int v128na0_8, .int v128na0_9, .int v128na0_10, .long v128na0_11, .int v128na0_12, a0g_13])), (a0_4, .inl (ka0_4, 12, .inr (.inl (j127a0_4_a)))), (a0_3, .inl (ka0_3, 900, .inl (fa0_3)))]) hP hD hCc hk1 hFc hP1 hD1 [.inr 0, .inl 1, .inr 1] (by decide +kernel) rfl (fun hP hD => ?_)
                      have hc128 : Ff_X3_advance a0_7.toInt a0_9.toInt a0_11.toInt a0_12.toInt (fl_A fa0_3) = (v128na0_8.toInt, v128na0_9.toInt, v128na0_10.toInt, v128na0_11.toInt, v128na0_12.toInt) := hraw128_0
                      have hF0 := hF0.trans (fl_c5_eq hc128)
                      refine lv_iconst (v := 1) hx hb dX3_takeName_131 zk_iconst_1 ?_
                      have hFe : FX = (1, a0_1.toInt, a0_2.toInt, j127a0_6.toInt, v128na0_8.toInt, v128na0_9.toInt, v128na0_10.toInt, v128na0_11.toInt, v128na0_12.toInt, (fl_L j127a0_4_a)) := hF0
                      exact W.zret (v := 1) hx hb hr rfl (fun t ht hW => ⟨⟨1, (), rfl, ⟨(Or.inl (rfl)), (congrArg Prod.fst hFe).symm⟩, a0_1, a0_2, j127a0_6, v128na0_8, v128na0_9, v128na0_10, v128na0_11, v128na0_12, j127a0_4_a, ⟨bj127a0_6_l, bj127a0_6_u⟩, ⟨bv128na0_8.1, bv128na0_8.2⟩, ⟨bv128na0_9.1, bv128na0_9.2⟩, ⟨bv128na0_10.1, bv128na0_10.2⟩, (congrArg Prod.snd hFe), by rw [ht]; exact hP, va_K.moved hW.alike hK, hD⟩, hS.F ht⟩) hS.2.2 dX3_takeName_132
                    refine lv_icmp_ge (tgt := 127) hx hb dX3_takeName_101 (by decide) (fun c101 => ?_) (fun c101 => ?_)
                    · have gc101 := ai_le c101
                      have l101t_a0_6 : (12 : Int) ≤ a0_6.toInt := Int.le_trans zq119 gc101
                      have hF0 := hF0.trans (if_pos (show 12 ≤ a0_6.toInt from gc101))
                      exact (hK0 _ _ _).mp (J127 a0_6 fa0_4 _ _ _  (Int.le_trans zq169 l101t_a0_6) u66t_a0_6 hF0 hP hD hS (lv_sub hl [0] rfl))
                    · have gc101 := ai_nle c101
                      have u101f_a0_6 : a0_6.toInt ≤ (11 : Int) := ai_lthi gc101 zq120
                      have hF0 := hF0.trans (if_neg (show ¬ (12 ≤ a0_6.toInt) from Int.not_le.mpr gc101))
                      refine lv_aload_n hx hb dX3_takeName_104 rfl (lv_at hl 0 rfl) ?_
                      refine va_get (D := (dC, dI)) (ci := 3) (v := .ref a0_4) (C := RX3) (T := TX3) (N := 14) hx hb hts zi_X3_takeName_3 hown hK hP 0 rfl rfl 4 (by decide) (hts (.fieldLink RX3 15 "WaxTurns$Reade\x72" "names" "[J") (zm_X3_takeName_r1 (List.mem_of_getElem? (i := 2) rfl))) (fun _ h9 => h9) rfl dX3_takeName_105 ?_
                      refine lv_aload_n hx hb dX3_takeName_108 rfl (lv_at hl 0 rfl) ?_
                      refine va_get (D := (dC, dI)) (ci := 3) (v := .int a0_6) (C := RX3) (T := TX3) (N := 14) hx hb hts zi_X3_takeName_3 hown hK hP 0 rfl rfl 6 (by decide) (hts (.fieldLink RX3 42 "WaxTurns$Reade\x72" "nameCount" "I") (zm_X3_takeName_r1 (List.mem_of_getElem? (i := 1) rfl))) (fun _ h9 => h9) rfl dX3_takeName_109 ?_
                      refine lv_aload_n hx hb dX3_takeName_112 rfl (lv_at hl 0 rfl) ?_
                      refine va_get (D := (dC, dI)) (ci := 3) (v := .long a0_11) (C := RX3) (T := TX3) (N := 14) hx hb hts zi_X3_takeName_3 hown hK hP 0 rfl rfl 11 (by decide) (hts (.fieldLink RX3 81 "WaxTurns$Reade\x72" "word" "J") (zm_X3_takeName_r1 (List.mem_of_getElem? (i := 3) rfl))) (fun _ h9 => h9) rfl dX3_takeName_113 ?_
                      refine va_last hx hb hK hP hD hS 1 0 rfl rfl (ai_in ba0_6_l u101f_a0_6 (by decide) (by decide)) dX3_takeName_116 (fun H locs hP hD hS => ?_)
                      obtain ⟨f116, ef116⟩ : ∃ g9 : Nat → Int64, g9 = vp_updL fa0_4 (a0_6 : Int32).toNatClampNeg a0_11 := ⟨_, rfl⟩
                      refine zs_1 (y := (a0_4, .inl (ka0_4, 12, .inr (.inl (f116))))) hP hD (by rw [ef116]) (fun hP hD => ?_)
                      have fqf116 := fl_upL_eq ef116
                      have hF0 := hF0.trans (fl_lt_eq (show (fl_L f116) = fl_up (fl_L fa0_4) (a0_6.toInt.toNat) a0_11.toInt from fqf116))
                      refine lv_aload_n hx hb dX3_takeName_117 rfl (lv_at hl 0 rfl) ?_
                      refine lv_dup hx hb dX3_takeName_118 rfl ?_
                      refine va_get (D := (dC, dI)) (ci := 3) (v := .int a0_6) (C := RX3) (T := TX3) (N := 14) hx hb hts zi_X3_takeName_3 hown hK hP 0 rfl rfl 6 (by decide) (hts (.fieldLink RX3 42 "WaxTurns$Reade\x72" "nameCount" "I") (zm_X3_takeName_r1 (List.mem_of_getElem? (i := 1) rfl))) (fun _ h9 => h9) rfl dX3_takeName_119 ?_
                      refine lv_iconst (v := 1) hx hb dX3_takeName_122 zk_iconst_1 ?_
                      refine lv_iadd hx hb dX3_takeName_123 ?_
                      refine lv_topi (fun x123 ex123 => ?_)
                      have qx123 : x123.toInt = a0_6.toInt + (1 : Int32).toInt := ai_add ex123 ⟨ba0_6_l, u101f_a0_6⟩ ⟨zq1, zq0⟩ (by decide) (by decide)
                      have bx123 : (1 : Int) ≤ x123.toInt ∧ x123.toInt ≤ 12 := ⟨by rw [qx123]; exact Int.add_le_add ba0_6_l zq1, by rw [qx123]; exact Int.add_le_add u101f_a0_6 zq0⟩
                      have wx123 : x123.toInt = a0_6.toInt + 1 := qx123
                      have hF0 := hF0.trans (fl_lt_eq (show x123.toInt = a0_6.toInt + 1 from qx123))
                      refine va_put (D := (dC, dI)) (ci := 3) (v := .int x123) (ty := .int) (C := RX3) (T := TX3) (N := 14) hx hb hts zi_X3_takeName_3 tyX3 tyX3_ok nmX3 hown hK hP hD hS 0 rfl rfl 6 (by decide) (hts (.fieldLink RX3 42 "WaxTurns$Reade\x72" "nameCount" "I") (zm_X3_takeName_r1 (List.mem_of_getElem? (i := 1) rfl))) (fun _ h9 => h9) rfl (tyX3_ok 6 (by decide)) rfl rfl (Nat.le_of_ble_eq_true rfl) dX3_takeName_124 (fun H locs hP hD hS => ?_)
                      refine zs_0 (y := (a0, .inr (3, [a0g_0, .int a0_1, .int a0_2, .ref a0_3, .ref a0_4, a0g_5, .int x123, .int a0_7, .int a0_8, .int a0_9, .int a0_10, .long a0_11, .int a0_12, a0g_13]))) hP hD rfl (fun hP hD => ?_)
                      exact (hK0 _ _ _).mp (J127 x123 f116 _ _ _  (Int.le_trans zq4 bx123.1) bx123.2 hF0 hP hD hS (lv_sub hl [0] rfl))
                  · have gc66 := ai_nle c66
                    have u66f_j61l1 : j61l1.toInt ≤ (11 : Int) := ai_lthi gc66 ba0_6_u
                    have l66f_a0_6 : (1 : Int) ≤ a0_6.toInt := ai_ltlo gc66 bj61l1_l
                    have hF1 := hF1.trans (if_neg (show ¬ (a0_6.toInt ≤ j61l1.toInt) from Int.not_le.mpr gc66))
                    refine lv_aload_n hx hb dX3_takeName_69 rfl (lv_at hl 0 rfl) ?_
                    refine va_get (D := (dC, dI)) (ci := 3) (v := .ref a0_4) (C := RX3) (T := TX3) (N := 14) hx hb hts zi_X3_takeName_3 hown hK hP 0 rfl rfl 4 (by decide) (hts (.fieldLink RX3 15 "WaxTurns$Reade\x72" "names" "[J") (zm_X3_takeName_r1 (List.mem_of_getElem? (i := 2) rfl))) (fun _ h9 => h9) rfl dX3_takeName_70 ?_
                    refine lv_iload_n hx hb dX3_takeName_73 rfl (lv_at hl 1 rfl) ?_
                    refine va_lald hx hb hK hP 1 0 rfl rfl (ai_in bj61l1_l u66f_j61l1 (by decide) (by decide)) dX3_takeName_74 ?_
                    refine lv_topl (fun x74 ex74 => ?_)
                    have fqx74 := congrArg Int64.toInt ex74
                    have hF1 := hF1.trans (fl_lt_eq (show x74.toInt = (fl_L fa0_4) (j61l1.toInt.toNat) from fqx74))
                    refine lv_aload_n hx hb dX3_takeName_75 rfl (lv_at hl 0 rfl) ?_
                    refine va_get (D := (dC, dI)) (ci := 3) (v := .long a0_11) (C := RX3) (T := TX3) (N := 14) hx hb hts zi_X3_takeName_3 hown hK hP 0 rfl rfl 11 (by decide) (hts (.fieldLink RX3 81 "WaxTurns$Reade\x72" "word" "J") (zm_X3_takeName_r1 (List.mem_of_getElem? (i := 3) rfl))) (fun _ h9 => h9) rfl dX3_takeName_76 ?_
                    refine W.lcmp hx hb dX3_takeName_79 ?_
                    refine lv_topi (fun x79 ex79 => ?_)
                    have fqx79 := fl_cmp_eq ex79
                    have hF1 := hF1.trans (fl_lt_eq (show x79.toInt = fl_cmp x74.toInt a0_11.toInt from fqx79))
                    refine lv_if_ne (tgt := 89) hx hb dX3_takeName_80 (by decide) (fun c80 => ?_) (fun c80 => ?_)
                    · have gc80 := ai_ne c80
                      have hF1 := hF1.trans (if_neg (show ¬ (x79.toInt = 0) from  gc80))
                      obtain ⟨x89, ex89⟩ : ∃ y : Int32, y = j61l1 + Int32.ofInt 1 := ⟨_, rfl⟩
                      have qx89 : x89.toInt = j61l1.toInt + 1 := ai_inc ex89 (by decide) (by decide) u66f_j61l1 (by decide)
                      have bx89 : (1 : Int) ≤ x89.toInt ∧ x89.toInt ≤ 12 := ⟨by rw [qx89]; exact Int.add_le_add bj61l1_l (Int.le_refl _), by rw [qx89]; exact Int.add_le_add u66f_j61l1 (Int.le_refl _)⟩
                      refine lv_iinc (v := x89) (lv' := [(1, .int x89), (0, .ref a0)]) hx hb dX3_takeName_89 hl (k := 1) rfl ex89.symm (by decide) rfl (fun ls hl => ?_)
                      have hF1 := hF1.trans (fl_lt_eq (show x89.toInt = j61l1.toInt + 1 from qx89))
                      refine lv_goto (tgt := 61) hx hb dX3_takeName_92 (by decide) ?_
                      exact (hK0 _ _ _).mp (ih61 x89 _ _ _ (by first | exact zg_s hm61 qx89 | (have h0 := qx89; omega)) (Int.le_trans zq4 bx89.1) bx89.2 (hF0.trans (fl_wh_l (hSX61.trans hF1))) hP hD hS (lv_sub hl [1, 0] rfl))
                    · have gc80 := ai_eq c80
                      have u80f_x79 : x79.toInt ≤ (0 : Int) := Int.le_trans (Int.le_of_eq gc80) zq6
                      have l80f_x79 : (0 : Int) ≤ x79.toInt := Int.le_trans zq5 (Int.le_of_eq gc80.symm)
                      have hF1 := hF1.trans (if_pos (show x79.toInt = 0 from gc80))
                      have hF0 := hF0.trans (fl_wh_r (hSX61.trans hF1))
                      refine lv_aload_n hx hb dX3_takeName_83 rfl (lv_at hl 0 rfl) ?_
                      refine lv_iconst (v := 3) hx hb dX3_takeName_84 zk_iconst_3 ?_
                      refine va_calli (va_runV (As := [.int 3]) (rest := []) ⟨hx, hb, hml, hown, hts⟩ (f_X3_fails l dC dI H.size a0 3 a0g_0 (.ref a0_3) (.ref a0_4) a0g_5 (.int a0_6) (.int a0_7) (.int a0_9) (.int a0_10) (.long a0_11) (.int a0_12) a0g_13 a0_1 a0_2 a0_8 ba0_8_l ba0_8_u) (cwV 1 hts gX3_takeName_X3_fails rfl rfl rfl zd_X3_fails ⟨Nat.le_of_ble_eq_true rfl, Nat.le_of_ble_eq_true rfl⟩) ⟨ax_blind (fun _ _ _ _ _ => trivial), zr_3 (zp_K hK) (zp_P1 hP) (q0 := 0) rfl, ax_pre (zp_P1 hP) (zp_K hK) (zp_D1 hD) (fun _ _ => trivial)⟩ rfl rfl hl.1 rfl (lv_room (Nat.le_of_ble_eq_true rfl)) dX3_takeName_85 ⟨Nat.le_of_ble_eq_true rfl, Nat.le_of_ble_eq_true rfl⟩) hS (fun q _ h => zp_F1 hD hS hA q h) (zp_F1 hD hS hA) (fun r85 u t H locs ht hvm hw => zx_2 (fun v85na0_1 v85na0_2 => zy_1 (fun hraw85_0 hB hz1 hk1 hS1 => zo1 hB ht hP hD hk1 (zp_F1 hD hS hA) hS1 (fun hP hK1 hD hS => ?_))))
                      obtain ⟨hw, hfr85⟩ := hw
                      rw [show (3 : Int32).toInt = 3 from by decide] at hfr85 hraw85_0
                      have hc85 : Ff_X3_fails 3 a0_8.toInt = (r85.toInt, v85na0_1.toInt, v85na0_2.toInt) := Prod.ext hfr85.symm hraw85_0
                      have hF0 := hF0.trans (fl_c3_eq hc85)
                      have hw : r85 = 0 := hw
                      have hw := hw.symm
                      subst hw
                      have hFe : FX = (0, v85na0_1.toInt, v85na0_2.toInt, a0_6.toInt, a0_8.toInt, a0_9.toInt, a0_10.toInt, a0_11.toInt, a0_12.toInt, (fl_L fa0_4)) := hF0
                      exact W.zret (v := 0) hx hb hr rfl (fun t ht hW => ⟨⟨0, (), rfl, ⟨(Or.inr (rfl)), (congrArg Prod.fst hFe).symm⟩, v85na0_1, v85na0_2, a0_6, a0_8, a0_9, a0_10, a0_11, a0_12, fa0_4, ⟨Int.le_trans (by decide) l66f_a0_6, ba0_6_u⟩, ⟨ba0_8_l, ba0_8_u⟩, ⟨ba0_9_l, ba0_9_u⟩, ⟨Int.le_trans (by decide) l5f_a0_10, Int.le_trans u5f_a0_10 (by decide)⟩, (congrArg Prod.snd hFe), by rw [ht]; exact hP, va_K.moved hW.alike hK, hD⟩, hS.F ht⟩) hS.2.2 dX3_takeName_88
              exact (hK0 _ _ _).mp (J61 13 0 _ _ _ (by first | decide +kernel | (have h1 : (0 : Int) ≤ (0 : Int32).toInt := zq5; have h2 : (0 : Int32).toInt ≤ (0 : Int) := zq6; omega)) zq5 (Int.le_trans zq6 zq169) (by rw [show (0 : Int32).toInt = 0 from by decide]; exact hF0) hP hD hS (lv_sub hl [1, 0] rfl))
end P311_01_f
section P311_02_f
set_option maxHeartbeats 4000000 in
set_option maxRecDepth 100000 in
theorem f_X3_readHall (l : Launch) (dC : Nat → ClassId) (dI : Nat → Nat → Nat) (sz : Nat) (a0 : Nat) (a0g_0 a0g_4 a0g_6 : Value) (a0_1 : Int32) (a0_2 : Int32) (a0_3 : Nat) (a0_5 : Nat) (a0_7 : Int32) (a0_8 : Int32) (a0_9 : Int32) (a0_10 : Int32) (a0_11 : Int64) (a0_12 : Int32) (a0_13 : Int32) (ka0_3 : ClassId) (fa0_3 : Nat → Int32) (a0_5_0 : Int32) (a0_5_1 : Int32) (a0_5_2 : Int32) (a0_5_3 : Int32) (a0_5g_4 a0_5g_5 a0_5g_6 a0_5g_7 a0_5g_8 a0_5g_9 a0_5g_10 a0_5g_11 a0_5g_12 a0_5g_13 a0_5g_14 : Value) (ad : Nat → Nat) (ba0_7_l : (0 : Int) ≤ a0_7.toInt) (ba0_7_u : a0_7.toInt ≤ (900 : Int)) (ba0_8_l : (0 : Int) ≤ a0_8.toInt) (ba0_8_u : a0_8.toInt ≤ (900 : Int)) (ba0_9_l : (0 : Int) ≤ a0_9.toInt) (ba0_9_u : a0_9.toInt ≤ (900 : Int)) (ba0_10_l : (0 : Int) ≤ a0_10.toInt) (ba0_10_u : a0_10.toInt ≤ (4 : Int)) (ba0_5_0_l : (0 : Int) ≤ a0_5_0.toInt) (ba0_5_0_u : a0_5_0.toInt ≤ (9 : Int)) : zm l yX3_readHall wsX3_readHall ({ frames := 6, cells := 0, slots := 0, locals := 132 }) [.ref a0] dC dI sz [(a0, .inr (3, [a0g_0, .int a0_1, .int a0_2, .ref a0_3, a0g_4, .ref a0_5, a0g_6, .int a0_7, .int a0_8, .int a0_9, .int a0_10, .long a0_11, .int a0_12, .int a0_13])), (a0_3, .inl (ka0_3, 900, .inl (fa0_3))), (a0_5, .inr (0, [.int a0_5_0, .int a0_5_1, .int a0_5_2, .int a0_5_3, a0_5g_4, a0_5g_5, a0_5g_6, a0_5g_7, a0_5g_8, a0_5g_9, a0_5g_10, a0_5g_11, a0_5g_12, a0_5g_13, a0_5g_14]))] [(ka0_3, .byte)] (fun A U => sxc_T ad A U ∧ va_Nw (.methodLinkNest RX3 223 yX7_within RX7) U) (fun A => va_Qi (fun (r : Int32) (_ : Unit) => ((r = 1) ∨ (r = 0)) ∧ r.toInt = (Ff_X3_readHall a0_1.toInt a0_2.toInt a0_7.toInt a0_9.toInt a0_11.toInt a0_12.toInt a0_13.toInt (fl_A fa0_3) a0_5_0.toInt a0_5_1.toInt a0_5_2.toInt a0_5_3.toInt).1) (fun (_ : Unit) (t : State) => ∃ na0_1 : Int32, ∃ na0_2 : Int32, ∃ na0_8 : Int32, ∃ na0_9 : Int32, ∃ na0_10 : Int32, ∃ na0_11 : Int64, ∃ na0_12 : Int32, ∃ na0_13 : Int32, ∃ na0_5_0 : Int32, ∃ na0_5_1 : Int32, ∃ na0_5_2 : Int32, ∃ na0_5_3 : Int32, ((0 : Int) ≤ na0_8.toInt ∧ na0_8.toInt ≤ 900) ∧ ((0 : Int) ≤ na0_9.toInt ∧ na0_9.toInt ≤ 900) ∧ ((0 : Int) ≤ na0_10.toInt ∧ na0_10.toInt ≤ 4) ∧ ((0 : Int) ≤ na0_5_0.toInt ∧ na0_5_0.toInt ≤ 9) ∧ ((Ff_X3_readHall a0_1.toInt a0_2.toInt a0_7.toInt a0_9.toInt a0_11.toInt a0_12.toInt a0_13.toInt (fl_A fa0_3) a0_5_0.toInt a0_5_1.toInt a0_5_2.toInt a0_5_3.toInt).2 = (na0_1.toInt, na0_2.toInt, na0_8.toInt, na0_9.toInt, na0_10.toInt, na0_11.toInt, na0_12.toInt, na0_13.toInt, na0_5_0.toInt, na0_5_1.toInt, na0_5_2.toInt, na0_5_3.toInt)) ∧ ax_B dC dI A [(a0, .inr (3, [a0g_0, .int na0_1, .int na0_2, .ref a0_3, a0g_4, .ref a0_5, a0g_6, .int a0_7, .int na0_8, .int na0_9, .int na0_10, .long na0_11, .int na0_12, .int na0_13])), (a0_3, .inl (ka0_3, 900, .inl (fa0_3))), (a0_5, .inr (0, [.int na0_5_0, .int na0_5_1, .int na0_5_2, .int na0_5_3, a0_5g_4, a0_5g_5, a0_5g_6, a0_5g_7, a0_5g_8, a0_5g_9, a0_5g_10, a0_5g_11, a0_5g_12, a0_5g_13, a0_5g_14]))] [(ka0_3, .byte)] t) A) := by
  refine zh (cc := cX3_readHall) (maxL := 2) (ret := (some .boolean)) zn_RX3 rfl (Nat.le_of_ble_eq_true rfl) (fun p e s m below meth c A ls hx hb hml hr hts (hown : s.vm.findClass RX3 = some m.cls) hlocks hA hS hP hK hD hE (hl : lv_has ls 2 [(0, .ref a0)]) => ?_)
  obtain ⟨hE0, hE1⟩ := hE
  generalize hFX : Ff_X3_readHall a0_1.toInt a0_2.toInt a0_7.toInt a0_9.toInt a0_11.toInt a0_12.toInt a0_13.toInt (fl_A fa0_3) a0_5_0.toInt a0_5_1.toInt a0_5_2.toInt a0_5_3.toInt = FX at ⊢
  have hF0 := hFX.symm.trans (Ff_X3_readHall.eq_1 a0_1.toInt a0_2.toInt a0_7.toInt a0_9.toInt a0_11.toInt a0_12.toInt a0_13.toInt (fl_A fa0_3) a0_5_0.toInt a0_5_1.toInt a0_5_2.toInt a0_5_3.toInt)
  refine lv_aload_n hx hb dX3_readHall_0 rfl (lv_at hl 0 rfl) ?_
  have hKc := hK.sub (tys' := [(ka0_3, .byte)]) [0] rfl
  refine va_callv (va_runV (As := []) (rest := []) ⟨hx, hb, hml, hown, hts⟩ (f_X3_advance l dC dI s.heap.size a0 a0g_0 (.int a0_1) (.int a0_2) a0g_4 (.ref a0_5) a0g_6 (.int a0_13) a0_3 a0_7 a0_8 a0_9 a0_10 a0_11 a0_12 ka0_3 fa0_3 ba0_7_l ba0_7_u ba0_8_l ba0_8_u ba0_9_l ba0_9_u ba0_10_l ba0_10_u) (cwV 0 hts gX3_readHall_X3_advance rfl rfl rfl zd_X3_advance ⟨Nat.le_of_ble_eq_true rfl, Nat.le_of_ble_eq_true rfl⟩) ⟨ax_blind (fun _ _ _ _ _ => trivial), zr_3 hKc (zp_P2 hP) (q0 := 0) rfl, ax_pre (zp_P2 hP) hKc (zp_D2 hD) (fun _ _ => trivial)⟩ rfl rfl hl.1 rfl (lv_room (Nat.le_of_ble_eq_true rfl)) dX3_readHall_1 ⟨Nat.le_of_ble_eq_true rfl, Nat.le_of_ble_eq_true rfl⟩) hS (fun q _ h => zp_F2 hD hS hA q h) (zp_F2 hD hS hA) (fun u t H locs ht hvm hw => zx_5 (fun v1na0_8 v1na0_9 v1na0_10 v1na0_11 v1na0_12 => zy_4 (fun bv1na0_8 bv1na0_9 bv1na0_10 hraw1_0 hB hz1 hk1 hS1 => zo2 hB ht hP hD hk1 (zp_F2 hD hS hA) hS1 (fun hP hK1 hD hS => ?_))))
  have hc1 : Ff_X3_advance a0_7.toInt a0_9.toInt a0_11.toInt a0_12.toInt (fl_A fa0_3) = (v1na0_8.toInt, v1na0_9.toInt, v1na0_10.toInt, v1na0_11.toInt, v1na0_12.toInt) := hraw1_0
  have hF0 := hF0.trans (fl_c5_eq hc1)
  refine lv_aload_n hx hb dX3_readHall_4 rfl (lv_at hl 0 rfl) ?_
  refine va_ldcS hx hb hown (sxc_R5 hE0) dX3_readHall_5 ?_
  refine lv_iconst (v := 2) hx hb dX3_readHall_7 zk_iconst_2 ?_
  refine lv_bipush (v := 9) hx hb dX3_readHall_8 zk_bipush_9 ?_
  have hKc := hK.sub (tys' := [(ka0_3, .byte)]) [0] rfl
  refine va_calli (va_runV (As := [.ref (ad 5), .int 2, .int 9]) (rest := []) ⟨hx, hb, hml, hown, hts⟩ (f_X3_takeWhole l dC dI H.size a0 (ad 5) 2 9 a0g_0 a0g_4 (.ref a0_5) a0g_6 a0_1 a0_2 a0_3 a0_7 v1na0_8 v1na0_9 v1na0_10 v1na0_11 v1na0_12 a0_13 ka0_3 fa0_3 7 (sxc 5) ba0_7_l ba0_7_u bv1na0_8.1 bv1na0_8.2 bv1na0_9.1 bv1na0_9.2 bv1na0_10.1 bv1na0_10.2) (cwV 3 hts gX3_readHall_X3_takeWhole rfl rfl rfl zd_X3_takeWhole ⟨Nat.le_of_ble_eq_true rfl, Nat.le_of_ble_eq_true rfl⟩) ⟨ax_blind (fun _ _ _ _ hq => ⟨sxc_W_same _ _ _ _ (hq.1), va_Nw.same rfl rfl (hq.2)⟩), zr_3 hKc (zp_P2 hP) (q0 := 0) rfl, ax_preE (zp_P2 hP) hKc (zp_D2 hD) (fun U hU hW => ⟨sxc_W_to (sxc_T_w hE0 (i := 5) (by decide)) hS.2.1 (zp_F2 hD hS hA) hU hW, va_Nw.warmM hW hE1⟩)⟩ rfl rfl hl.1 rfl (lv_room (Nat.le_of_ble_eq_true rfl)) dX3_readHall_10 ⟨Nat.le_of_ble_eq_true rfl, Nat.le_of_ble_eq_true rfl⟩) hS (fun q _ h => zp_F2 hD hS hA q h) (zp_F2 hD hS hA) (fun r10 v10na0_13 t H1 locs ht hvm hw => zx_7 (fun v10na0_1 v10na0_2 v10na0_8 v10na0_9 v10na0_10 v10na0_11 v10na0_12 => zy_4 (fun bv10na0_8 bv10na0_9 bv10na0_10 hraw10_0 hB hz1 hk1 hS1 => zo2 hB ht hP hD hk1 (zp_F2 hD hS hA) hS1 (fun hP hK1 hD hS => ?_))))
  generalize H1 = H at hP hS ⊢
  obtain ⟨hw, hfr10⟩ := hw
  rw [show (2 : Int32).toInt = 2 from by decide, show (9 : Int32).toInt = 9 from by decide, show ((7 : Nat) : Int) = 7 from rfl] at hfr10 hraw10_0
  have hc10 : Ff_X3_takeWhole 2 9 a0_1.toInt a0_2.toInt a0_7.toInt v1na0_8.toInt v1na0_9.toInt v1na0_10.toInt v1na0_11.toInt v1na0_12.toInt a0_13.toInt (fl_A fa0_3) 7 (fl_A (sxc 5)) = (r10.toInt, v10na0_1.toInt, v10na0_2.toInt, v10na0_8.toInt, v10na0_9.toInt, v10na0_10.toInt, v10na0_11.toInt, v10na0_12.toInt, v10na0_13.toInt) := Prod.ext hfr10.symm hraw10_0
  have hF0 := hF0.trans (fl_c9_eq hc10)
  rcases hw with hw | hw
  · obtain ⟨hw, h10⟩ := hw
    subst hw
    have l10k0_v10na0_13 : (2 : Int) ≤ v10na0_13.toInt := Int.le_trans zq12 h10.1
    have u10k0_v10na0_13 : v10na0_13.toInt ≤ (9 : Int) := Int.le_trans h10.2 zq3
    have hF0 := hF0.trans (if_pos (by decide))
    refine lv_if_ne (tgt := 18) hx hb dX3_readHall_13 (by decide) (fun _ => ?_) (fun c13 => absurd c13 (by decide +kernel))
    refine lv_aload_n hx hb dX3_readHall_18 rfl (lv_at hl 0 rfl) ?_
    refine va_get (D := (dC, dI)) (ci := 3) (v := .int v10na0_13) (C := RX3) (T := TX3) (N := 14) hx hb hts zi_X3_readHall_3 hown hK hP 0 rfl rfl 13 (by decide) (hts (.fieldLink RX3 156 "WaxTurns$Reade\x72" "taken" "I") (zm_X3_readHall_r1 (List.mem_of_getElem? (i := 0) rfl))) (fun _ h9 => h9) rfl dX3_readHall_19 ?_
    refine lv_istore_n (lv' := [(1, .int v10na0_13), (0, .ref a0)]) hx hb dX3_readHall_22 rfl hl (by decide) rfl (fun ls hl => ?_)
    refine lv_aload_n hx hb dX3_readHall_23 rfl (lv_at hl 1 rfl) ?_
    refine va_ldcS hx hb hown (sxc_R6 hE0) dX3_readHall_24 ?_
    refine lv_iconst (v := 1) hx hb dX3_readHall_26 zk_iconst_1 ?_
    refine lv_bipush (v := 20) hx hb dX3_readHall_27 zk_bipush_20 ?_
    have hKc := hK.sub (tys' := [(ka0_3, .byte)]) [0] rfl
    refine va_calli (va_runV (As := [.ref (ad 6), .int 1, .int 20]) (rest := []) ⟨hx, hb, hml, hown, hts⟩ (f_X3_takeWhole l dC dI H.size a0 (ad 6) 1 20 a0g_0 a0g_4 (.ref a0_5) a0g_6 v10na0_1 v10na0_2 a0_3 a0_7 v10na0_8 v10na0_9 v10na0_10 v10na0_11 v10na0_12 v10na0_13 ka0_3 fa0_3 4 (sxc 6) ba0_7_l ba0_7_u bv10na0_8.1 bv10na0_8.2 bv10na0_9.1 bv10na0_9.2 bv10na0_10.1 bv10na0_10.2) (cwV 3 hts gX3_readHall_X3_takeWhole rfl rfl rfl zd_X3_takeWhole ⟨Nat.le_of_ble_eq_true rfl, Nat.le_of_ble_eq_true rfl⟩) ⟨ax_blind (fun _ _ _ _ hq => ⟨sxc_W_same _ _ _ _ (hq.1), va_Nw.same rfl rfl (hq.2)⟩), zr_3 hKc (zp_P2 hP) (q0 := 0) rfl, ax_preE (zp_P2 hP) hKc (zp_D2 hD) (fun U hU hW => ⟨sxc_W_to (sxc_T_w hE0 (i := 6) (by decide)) hS.2.1 (zp_F2 hD hS hA) hU hW, va_Nw.warmM hW hE1⟩)⟩ rfl rfl hl.1 rfl (lv_room (Nat.le_of_ble_eq_true rfl)) dX3_readHall_29 ⟨Nat.le_of_ble_eq_true rfl, Nat.le_of_ble_eq_true rfl⟩) hS (fun q _ h => zp_F2 hD hS hA q h) (zp_F2 hD hS hA) (fun r29 v29na0_13 t H1 locs ht hvm hw => zx_7 (fun v29na0_1 v29na0_2 v29na0_8 v29na0_9 v29na0_10 v29na0_11 v29na0_12 => zy_4 (fun bv29na0_8 bv29na0_9 bv29na0_10 hraw29_0 hB hz1 hk1 hS1 => zo2 hB ht hP hD hk1 (zp_F2 hD hS hA) hS1 (fun hP hK1 hD hS => ?_))))
    generalize H1 = H at hP hS ⊢
    obtain ⟨hw, hfr29⟩ := hw
    rw [show (1 : Int32).toInt = 1 from by decide, show (20 : Int32).toInt = 20 from by decide, show ((4 : Nat) : Int) = 4 from rfl] at hfr29 hraw29_0
    have hc29 : Ff_X3_takeWhole 1 20 v10na0_1.toInt v10na0_2.toInt a0_7.toInt v10na0_8.toInt v10na0_9.toInt v10na0_10.toInt v10na0_11.toInt v10na0_12.toInt v10na0_13.toInt (fl_A fa0_3) 4 (fl_A (sxc 6)) = (r29.toInt, v29na0_1.toInt, v29na0_2.toInt, v29na0_8.toInt, v29na0_9.toInt, v29na0_10.toInt, v29na0_11.toInt, v29na0_12.toInt, v29na0_13.toInt) := Prod.ext hfr29.symm hraw29_0
    have hF0 := hF0.trans (fl_c9_eq hc29)
    rcases hw with hw | hw
    · obtain ⟨hw, h29⟩ := hw
      subst hw
      have l29k0_v29na0_13 : (1 : Int) ≤ v29na0_13.toInt := Int.le_trans zq1 h29.1
      have u29k0_v29na0_13 : v29na0_13.toInt ≤ (20 : Int) := Int.le_trans h29.2 zq154
      have hF0 := hF0.trans (if_pos (by decide))
      refine lv_if_ne (tgt := 37) hx hb dX3_readHall_32 (by decide) (fun _ => ?_) (fun c32 => absurd c32 (by decide +kernel))
      refine lv_aload_n hx hb dX3_readHall_37 rfl (lv_at hl 1 rfl) ?_
      refine va_get (D := (dC, dI)) (ci := 3) (v := .ref a0_5) (C := RX3) (T := TX3) (N := 14) hx hb hts zi_X3_readHall_3 hown hK hP 0 rfl rfl 5 (by decide) (hts (.fieldLink RX3 22 "WaxTurns$Reade\x72" "draft" "LWaxTurns$Hall;") (zm_X3_readHall_r1 (List.mem_of_getElem? (i := 1) rfl))) (fun _ h9 => h9) rfl dX3_readHall_38 ?_
      refine lv_aload_n hx hb dX3_readHall_41 rfl (lv_at hl 1 rfl) ?_
      refine va_get (D := (dC, dI)) (ci := 3) (v := .int v29na0_13) (C := RX3) (T := TX3) (N := 14) hx hb hts zi_X3_readHall_3 hown hK hP 0 rfl rfl 13 (by decide) (hts (.fieldLink RX3 156 "WaxTurns$Reade\x72" "taken" "I") (zm_X3_readHall_r1 (List.mem_of_getElem? (i := 0) rfl))) (fun _ h9 => h9) rfl dX3_readHall_42 ?_
      refine va_put (D := (dC, dI)) (ci := 0) (v := .int v29na0_13) (ty := .int) (C := RX0) (T := TX0) (N := 15) hx hb hts zi_X3_readHall_0 tyX0 tyX0_ok nmX0 hown hK hP hD hS 2 rfl rfl 1 (by decide) (hts (.fieldLink RX3 161 "WaxTurns$Hall" "span" "I") (zm_X3_readHall_r1 (List.mem_of_getElem? (i := 2) rfl))) (fun _ h9 => h9) rfl (tyX0_ok 1 (by decide)) rfl rfl (Nat.le_of_ble_eq_true rfl) dX3_readHall_45 (fun H locs hP hD hS => ?_)
      refine zs_2 (y := (a0_5, .inr (0, [.int a0_5_0, .int v29na0_13, .int a0_5_2, .int a0_5_3, a0_5g_4, a0_5g_5, a0_5g_6, a0_5g_7, a0_5g_8, a0_5g_9, a0_5g_10, a0_5g_11, a0_5g_12, a0_5g_13, a0_5g_14]))) hP hD rfl (fun hP hD => ?_)
      refine lv_aload_n hx hb dX3_readHall_48 rfl (lv_at hl 1 rfl) ?_
      refine va_ldcS hx hb hown (sxc_R7 hE0) dX3_readHall_49 ?_
      refine lv_iconst (v := 0) hx hb dX3_readHall_51 zk_iconst_0 ?_
      refine lv_iload_n hx hb dX3_readHall_52 rfl (lv_at hl 0 rfl) ?_
      refine lv_iconst (v := 1) hx hb dX3_readHall_53 zk_iconst_1 ?_
      refine lv_isub hx hb dX3_readHall_54 ?_
      refine lv_topi (fun x54 ex54 => ?_)
      have qx54 : x54.toInt = v10na0_13.toInt - (1 : Int32).toInt := ai_sub ex54 ⟨l10k0_v10na0_13, u10k0_v10na0_13⟩ ⟨zq1, zq0⟩ (by decide) (by decide)
      have bx54 : (1 : Int) ≤ x54.toInt ∧ x54.toInt ≤ 8 := ⟨by rw [qx54]; exact Int.sub_le_sub l10k0_v10na0_13 zq0, by rw [qx54]; exact Int.sub_le_sub u10k0_v10na0_13 zq1⟩
      have wx54 : x54.toInt = v10na0_13.toInt - 1 := qx54
      have hF0 := hF0.trans (fl_lt_eq (show x54.toInt = v10na0_13.toInt - 1 from qx54))
      have hKc := hK.sub (tys' := [(ka0_3, .byte)]) [0] rfl
      refine va_calli (va_runV (As := [.ref (ad 7), .int 0, .int x54]) (rest := []) ⟨hx, hb, hml, hown, hts⟩ (f_X3_takeWhole l dC dI H.size a0 (ad 7) 0 x54 a0g_0 a0g_4 (.ref a0_5) a0g_6 v29na0_1 v29na0_2 a0_3 a0_7 v29na0_8 v29na0_9 v29na0_10 v29na0_11 v29na0_12 v29na0_13 ka0_3 fa0_3 6 (sxc 7) ba0_7_l ba0_7_u bv29na0_8.1 bv29na0_8.2 bv29na0_9.1 bv29na0_9.2 bv29na0_10.1 bv29na0_10.2) (cwV 3 hts gX3_readHall_X3_takeWhole rfl rfl rfl zd_X3_takeWhole ⟨Nat.le_of_ble_eq_true rfl, Nat.le_of_ble_eq_true rfl⟩) ⟨ax_blind (fun _ _ _ _ hq => ⟨sxc_W_same _ _ _ _ (hq.1), va_Nw.same rfl rfl (hq.2)⟩), zr_3 hKc (zp_P2 hP) (q0 := 0) rfl, ax_preE (zp_P2 hP) hKc (zp_D2 hD) (fun U hU hW => ⟨sxc_W_to (sxc_T_w hE0 (i := 7) (by decide)) hS.2.1 (zp_F2 hD hS hA) hU hW, va_Nw.warmM hW hE1⟩)⟩ rfl rfl hl.1 rfl (lv_room (Nat.le_of_ble_eq_true rfl)) dX3_readHall_55 ⟨Nat.le_of_ble_eq_true rfl, Nat.le_of_ble_eq_true rfl⟩) hS (fun q _ h => zp_F2 hD hS hA q h) (zp_F2 hD hS hA) (fun r55 v55na0_13 t H1 locs ht hvm hw => zx_7 (fun v55na0_1 v55na0_2 v55na0_8 v55na0_9 v55na0_10 v55na0_11 v55na0_12 => zy_4 (fun bv55na0_8 bv55na0_9 bv55na0_10 hraw55_0 hB hz1 hk1 hS1 => zo2 hB ht hP hD hk1 (zp_F2 hD hS hA) hS1 (fun hP hK1 hD hS => ?_))))
      generalize H1 = H at hP hS ⊢
      obtain ⟨hw, hfr55⟩ := hw
      rw [show (0 : Int32).toInt = 0 from by decide, show ((6 : Nat) : Int) = 6 from rfl] at hfr55 hraw55_0
      have hc55 : Ff_X3_takeWhole 0 x54.toInt v29na0_1.toInt v29na0_2.toInt a0_7.toInt v29na0_8.toInt v29na0_9.toInt v29na0_10.toInt v29na0_11.toInt v29na0_12.toInt v29na0_13.toInt (fl_A fa0_3) 6 (fl_A (sxc 7)) = (r55.toInt, v55na0_1.toInt, v55na0_2.toInt, v55na0_8.toInt, v55na0_9.toInt, v55na0_10.toInt, v55na0_11.toInt, v55na0_12.toInt, v55na0_13.toInt) := Prod.ext hfr55.symm hraw55_0
      have hF0 := hF0.trans (fl_c9_eq hc55)
      rcases hw with hw | hw
      · obtain ⟨hw, h55⟩ := hw
        subst hw
        have l55k0_v55na0_13 : (0 : Int) ≤ v55na0_13.toInt := Int.le_trans zq5 h55.1
        have u55k0_v55na0_13 : v55na0_13.toInt ≤ (8 : Int) := Int.le_trans h55.2 bx54.2
        have hF0 := hF0.trans (if_pos (by decide))
        refine lv_if_ne (tgt := 63) hx hb dX3_readHall_58 (by decide) (fun _ => ?_) (fun c58 => absurd c58 (by decide +kernel))
        refine lv_aload_n hx hb dX3_readHall_63 rfl (lv_at hl 1 rfl) ?_
        refine va_get (D := (dC, dI)) (ci := 3) (v := .ref a0_5) (C := RX3) (T := TX3) (N := 14) hx hb hts zi_X3_readHall_3 hown hK hP 0 rfl rfl 5 (by decide) (hts (.fieldLink RX3 22 "WaxTurns$Reade\x72" "draft" "LWaxTurns$Hall;") (zm_X3_readHall_r1 (List.mem_of_getElem? (i := 1) rfl))) (fun _ h9 => h9) rfl dX3_readHall_64 ?_
        refine lv_aload_n hx hb dX3_readHall_67 rfl (lv_at hl 1 rfl) ?_
        refine va_get (D := (dC, dI)) (ci := 3) (v := .int v55na0_13) (C := RX3) (T := TX3) (N := 14) hx hb hts zi_X3_readHall_3 hown hK hP 0 rfl rfl 13 (by decide) (hts (.fieldLink RX3 156 "WaxTurns$Reade\x72" "taken" "I") (zm_X3_readHall_r1 (List.mem_of_getElem? (i := 0) rfl))) (fun _ h9 => h9) rfl dX3_readHall_68 ?_
        refine va_put (D := (dC, dI)) (ci := 0) (v := .int v55na0_13) (ty := .int) (C := RX0) (T := TX0) (N := 15) hx hb hts zi_X3_readHall_0 tyX0 tyX0_ok nmX0 hown hK hP hD hS 2 rfl rfl 2 (by decide) (hts (.fieldLink RX3 165 "WaxTurns$Hall" "stairsPlace" "I") (zm_X3_readHall_r1 (List.mem_of_getElem? (i := 3) rfl))) (fun _ h9 => h9) rfl (tyX0_ok 2 (by decide)) rfl rfl (Nat.le_of_ble_eq_true rfl) dX3_readHall_71 (fun H locs hP hD hS => ?_)
        refine zs_2 (y := (a0_5, .inr (0, [.int a0_5_0, .int v29na0_13, .int v55na0_13, .int a0_5_3, a0_5g_4, a0_5g_5, a0_5g_6, a0_5g_7, a0_5g_8, a0_5g_9, a0_5g_10, a0_5g_11, a0_5g_12, a0_5g_13, a0_5g_14]))) hP hD rfl (fun hP hD => ?_)
        refine lv_aload_n hx hb dX3_readHall_74 rfl (lv_at hl 1 rfl) ?_
        refine va_ldcS hx hb hown (sxc_R8 hE0) dX3_readHall_75 ?_
        refine lv_iconst (v := 0) hx hb dX3_readHall_77 zk_iconst_0 ?_
        refine lv_bipush (v := 100) hx hb dX3_readHall_78 zk_bipush_100 ?_
        have hKc := hK.sub (tys' := [(ka0_3, .byte)]) [0] rfl
        refine va_calli (va_runV (As := [.ref (ad 8), .int 0, .int 100]) (rest := []) ⟨hx, hb, hml, hown, hts⟩ (f_X3_takeWhole l dC dI H.size a0 (ad 8) 0 100 a0g_0 a0g_4 (.ref a0_5) a0g_6 v55na0_1 v55na0_2 a0_3 a0_7 v55na0_8 v55na0_9 v55na0_10 v55na0_11 v55na0_12 v55na0_13 ka0_3 fa0_3 4 (sxc 8) ba0_7_l ba0_7_u bv55na0_8.1 bv55na0_8.2 bv55na0_9.1 bv55na0_9.2 bv55na0_10.1 bv55na0_10.2) (cwV 3 hts gX3_readHall_X3_takeWhole rfl rfl rfl zd_X3_takeWhole ⟨Nat.le_of_ble_eq_true rfl, Nat.le_of_ble_eq_true rfl⟩) ⟨ax_blind (fun _ _ _ _ hq => ⟨sxc_W_same _ _ _ _ (hq.1), va_Nw.same rfl rfl (hq.2)⟩), zr_3 hKc (zp_P2 hP) (q0 := 0) rfl, ax_preE (zp_P2 hP) hKc (zp_D2 hD) (fun U hU hW => ⟨sxc_W_to (sxc_T_w hE0 (i := 8) (by decide)) hS.2.1 (zp_F2 hD hS hA) hU hW, va_Nw.warmM hW hE1⟩)⟩ rfl rfl hl.1 rfl (lv_room (Nat.le_of_ble_eq_true rfl)) dX3_readHall_80 ⟨Nat.le_of_ble_eq_true rfl, Nat.le_of_ble_eq_true rfl⟩) hS (fun q _ h => zp_F2 hD hS hA q h) (zp_F2 hD hS hA) (fun r80 v80na0_13 t H1 locs ht hvm hw => zx_7 (fun v80na0_1 v80na0_2 v80na0_8 v80na0_9 v80na0_10 v80na0_11 v80na0_12 => zy_4 (fun bv80na0_8 bv80na0_9 bv80na0_10 hraw80_0 hB hz1 hk1 hS1 => zo2 hB ht hP hD hk1 (zp_F2 hD hS hA) hS1 (fun hP hK1 hD hS => ?_))))
        generalize H1 = H at hP hS ⊢
        obtain ⟨hw, hfr80⟩ := hw
        rw [show (0 : Int32).toInt = 0 from by decide, show (100 : Int32).toInt = 100 from by decide, show ((4 : Nat) : Int) = 4 from rfl] at hfr80 hraw80_0
        have hc80 : Ff_X3_takeWhole 0 100 v55na0_1.toInt v55na0_2.toInt a0_7.toInt v55na0_8.toInt v55na0_9.toInt v55na0_10.toInt v55na0_11.toInt v55na0_12.toInt v55na0_13.toInt (fl_A fa0_3) 4 (fl_A (sxc 8)) = (r80.toInt, v80na0_1.toInt, v80na0_2.toInt, v80na0_8.toInt, v80na0_9.toInt, v80na0_10.toInt, v80na0_11.toInt, v80na0_12.toInt, v80na0_13.toInt) := Prod.ext hfr80.symm hraw80_0
        have hF0 := hF0.trans (fl_c9_eq hc80)
        rcases hw with hw | hw
        · obtain ⟨hw, h80⟩ := hw
          subst hw
          have l80k0_v80na0_13 : (0 : Int) ≤ v80na0_13.toInt := Int.le_trans zq5 h80.1
          have u80k0_v80na0_13 : v80na0_13.toInt ≤ (100 : Int) := Int.le_trans h80.2 zq32
          have hF0 := hF0.trans (if_pos (by decide))
          refine lv_if_ne (tgt := 88) hx hb dX3_readHall_83 (by decide) (fun _ => ?_) (fun c83 => absurd c83 (by decide +kernel))
          refine lv_aload_n hx hb dX3_readHall_88 rfl (lv_at hl 1 rfl) ?_
          refine va_get (D := (dC, dI)) (ci := 3) (v := .ref a0_5) (C := RX3) (T := TX3) (N := 14) hx hb hts zi_X3_readHall_3 hown hK hP 0 rfl rfl 5 (by decide) (hts (.fieldLink RX3 22 "WaxTurns$Reade\x72" "draft" "LWaxTurns$Hall;") (zm_X3_readHall_r1 (List.mem_of_getElem? (i := 1) rfl))) (fun _ h9 => h9) rfl dX3_readHall_89 ?_
          refine lv_aload_n hx hb dX3_readHall_92 rfl (lv_at hl 1 rfl) ?_
          refine va_get (D := (dC, dI)) (ci := 3) (v := .int v80na0_13) (C := RX3) (T := TX3) (N := 14) hx hb hts zi_X3_readHall_3 hown hK hP 0 rfl rfl 13 (by decide) (hts (.fieldLink RX3 156 "WaxTurns$Reade\x72" "taken" "I") (zm_X3_readHall_r1 (List.mem_of_getElem? (i := 0) rfl))) (fun _ h9 => h9) rfl dX3_readHall_93 ?_
          refine va_put (D := (dC, dI)) (ci := 0) (v := .int v80na0_13) (ty := .int) (C := RX0) (T := TX0) (N := 15) hx hb hts zi_X3_readHall_0 tyX0 tyX0_ok nmX0 hown hK hP hD hS 2 rfl rfl 3 (by decide) (hts (.fieldLink RX3 170 "WaxTurns$Hall" "shut" "I") (zm_X3_readHall_r1 (List.mem_of_getElem? (i := 4) rfl))) (fun _ h9 => h9) rfl (tyX0_ok 3 (by decide)) rfl rfl (Nat.le_of_ble_eq_true rfl) dX3_readHall_96 (fun H locs hP hD hS => ?_)
          refine zs_2 (y := (a0_5, .inr (0, [.int a0_5_0, .int v29na0_13, .int v55na0_13, .int v80na0_13, a0_5g_4, a0_5g_5, a0_5g_6, a0_5g_7, a0_5g_8, a0_5g_9, a0_5g_10, a0_5g_11, a0_5g_12, a0_5g_13, a0_5g_14]))) hP hD rfl (fun hP hD => ?_)
          refine lv_aload_n hx hb dX3_readHall_99 rfl (lv_at hl 1 rfl) ?_
          refine va_get (D := (dC, dI)) (ci := 3) (v := .ref a0_5) (C := RX3) (T := TX3) (N := 14) hx hb hts zi_X3_readHall_3 hown hK hP 0 rfl rfl 5 (by decide) (hts (.fieldLink RX3 22 "WaxTurns$Reade\x72" "draft" "LWaxTurns$Hall;") (zm_X3_readHall_r1 (List.mem_of_getElem? (i := 1) rfl))) (fun _ h9 => h9) rfl dX3_readHall_100 ?_
          refine lv_iload_n hx hb dX3_readHall_103 rfl (lv_at hl 0 rfl) ?_
          refine va_put (D := (dC, dI)) (ci := 0) (v := .int v10na0_13) (ty := .int) (C := RX0) (T := TX0) (N := 15) hx hb hts zi_X3_readHall_0 tyX0 tyX0_ok nmX0 hown hK hP hD hS 2 rfl rfl 0 (by decide) (hts (.fieldLink RX3 104 "WaxTurns$Hall" "figures" "I") (zm_X3_readHall_r1 (List.mem_of_getElem? (i := 5) rfl))) (fun _ h9 => h9) rfl (tyX0_ok 0 (by decide)) rfl rfl (Nat.le_of_ble_eq_true rfl) dX3_readHall_104 (fun H locs hP hD hS => ?_)
          refine zs_2 (y := (a0_5, .inr (0, [.int v10na0_13, .int v29na0_13, .int v55na0_13, .int v80na0_13, a0_5g_4, a0_5g_5, a0_5g_6, a0_5g_7, a0_5g_8, a0_5g_9, a0_5g_10, a0_5g_11, a0_5g_12, a0_5g_13, a0_5g_14]))) hP hD rfl (fun hP hD => ?_)
          refine lv_iconst (v := 1) hx hb dX3_readHall_107 zk_iconst_1 ?_
          have hFe : FX = (1, v80na0_1.toInt, v80na0_2.toInt, v80na0_8.toInt, v80na0_9.toInt, v80na0_10.toInt, v80na0_11.toInt, v80na0_12.toInt, v80na0_13.toInt, v10na0_13.toInt, v29na0_13.toInt, v55na0_13.toInt, v80na0_13.toInt) := hF0
          exact W.zret (v := 1) hx hb hr rfl (fun t ht hW => ⟨⟨1, (), rfl, ⟨(Or.inl (rfl)), (congrArg Prod.fst hFe).symm⟩, v80na0_1, v80na0_2, v80na0_8, v80na0_9, v80na0_10, v80na0_11, v80na0_12, v80na0_13, v10na0_13, v29na0_13, v55na0_13, v80na0_13, ⟨bv80na0_8.1, bv80na0_8.2⟩, ⟨bv80na0_9.1, bv80na0_9.2⟩, ⟨bv80na0_10.1, bv80na0_10.2⟩, ⟨Int.le_trans (by decide) l10k0_v10na0_13, u10k0_v10na0_13⟩, (congrArg Prod.snd hFe), by rw [ht]; exact hP, va_K.moved hW.alike hK, hD⟩, hS.F ht⟩) hS.2.2 dX3_readHall_108
        · subst hw
          have hF0 := hF0.trans (if_neg (by decide))
          refine lv_if_ne (tgt := 88) hx hb dX3_readHall_83 (by decide) (fun c83 => absurd (by decide +kernel) c83) (fun _ => ?_)
          refine lv_iconst (v := 0) hx hb dX3_readHall_86 zk_iconst_0 ?_
          have hFe : FX = (0, v80na0_1.toInt, v80na0_2.toInt, v80na0_8.toInt, v80na0_9.toInt, v80na0_10.toInt, v80na0_11.toInt, v80na0_12.toInt, v80na0_13.toInt, a0_5_0.toInt, v29na0_13.toInt, v55na0_13.toInt, a0_5_3.toInt) := hF0
          exact W.zret (v := 0) hx hb hr rfl (fun t ht hW => ⟨⟨0, (), rfl, ⟨(Or.inr (rfl)), (congrArg Prod.fst hFe).symm⟩, v80na0_1, v80na0_2, v80na0_8, v80na0_9, v80na0_10, v80na0_11, v80na0_12, v80na0_13, a0_5_0, v29na0_13, v55na0_13, a0_5_3, ⟨bv80na0_8.1, bv80na0_8.2⟩, ⟨bv80na0_9.1, bv80na0_9.2⟩, ⟨bv80na0_10.1, bv80na0_10.2⟩, ⟨ba0_5_0_l, ba0_5_0_u⟩, (congrArg Prod.snd hFe), by rw [ht]; exact hP, va_K.moved hW.alike hK, hD⟩, hS.F ht⟩) hS.2.2 dX3_readHall_87
      · subst hw
        have hF0 := hF0.trans (if_neg (by decide))
        refine lv_if_ne (tgt := 63) hx hb dX3_readHall_58 (by decide) (fun c58 => absurd (by decide +kernel) c58) (fun _ => ?_)
        refine lv_iconst (v := 0) hx hb dX3_readHall_61 zk_iconst_0 ?_
        have hFe : FX = (0, v55na0_1.toInt, v55na0_2.toInt, v55na0_8.toInt, v55na0_9.toInt, v55na0_10.toInt, v55na0_11.toInt, v55na0_12.toInt, v55na0_13.toInt, a0_5_0.toInt, v29na0_13.toInt, a0_5_2.toInt, a0_5_3.toInt) := hF0
        exact W.zret (v := 0) hx hb hr rfl (fun t ht hW => ⟨⟨0, (), rfl, ⟨(Or.inr (rfl)), (congrArg Prod.fst hFe).symm⟩, v55na0_1, v55na0_2, v55na0_8, v55na0_9, v55na0_10, v55na0_11, v55na0_12, v55na0_13, a0_5_0, v29na0_13, a0_5_2, a0_5_3, ⟨bv55na0_8.1, bv55na0_8.2⟩, ⟨bv55na0_9.1, bv55na0_9.2⟩, ⟨bv55na0_10.1, bv55na0_10.2⟩, ⟨ba0_5_0_l, ba0_5_0_u⟩, (congrArg Prod.snd hFe), by rw [ht]; exact hP, va_K.moved hW.alike hK, hD⟩, hS.F ht⟩) hS.2.2 dX3_readHall_62
    · subst hw
      have hF0 := hF0.trans (if_neg (by decide))
      refine lv_if_ne (tgt := 37) hx hb dX3_readHall_32 (by decide) (fun c32 => absurd (by decide +kernel) c32) (fun _ => ?_)
      refine lv_iconst (v := 0) hx hb dX3_readHall_35 zk_iconst_0 ?_
      have hFe : FX = (0, v29na0_1.toInt, v29na0_2.toInt, v29na0_8.toInt, v29na0_9.toInt, v29na0_10.toInt, v29na0_11.toInt, v29na0_12.toInt, v29na0_13.toInt, a0_5_0.toInt, a0_5_1.toInt, a0_5_2.toInt, a0_5_3.toInt) := hF0
      exact W.zret (v := 0) hx hb hr rfl (fun t ht hW => ⟨⟨0, (), rfl, ⟨(Or.inr (rfl)), (congrArg Prod.fst hFe).symm⟩, v29na0_1, v29na0_2, v29na0_8, v29na0_9, v29na0_10, v29na0_11, v29na0_12, v29na0_13, a0_5_0, a0_5_1, a0_5_2, a0_5_3, ⟨bv29na0_8.1, bv29na0_8.2⟩, ⟨bv29na0_9.1, bv29na0_9.2⟩, ⟨bv29na0_10.1, bv29na0_10.2⟩, ⟨ba0_5_0_l, ba0_5_0_u⟩, (congrArg Prod.snd hFe), by rw [ht]; exact hP, va_K.moved hW.alike hK, hD⟩, hS.F ht⟩) hS.2.2 dX3_readHall_36
  · subst hw
    have hF0 := hF0.trans (if_neg (by decide))
    refine lv_if_ne (tgt := 18) hx hb dX3_readHall_13 (by decide) (fun c13 => absurd (by decide +kernel) c13) (fun _ => ?_)
    refine lv_iconst (v := 0) hx hb dX3_readHall_16 zk_iconst_0 ?_
    have hFe : FX = (0, v10na0_1.toInt, v10na0_2.toInt, v10na0_8.toInt, v10na0_9.toInt, v10na0_10.toInt, v10na0_11.toInt, v10na0_12.toInt, v10na0_13.toInt, a0_5_0.toInt, a0_5_1.toInt, a0_5_2.toInt, a0_5_3.toInt) := hF0
    exact W.zret (v := 0) hx hb hr rfl (fun t ht hW => ⟨⟨0, (), rfl, ⟨(Or.inr (rfl)), (congrArg Prod.fst hFe).symm⟩, v10na0_1, v10na0_2, v10na0_8, v10na0_9, v10na0_10, v10na0_11, v10na0_12, v10na0_13, a0_5_0, a0_5_1, a0_5_2, a0_5_3, ⟨bv10na0_8.1, bv10na0_8.2⟩, ⟨bv10na0_9.1, bv10na0_9.2⟩, ⟨bv10na0_10.1, bv10na0_10.2⟩, ⟨ba0_5_0_l, ba0_5_0_u⟩, (congrArg Prod.snd hFe), by rw [ht]; exact hP, va_K.moved hW.alike hK, hD⟩, hS.F ht⟩) hS.2.2 dX3_readHall_17

set_option maxHeartbeats 4000000 in
set_option maxRecDepth 100000 in
theorem f_X3_readLaw (l : Launch) (dC : Nat → ClassId) (dI : Nat → Nat → Nat) (sz : Nat) (a0 : Nat) (a0g_0 a0g_4 a0g_6 : Value) (a0_1 : Int32) (a0_2 : Int32) (a0_3 : Nat) (a0_5 : Nat) (a0_7 : Int32) (a0_8 : Int32) (a0_9 : Int32) (a0_10 : Int32) (a0_11 : Int64) (a0_12 : Int32) (a0_13 : Int32) (ka0_3 : ClassId) (fa0_3 : Nat → Int32) (a0_5_0 : Int32) (a0_5g_1 a0_5g_2 a0_5g_3 a0_5g_8 a0_5g_9 a0_5g_10 a0_5g_11 a0_5g_12 a0_5g_13 a0_5g_14 : Value) (a0_5_4 : Int32) (a0_5_5 : Int32) (a0_5_6 : Int32) (a0_5_7 : Int32) (ad : Nat → Nat) (ba0_7_l : (0 : Int) ≤ a0_7.toInt) (ba0_7_u : a0_7.toInt ≤ (900 : Int)) (ba0_8_l : (0 : Int) ≤ a0_8.toInt) (ba0_8_u : a0_8.toInt ≤ (900 : Int)) (ba0_9_l : (0 : Int) ≤ a0_9.toInt) (ba0_9_u : a0_9.toInt ≤ (900 : Int)) (ba0_10_l : (0 : Int) ≤ a0_10.toInt) (ba0_10_u : a0_10.toInt ≤ (4 : Int)) (ba0_5_0_l : (0 : Int) ≤ a0_5_0.toInt) (ba0_5_0_u : a0_5_0.toInt ≤ (9 : Int)) (ba0_5_4_l : (0 : Int) ≤ a0_5_4.toInt) (ba0_5_4_u : a0_5_4.toInt ≤ (1 : Int)) (ba0_5_5_l : (0 : Int) ≤ a0_5_5.toInt) (ba0_5_5_u : a0_5_5.toInt ≤ (8 : Int)) (ba0_5_6_l : (0 : Int) ≤ a0_5_6.toInt) (ba0_5_6_u : a0_5_6.toInt ≤ (8 : Int)) (ba0_5_7_l : (0 : Int) ≤ a0_5_7.toInt) (ba0_5_7_u : a0_5_7.toInt ≤ (8 : Int)) : zm l yX3_readLaw wsX3_readLaw ({ frames := 6, cells := 0, slots := 0, locals := 132 }) [.ref a0] dC dI sz [(a0, .inr (3, [a0g_0, .int a0_1, .int a0_2, .ref a0_3, a0g_4, .ref a0_5, a0g_6, .int a0_7, .int a0_8, .int a0_9, .int a0_10, .long a0_11, .int a0_12, .int a0_13])), (a0_3, .inl (ka0_3, 900, .inl (fa0_3))), (a0_5, .inr (0, [.int a0_5_0, a0_5g_1, a0_5g_2, a0_5g_3, .int a0_5_4, .int a0_5_5, .int a0_5_6, .int a0_5_7, a0_5g_8, a0_5g_9, a0_5g_10, a0_5g_11, a0_5g_12, a0_5g_13, a0_5g_14]))] [(ka0_3, .byte)] (fun A U => sxc_T ad A U ∧ va_Nw (.methodLinkNest RX3 223 yX7_within RX7) U) (fun A => va_Qi (fun (r : Int32) (_ : Unit) => ((r = 1) ∨ (r = 0)) ∧ r.toInt = (Ff_X3_readLaw a0_1.toInt a0_2.toInt a0_7.toInt a0_9.toInt a0_11.toInt a0_12.toInt a0_13.toInt (fl_A fa0_3) a0_5_0.toInt a0_5_4.toInt a0_5_5.toInt a0_5_6.toInt a0_5_7.toInt).1) (fun (_ : Unit) (t : State) => ∃ na0_1 : Int32, ∃ na0_2 : Int32, ∃ na0_8 : Int32, ∃ na0_9 : Int32, ∃ na0_10 : Int32, ∃ na0_11 : Int64, ∃ na0_12 : Int32, ∃ na0_13 : Int32, ∃ na0_5_4 : Int32, ∃ na0_5_5 : Int32, ∃ na0_5_6 : Int32, ∃ na0_5_7 : Int32, ((0 : Int) ≤ na0_8.toInt ∧ na0_8.toInt ≤ 900) ∧ ((0 : Int) ≤ na0_9.toInt ∧ na0_9.toInt ≤ 900) ∧ ((0 : Int) ≤ na0_10.toInt ∧ na0_10.toInt ≤ 4) ∧ ((0 : Int) ≤ na0_5_4.toInt ∧ na0_5_4.toInt ≤ 1) ∧ ((0 : Int) ≤ na0_5_5.toInt ∧ na0_5_5.toInt ≤ 8) ∧ ((0 : Int) ≤ na0_5_6.toInt ∧ na0_5_6.toInt ≤ 8) ∧ ((0 : Int) ≤ na0_5_7.toInt ∧ na0_5_7.toInt ≤ 8) ∧ ((Ff_X3_readLaw a0_1.toInt a0_2.toInt a0_7.toInt a0_9.toInt a0_11.toInt a0_12.toInt a0_13.toInt (fl_A fa0_3) a0_5_0.toInt a0_5_4.toInt a0_5_5.toInt a0_5_6.toInt a0_5_7.toInt).2 = (na0_1.toInt, na0_2.toInt, na0_8.toInt, na0_9.toInt, na0_10.toInt, na0_11.toInt, na0_12.toInt, na0_13.toInt, na0_5_4.toInt, na0_5_5.toInt, na0_5_6.toInt, na0_5_7.toInt)) ∧ ax_B dC dI A [(a0, .inr (3, [a0g_0, .int na0_1, .int na0_2, .ref a0_3, a0g_4, .ref a0_5, a0g_6, .int a0_7, .int na0_8, .int na0_9, .int na0_10, .long na0_11, .int na0_12, .int na0_13])), (a0_3, .inl (ka0_3, 900, .inl (fa0_3))), (a0_5, .inr (0, [.int a0_5_0, a0_5g_1, a0_5g_2, a0_5g_3, .int na0_5_4, .int na0_5_5, .int na0_5_6, .int na0_5_7, a0_5g_8, a0_5g_9, a0_5g_10, a0_5g_11, a0_5g_12, a0_5g_13, a0_5g_14]))] [(ka0_3, .byte)] t) A) := by
  refine zh (cc := cX3_readLaw) (maxL := 1) (ret := (some .boolean)) zn_RX3 rfl (Nat.le_of_ble_eq_true rfl) (fun p e s m below meth c A ls hx hb hml hr hts (hown : s.vm.findClass RX3 = some m.cls) hlocks hA hS hP hK hD hE (hl : lv_has ls 1 [(0, .ref a0)]) => ?_)
  obtain ⟨hE0, hE1⟩ := hE
  generalize hFX : Ff_X3_readLaw a0_1.toInt a0_2.toInt a0_7.toInt a0_9.toInt a0_11.toInt a0_12.toInt a0_13.toInt (fl_A fa0_3) a0_5_0.toInt a0_5_4.toInt a0_5_5.toInt a0_5_6.toInt a0_5_7.toInt = FX at ⊢
  have hF0 := hFX.symm.trans (Ff_X3_readLaw.eq_1 a0_1.toInt a0_2.toInt a0_7.toInt a0_9.toInt a0_11.toInt a0_12.toInt a0_13.toInt (fl_A fa0_3) a0_5_0.toInt a0_5_4.toInt a0_5_5.toInt a0_5_6.toInt a0_5_7.toInt)
  refine lv_aload_n hx hb dX3_readLaw_0 rfl (lv_at hl 0 rfl) ?_
  have hKc := hK.sub (tys' := [(ka0_3, .byte)]) [0] rfl
  refine va_callv (va_runV (As := []) (rest := []) ⟨hx, hb, hml, hown, hts⟩ (f_X3_advance l dC dI s.heap.size a0 a0g_0 (.int a0_1) (.int a0_2) a0g_4 (.ref a0_5) a0g_6 (.int a0_13) a0_3 a0_7 a0_8 a0_9 a0_10 a0_11 a0_12 ka0_3 fa0_3 ba0_7_l ba0_7_u ba0_8_l ba0_8_u ba0_9_l ba0_9_u ba0_10_l ba0_10_u) (cwV 0 hts gX3_readLaw_X3_advance rfl rfl rfl zd_X3_advance ⟨Nat.le_of_ble_eq_true rfl, Nat.le_of_ble_eq_true rfl⟩) ⟨ax_blind (fun _ _ _ _ _ => trivial), zr_3 hKc (zp_P2 hP) (q0 := 0) rfl, ax_pre (zp_P2 hP) hKc (zp_D2 hD) (fun _ _ => trivial)⟩ rfl rfl hl.1 rfl (lv_room (Nat.le_of_ble_eq_true rfl)) dX3_readLaw_1 ⟨Nat.le_of_ble_eq_true rfl, Nat.le_of_ble_eq_true rfl⟩) hS (fun q _ h => zp_F2 hD hS hA q h) (zp_F2 hD hS hA) (fun u t H locs ht hvm hw => zx_5 (fun v1na0_8 v1na0_9 v1na0_10 v1na0_11 v1na0_12 => zy_4 (fun bv1na0_8 bv1na0_9 bv1na0_10 hraw1_0 hB hz1 hk1 hS1 => zo2 hB ht hP hD hk1 (zp_F2 hD hS hA) hS1 (fun hP hK1 hD hS => ?_))))
  have hc1 : Ff_X3_advance a0_7.toInt a0_9.toInt a0_11.toInt a0_12.toInt (fl_A fa0_3) = (v1na0_8.toInt, v1na0_9.toInt, v1na0_10.toInt, v1na0_11.toInt, v1na0_12.toInt) := hraw1_0
  have hF0 := hF0.trans (fl_c5_eq hc1)
  refine lv_aload_n hx hb dX3_readLaw_4 rfl (lv_at hl 0 rfl) ?_
  refine va_ldcS hx hb hown (sxc_R9 hE0) dX3_readLaw_5 ?_
  refine lv_iconst (v := 0) hx hb dX3_readLaw_7 zk_iconst_0 ?_
  refine lv_aload_n hx hb dX3_readLaw_8 rfl (lv_at hl 0 rfl) ?_
  refine va_get (D := (dC, dI)) (ci := 3) (v := .ref a0_5) (C := RX3) (T := TX3) (N := 14) hx hb hts zi_X3_readLaw_3 hown hK hP 0 rfl rfl 5 (by decide) (hts (.fieldLink RX3 22 "WaxTurns$Reade\x72" "draft" "LWaxTurns$Hall;") (zm_X3_readLaw_r1 (List.mem_of_getElem? (i := 0) rfl))) (fun _ h9 => h9) rfl dX3_readLaw_9 ?_
  refine va_get (D := (dC, dI)) (ci := 0) (v := .int a0_5_0) (C := RX0) (T := TX0) (N := 15) hx hb hts zi_X3_readLaw_0 hown hK hP 2 rfl rfl 0 (by decide) (hts (.fieldLink RX3 104 "WaxTurns$Hall" "figures" "I") (zm_X3_readLaw_r1 (List.mem_of_getElem? (i := 1) rfl))) (fun _ h9 => h9) rfl dX3_readLaw_12 ?_
  refine lv_iconst (v := 1) hx hb dX3_readLaw_15 zk_iconst_1 ?_
  refine lv_isub hx hb dX3_readLaw_16 ?_
  refine lv_topi (fun x16 ex16 => ?_)
  have qx16 : x16.toInt = a0_5_0.toInt - (1 : Int32).toInt := ai_sub ex16 ⟨ba0_5_0_l, ba0_5_0_u⟩ ⟨zq1, zq0⟩ (by decide) (by decide)
  have bx16 : (-1 : Int) ≤ x16.toInt ∧ x16.toInt ≤ 8 := ⟨by rw [qx16]; exact Int.sub_le_sub ba0_5_0_l zq0, by rw [qx16]; exact Int.sub_le_sub ba0_5_0_u zq1⟩
  have wx16 : x16.toInt = a0_5_0.toInt - 1 := qx16
  have hF0 := hF0.trans (fl_lt_eq (show x16.toInt = a0_5_0.toInt - 1 from qx16))
  have hKc := hK.sub (tys' := [(ka0_3, .byte)]) [0] rfl
  refine va_calli (va_runV (As := [.ref (ad 9), .int 0, .int x16]) (rest := []) ⟨hx, hb, hml, hown, hts⟩ (f_X3_takeWhole l dC dI H.size a0 (ad 9) 0 x16 a0g_0 a0g_4 (.ref a0_5) a0g_6 a0_1 a0_2 a0_3 a0_7 v1na0_8 v1na0_9 v1na0_10 v1na0_11 v1na0_12 a0_13 ka0_3 fa0_3 5 (sxc 9) ba0_7_l ba0_7_u bv1na0_8.1 bv1na0_8.2 bv1na0_9.1 bv1na0_9.2 bv1na0_10.1 bv1na0_10.2) (cwV 3 hts gX3_readLaw_X3_takeWhole rfl rfl rfl zd_X3_takeWhole ⟨Nat.le_of_ble_eq_true rfl, Nat.le_of_ble_eq_true rfl⟩) ⟨ax_blind (fun _ _ _ _ hq => ⟨sxc_W_same _ _ _ _ (hq.1), va_Nw.same rfl rfl (hq.2)⟩), zr_3 hKc (zp_P2 hP) (q0 := 0) rfl, ax_preE (zp_P2 hP) hKc (zp_D2 hD) (fun U hU hW => ⟨sxc_W_to (sxc_T_w hE0 (i := 9) (by decide)) hS.2.1 (zp_F2 hD hS hA) hU hW, va_Nw.warmM hW hE1⟩)⟩ rfl rfl hl.1 rfl (lv_room (Nat.le_of_ble_eq_true rfl)) dX3_readLaw_17 ⟨Nat.le_of_ble_eq_true rfl, Nat.le_of_ble_eq_true rfl⟩) hS (fun q _ h => zp_F2 hD hS hA q h) (zp_F2 hD hS hA) (fun r17 v17na0_13 t H1 locs ht hvm hw => zx_7 (fun v17na0_1 v17na0_2 v17na0_8 v17na0_9 v17na0_10 v17na0_11 v17na0_12 => zy_4 (fun bv17na0_8 bv17na0_9 bv17na0_10 hraw17_0 hB hz1 hk1 hS1 => zo2 hB ht hP hD hk1 (zp_F2 hD hS hA) hS1 (fun hP hK1 hD hS => ?_))))
  generalize H1 = H at hP hS ⊢
  obtain ⟨hw, hfr17⟩ := hw
  rw [show (0 : Int32).toInt = 0 from by decide, show ((5 : Nat) : Int) = 5 from rfl] at hfr17 hraw17_0
  have hc17 : Ff_X3_takeWhole 0 x16.toInt a0_1.toInt a0_2.toInt a0_7.toInt v1na0_8.toInt v1na0_9.toInt v1na0_10.toInt v1na0_11.toInt v1na0_12.toInt a0_13.toInt (fl_A fa0_3) 5 (fl_A (sxc 9)) = (r17.toInt, v17na0_1.toInt, v17na0_2.toInt, v17na0_8.toInt, v17na0_9.toInt, v17na0_10.toInt, v17na0_11.toInt, v17na0_12.toInt, v17na0_13.toInt) := Prod.ext hfr17.symm hraw17_0
  have hF0 := hF0.trans (fl_c9_eq hc17)
  rcases hw with hw | hw
  · obtain ⟨hw, h17⟩ := hw
    subst hw
    have l17k0_v17na0_13 : (0 : Int) ≤ v17na0_13.toInt := Int.le_trans zq5 h17.1
    have u17k0_v17na0_13 : v17na0_13.toInt ≤ (8 : Int) := Int.le_trans h17.2 bx16.2
    have hF0 := hF0.trans (if_pos (by decide))
    refine lv_if_ne (tgt := 25) hx hb dX3_readLaw_20 (by decide) (fun _ => ?_) (fun c20 => absurd c20 (by decide +kernel))
    refine lv_aload_n hx hb dX3_readLaw_25 rfl (lv_at hl 0 rfl) ?_
    refine va_get (D := (dC, dI)) (ci := 3) (v := .ref a0_5) (C := RX3) (T := TX3) (N := 14) hx hb hts zi_X3_readLaw_3 hown hK hP 0 rfl rfl 5 (by decide) (hts (.fieldLink RX3 22 "WaxTurns$Reade\x72" "draft" "LWaxTurns$Hall;") (zm_X3_readLaw_r1 (List.mem_of_getElem? (i := 0) rfl))) (fun _ h9 => h9) rfl dX3_readLaw_26 ?_
    refine lv_aload_n hx hb dX3_readLaw_29 rfl (lv_at hl 0 rfl) ?_
    refine va_get (D := (dC, dI)) (ci := 3) (v := .int v17na0_13) (C := RX3) (T := TX3) (N := 14) hx hb hts zi_X3_readLaw_3 hown hK hP 0 rfl rfl 13 (by decide) (hts (.fieldLink RX3 156 "WaxTurns$Reade\x72" "taken" "I") (zm_X3_readLaw_r1 (List.mem_of_getElem? (i := 2) rfl))) (fun _ h9 => h9) rfl dX3_readLaw_30 ?_
    refine va_put (D := (dC, dI)) (ci := 0) (v := .int v17na0_13) (ty := .int) (C := RX0) (T := TX0) (N := 15) hx hb hts zi_X3_readLaw_0 tyX0 tyX0_ok nmX0 hown hK hP hD hS 2 rfl rfl 5 (by decide) (hts (.fieldLink RX3 174 "WaxTurns$Hall" "times" "I") (zm_X3_readLaw_r1 (List.mem_of_getElem? (i := 3) rfl))) (fun _ h9 => h9) rfl (tyX0_ok 5 (by decide)) rfl rfl (Nat.le_of_ble_eq_true rfl) dX3_readLaw_33 (fun H locs hP hD hS => ?_)
    refine zs_2 (y := (a0_5, .inr (0, [.int a0_5_0, a0_5g_1, a0_5g_2, a0_5g_3, .int a0_5_4, .int v17na0_13, .int a0_5_6, .int a0_5_7, a0_5g_8, a0_5g_9, a0_5g_10, a0_5g_11, a0_5g_12, a0_5g_13, a0_5g_14]))) hP hD rfl (fun hP hD => ?_)
    refine lv_aload_n hx hb dX3_readLaw_36 rfl (lv_at hl 0 rfl) ?_
    refine va_ldcS hx hb hown (sxc_R10 hE0) dX3_readLaw_37 ?_
    refine lv_iconst (v := 0) hx hb dX3_readLaw_39 zk_iconst_0 ?_
    refine lv_aload_n hx hb dX3_readLaw_40 rfl (lv_at hl 0 rfl) ?_
    refine va_get (D := (dC, dI)) (ci := 3) (v := .ref a0_5) (C := RX3) (T := TX3) (N := 14) hx hb hts zi_X3_readLaw_3 hown hK hP 0 rfl rfl 5 (by decide) (hts (.fieldLink RX3 22 "WaxTurns$Reade\x72" "draft" "LWaxTurns$Hall;") (zm_X3_readLaw_r1 (List.mem_of_getElem? (i := 0) rfl))) (fun _ h9 => h9) rfl dX3_readLaw_41 ?_
    refine va_get (D := (dC, dI)) (ci := 0) (v := .int a0_5_0) (C := RX0) (T := TX0) (N := 15) hx hb hts zi_X3_readLaw_0 hown hK hP 2 rfl rfl 0 (by decide) (hts (.fieldLink RX3 104 "WaxTurns$Hall" "figures" "I") (zm_X3_readLaw_r1 (List.mem_of_getElem? (i := 1) rfl))) (fun _ h9 => h9) rfl dX3_readLaw_44 ?_
    refine lv_iconst (v := 1) hx hb dX3_readLaw_47 zk_iconst_1 ?_
    refine lv_isub hx hb dX3_readLaw_48 ?_
    refine ax_ti x16 ex16.symm ?_
    have hKc := hK.sub (tys' := [(ka0_3, .byte)]) [0] rfl
    refine va_calli (va_runV (As := [.ref (ad 10), .int 0, .int x16]) (rest := []) ⟨hx, hb, hml, hown, hts⟩ (f_X3_takeWhole l dC dI H.size a0 (ad 10) 0 x16 a0g_0 a0g_4 (.ref a0_5) a0g_6 v17na0_1 v17na0_2 a0_3 a0_7 v17na0_8 v17na0_9 v17na0_10 v17na0_11 v17na0_12 v17na0_13 ka0_3 fa0_3 4 (sxc 10) ba0_7_l ba0_7_u bv17na0_8.1 bv17na0_8.2 bv17na0_9.1 bv17na0_9.2 bv17na0_10.1 bv17na0_10.2) (cwV 3 hts gX3_readLaw_X3_takeWhole rfl rfl rfl zd_X3_takeWhole ⟨Nat.le_of_ble_eq_true rfl, Nat.le_of_ble_eq_true rfl⟩) ⟨ax_blind (fun _ _ _ _ hq => ⟨sxc_W_same _ _ _ _ (hq.1), va_Nw.same rfl rfl (hq.2)⟩), zr_3 hKc (zp_P2 hP) (q0 := 0) rfl, ax_preE (zp_P2 hP) hKc (zp_D2 hD) (fun U hU hW => ⟨sxc_W_to (sxc_T_w hE0 (i := 10) (by decide)) hS.2.1 (zp_F2 hD hS hA) hU hW, va_Nw.warmM hW hE1⟩)⟩ rfl rfl hl.1 rfl (lv_room (Nat.le_of_ble_eq_true rfl)) dX3_readLaw_49 ⟨Nat.le_of_ble_eq_true rfl, Nat.le_of_ble_eq_true rfl⟩) hS (fun q _ h => zp_F2 hD hS hA q h) (zp_F2 hD hS hA) (fun r49 v49na0_13 t H1 locs ht hvm hw => zx_7 (fun v49na0_1 v49na0_2 v49na0_8 v49na0_9 v49na0_10 v49na0_11 v49na0_12 => zy_4 (fun bv49na0_8 bv49na0_9 bv49na0_10 hraw49_0 hB hz1 hk1 hS1 => zo2 hB ht hP hD hk1 (zp_F2 hD hS hA) hS1 (fun hP hK1 hD hS => ?_))))
    generalize H1 = H at hP hS ⊢
    obtain ⟨hw, hfr49⟩ := hw
    rw [show (0 : Int32).toInt = 0 from by decide, show ((4 : Nat) : Int) = 4 from rfl] at hfr49 hraw49_0
    have hc49 : Ff_X3_takeWhole 0 x16.toInt v17na0_1.toInt v17na0_2.toInt a0_7.toInt v17na0_8.toInt v17na0_9.toInt v17na0_10.toInt v17na0_11.toInt v17na0_12.toInt v17na0_13.toInt (fl_A fa0_3) 4 (fl_A (sxc 10)) = (r49.toInt, v49na0_1.toInt, v49na0_2.toInt, v49na0_8.toInt, v49na0_9.toInt, v49na0_10.toInt, v49na0_11.toInt, v49na0_12.toInt, v49na0_13.toInt) := Prod.ext hfr49.symm hraw49_0
    have hF0 := hF0.trans (fl_c9_eq hc49)
    rcases hw with hw | hw
    · obtain ⟨hw, h49⟩ := hw
      subst hw
      have l49k0_v49na0_13 : (0 : Int) ≤ v49na0_13.toInt := Int.le_trans zq5 h49.1
      have u49k0_v49na0_13 : v49na0_13.toInt ≤ (8 : Int) := Int.le_trans h49.2 bx16.2
      have hF0 := hF0.trans (if_pos (by decide))
      refine lv_if_ne (tgt := 57) hx hb dX3_readLaw_52 (by decide) (fun _ => ?_) (fun c52 => absurd c52 (by decide +kernel))
      refine lv_aload_n hx hb dX3_readLaw_57 rfl (lv_at hl 0 rfl) ?_
      refine va_get (D := (dC, dI)) (ci := 3) (v := .ref a0_5) (C := RX3) (T := TX3) (N := 14) hx hb hts zi_X3_readLaw_3 hown hK hP 0 rfl rfl 5 (by decide) (hts (.fieldLink RX3 22 "WaxTurns$Reade\x72" "draft" "LWaxTurns$Hall;") (zm_X3_readLaw_r1 (List.mem_of_getElem? (i := 0) rfl))) (fun _ h9 => h9) rfl dX3_readLaw_58 ?_
      refine lv_aload_n hx hb dX3_readLaw_61 rfl (lv_at hl 0 rfl) ?_
      refine va_get (D := (dC, dI)) (ci := 3) (v := .int v49na0_13) (C := RX3) (T := TX3) (N := 14) hx hb hts zi_X3_readLaw_3 hown hK hP 0 rfl rfl 13 (by decide) (hts (.fieldLink RX3 156 "WaxTurns$Reade\x72" "taken" "I") (zm_X3_readLaw_r1 (List.mem_of_getElem? (i := 2) rfl))) (fun _ h9 => h9) rfl dX3_readLaw_62 ?_
      refine va_put (D := (dC, dI)) (ci := 0) (v := .int v49na0_13) (ty := .int) (C := RX0) (T := TX0) (N := 15) hx hb hts zi_X3_readLaw_0 tyX0 tyX0_ok nmX0 hown hK hP hD hS 2 rfl rfl 6 (by decide) (hts (.fieldLink RX3 178 "WaxTurns$Hall" "plus" "I") (zm_X3_readLaw_r1 (List.mem_of_getElem? (i := 4) rfl))) (fun _ h9 => h9) rfl (tyX0_ok 6 (by decide)) rfl rfl (Nat.le_of_ble_eq_true rfl) dX3_readLaw_65 (fun H locs hP hD hS => ?_)
      refine zs_2 (y := (a0_5, .inr (0, [.int a0_5_0, a0_5g_1, a0_5g_2, a0_5g_3, .int a0_5_4, .int v17na0_13, .int v49na0_13, .int a0_5_7, a0_5g_8, a0_5g_9, a0_5g_10, a0_5g_11, a0_5g_12, a0_5g_13, a0_5g_14]))) hP hD rfl (fun hP hD => ?_)
      refine lv_aload_n hx hb dX3_readLaw_68 rfl (lv_at hl 0 rfl) ?_
      refine va_ldcS hx hb hown (sxc_R11 hE0) dX3_readLaw_69 ?_
      refine lv_iconst (v := 0) hx hb dX3_readLaw_71 zk_iconst_0 ?_
      refine lv_aload_n hx hb dX3_readLaw_72 rfl (lv_at hl 0 rfl) ?_
      refine va_get (D := (dC, dI)) (ci := 3) (v := .ref a0_5) (C := RX3) (T := TX3) (N := 14) hx hb hts zi_X3_readLaw_3 hown hK hP 0 rfl rfl 5 (by decide) (hts (.fieldLink RX3 22 "WaxTurns$Reade\x72" "draft" "LWaxTurns$Hall;") (zm_X3_readLaw_r1 (List.mem_of_getElem? (i := 0) rfl))) (fun _ h9 => h9) rfl dX3_readLaw_73 ?_
      refine va_get (D := (dC, dI)) (ci := 0) (v := .int a0_5_0) (C := RX0) (T := TX0) (N := 15) hx hb hts zi_X3_readLaw_0 hown hK hP 2 rfl rfl 0 (by decide) (hts (.fieldLink RX3 104 "WaxTurns$Hall" "figures" "I") (zm_X3_readLaw_r1 (List.mem_of_getElem? (i := 1) rfl))) (fun _ h9 => h9) rfl dX3_readLaw_76 ?_
      refine lv_iconst (v := 1) hx hb dX3_readLaw_79 zk_iconst_1 ?_
      refine lv_isub hx hb dX3_readLaw_80 ?_
      refine ax_ti x16 ex16.symm ?_
      have hKc := hK.sub (tys' := [(ka0_3, .byte)]) [0] rfl
      refine va_calli (va_runV (As := [.ref (ad 11), .int 0, .int x16]) (rest := []) ⟨hx, hb, hml, hown, hts⟩ (f_X3_takeWhole l dC dI H.size a0 (ad 11) 0 x16 a0g_0 a0g_4 (.ref a0_5) a0g_6 v49na0_1 v49na0_2 a0_3 a0_7 v49na0_8 v49na0_9 v49na0_10 v49na0_11 v49na0_12 v49na0_13 ka0_3 fa0_3 5 (sxc 11) ba0_7_l ba0_7_u bv49na0_8.1 bv49na0_8.2 bv49na0_9.1 bv49na0_9.2 bv49na0_10.1 bv49na0_10.2) (cwV 3 hts gX3_readLaw_X3_takeWhole rfl rfl rfl zd_X3_takeWhole ⟨Nat.le_of_ble_eq_true rfl, Nat.le_of_ble_eq_true rfl⟩) ⟨ax_blind (fun _ _ _ _ hq => ⟨sxc_W_same _ _ _ _ (hq.1), va_Nw.same rfl rfl (hq.2)⟩), zr_3 hKc (zp_P2 hP) (q0 := 0) rfl, ax_preE (zp_P2 hP) hKc (zp_D2 hD) (fun U hU hW => ⟨sxc_W_to (sxc_T_w hE0 (i := 11) (by decide)) hS.2.1 (zp_F2 hD hS hA) hU hW, va_Nw.warmM hW hE1⟩)⟩ rfl rfl hl.1 rfl (lv_room (Nat.le_of_ble_eq_true rfl)) dX3_readLaw_81 ⟨Nat.le_of_ble_eq_true rfl, Nat.le_of_ble_eq_true rfl⟩) hS (fun q _ h => zp_F2 hD hS hA q h) (zp_F2 hD hS hA) (fun r81 v81na0_13 t H1 locs ht hvm hw => zx_7 (fun v81na0_1 v81na0_2 v81na0_8 v81na0_9 v81na0_10 v81na0_11 v81na0_12 => zy_4 (fun bv81na0_8 bv81na0_9 bv81na0_10 hraw81_0 hB hz1 hk1 hS1 => zo2 hB ht hP hD hk1 (zp_F2 hD hS hA) hS1 (fun hP hK1 hD hS => ?_))))
      generalize H1 = H at hP hS ⊢
      obtain ⟨hw, hfr81⟩ := hw
      rw [show (0 : Int32).toInt = 0 from by decide, show ((5 : Nat) : Int) = 5 from rfl] at hfr81 hraw81_0
      have hc81 : Ff_X3_takeWhole 0 x16.toInt v49na0_1.toInt v49na0_2.toInt a0_7.toInt v49na0_8.toInt v49na0_9.toInt v49na0_10.toInt v49na0_11.toInt v49na0_12.toInt v49na0_13.toInt (fl_A fa0_3) 5 (fl_A (sxc 11)) = (r81.toInt, v81na0_1.toInt, v81na0_2.toInt, v81na0_8.toInt, v81na0_9.toInt, v81na0_10.toInt, v81na0_11.toInt, v81na0_12.toInt, v81na0_13.toInt) := Prod.ext hfr81.symm hraw81_0
      have hF0 := hF0.trans (fl_c9_eq hc81)
      rcases hw with hw | hw
      · obtain ⟨hw, h81⟩ := hw
        subst hw
        have l81k0_v81na0_13 : (0 : Int) ≤ v81na0_13.toInt := Int.le_trans zq5 h81.1
        have u81k0_v81na0_13 : v81na0_13.toInt ≤ (8 : Int) := Int.le_trans h81.2 bx16.2
        have hF0 := hF0.trans (if_pos (by decide))
        refine lv_if_ne (tgt := 89) hx hb dX3_readLaw_84 (by decide) (fun _ => ?_) (fun c84 => absurd c84 (by decide +kernel))
        refine lv_aload_n hx hb dX3_readLaw_89 rfl (lv_at hl 0 rfl) ?_
        refine va_get (D := (dC, dI)) (ci := 3) (v := .ref a0_5) (C := RX3) (T := TX3) (N := 14) hx hb hts zi_X3_readLaw_3 hown hK hP 0 rfl rfl 5 (by decide) (hts (.fieldLink RX3 22 "WaxTurns$Reade\x72" "draft" "LWaxTurns$Hall;") (zm_X3_readLaw_r1 (List.mem_of_getElem? (i := 0) rfl))) (fun _ h9 => h9) rfl dX3_readLaw_90 ?_
        refine lv_aload_n hx hb dX3_readLaw_93 rfl (lv_at hl 0 rfl) ?_
        refine va_get (D := (dC, dI)) (ci := 3) (v := .int v81na0_13) (C := RX3) (T := TX3) (N := 14) hx hb hts zi_X3_readLaw_3 hown hK hP 0 rfl rfl 13 (by decide) (hts (.fieldLink RX3 156 "WaxTurns$Reade\x72" "taken" "I") (zm_X3_readLaw_r1 (List.mem_of_getElem? (i := 2) rfl))) (fun _ h9 => h9) rfl dX3_readLaw_94 ?_
        refine va_put (D := (dC, dI)) (ci := 0) (v := .int v81na0_13) (ty := .int) (C := RX0) (T := TX0) (N := 15) hx hb hts zi_X3_readLaw_0 tyX0 tyX0_ok nmX0 hown hK hP hD hS 2 rfl rfl 7 (by decide) (hts (.fieldLink RX3 182 "WaxTurns$Hall" "first" "I") (zm_X3_readLaw_r1 (List.mem_of_getElem? (i := 5) rfl))) (fun _ h9 => h9) rfl (tyX0_ok 7 (by decide)) rfl rfl (Nat.le_of_ble_eq_true rfl) dX3_readLaw_97 (fun H locs hP hD hS => ?_)
        refine zs_2 (y := (a0_5, .inr (0, [.int a0_5_0, a0_5g_1, a0_5g_2, a0_5g_3, .int a0_5_4, .int v17na0_13, .int v49na0_13, .int v81na0_13, a0_5g_8, a0_5g_9, a0_5g_10, a0_5g_11, a0_5g_12, a0_5g_13, a0_5g_14]))) hP hD rfl (fun hP hD => ?_)
        refine lv_aload_n hx hb dX3_readLaw_100 rfl (lv_at hl 0 rfl) ?_
        refine va_get (D := (dC, dI)) (ci := 3) (v := .ref a0_5) (C := RX3) (T := TX3) (N := 14) hx hb hts zi_X3_readLaw_3 hown hK hP 0 rfl rfl 5 (by decide) (hts (.fieldLink RX3 22 "WaxTurns$Reade\x72" "draft" "LWaxTurns$Hall;") (zm_X3_readLaw_r1 (List.mem_of_getElem? (i := 0) rfl))) (fun _ h9 => h9) rfl dX3_readLaw_101 ?_
        refine lv_iconst (v := 1) hx hb dX3_readLaw_104 zk_iconst_1 ?_
        refine va_put (D := (dC, dI)) (ci := 0) (v := .int 1) (ty := .boolean) (C := RX0) (T := TX0) (N := 15) hx hb hts zi_X3_readLaw_0 tyX0 tyX0_ok nmX0 hown hK hP hD hS 2 rfl rfl 4 (by decide) (hts (.fieldLink RX3 68 "WaxTurns$Hall" "lawTold" "Z") (zm_X3_readLaw_r1 (List.mem_of_getElem? (i := 6) rfl))) (fun _ h9 => h9) rfl (tyX0_ok 4 (by decide)) rfl rfl (Nat.le_of_ble_eq_true rfl) dX3_readLaw_105 (fun H locs hP hD hS => ?_)
        refine zs_2 (y := (a0_5, .inr (0, [.int a0_5_0, a0_5g_1, a0_5g_2, a0_5g_3, .int 1, .int v17na0_13, .int v49na0_13, .int v81na0_13, a0_5g_8, a0_5g_9, a0_5g_10, a0_5g_11, a0_5g_12, a0_5g_13, a0_5g_14]))) hP hD rfl (fun hP hD => ?_)
        refine lv_iconst (v := 1) hx hb dX3_readLaw_108 zk_iconst_1 ?_
        have hFe : FX = (1, v81na0_1.toInt, v81na0_2.toInt, v81na0_8.toInt, v81na0_9.toInt, v81na0_10.toInt, v81na0_11.toInt, v81na0_12.toInt, v81na0_13.toInt, 1, v17na0_13.toInt, v49na0_13.toInt, v81na0_13.toInt) := hF0
        exact W.zret (v := 1) hx hb hr rfl (fun t ht hW => ⟨⟨1, (), rfl, ⟨(Or.inl (rfl)), (congrArg Prod.fst hFe).symm⟩, v81na0_1, v81na0_2, v81na0_8, v81na0_9, v81na0_10, v81na0_11, v81na0_12, v81na0_13, 1, v17na0_13, v49na0_13, v81na0_13, ⟨bv81na0_8.1, bv81na0_8.2⟩, ⟨bv81na0_9.1, bv81na0_9.2⟩, ⟨bv81na0_10.1, bv81na0_10.2⟩, ⟨Int.le_trans (by decide) zq1, zq0⟩, ⟨l17k0_v17na0_13, u17k0_v17na0_13⟩, ⟨l49k0_v49na0_13, u49k0_v49na0_13⟩, ⟨l81k0_v81na0_13, u81k0_v81na0_13⟩, (congrArg Prod.snd hFe), by rw [ht]; exact hP, va_K.moved hW.alike hK, hD⟩, hS.F ht⟩) hS.2.2 dX3_readLaw_109
      · subst hw
        have hF0 := hF0.trans (if_neg (by decide))
        refine lv_if_ne (tgt := 89) hx hb dX3_readLaw_84 (by decide) (fun c84 => absurd (by decide +kernel) c84) (fun _ => ?_)
        refine lv_iconst (v := 0) hx hb dX3_readLaw_87 zk_iconst_0 ?_
        have hFe : FX = (0, v81na0_1.toInt, v81na0_2.toInt, v81na0_8.toInt, v81na0_9.toInt, v81na0_10.toInt, v81na0_11.toInt, v81na0_12.toInt, v81na0_13.toInt, a0_5_4.toInt, v17na0_13.toInt, v49na0_13.toInt, a0_5_7.toInt) := hF0
        exact W.zret (v := 0) hx hb hr rfl (fun t ht hW => ⟨⟨0, (), rfl, ⟨(Or.inr (rfl)), (congrArg Prod.fst hFe).symm⟩, v81na0_1, v81na0_2, v81na0_8, v81na0_9, v81na0_10, v81na0_11, v81na0_12, v81na0_13, a0_5_4, v17na0_13, v49na0_13, a0_5_7, ⟨bv81na0_8.1, bv81na0_8.2⟩, ⟨bv81na0_9.1, bv81na0_9.2⟩, ⟨bv81na0_10.1, bv81na0_10.2⟩, ⟨ba0_5_4_l, ba0_5_4_u⟩, ⟨l17k0_v17na0_13, u17k0_v17na0_13⟩, ⟨l49k0_v49na0_13, u49k0_v49na0_13⟩, ⟨ba0_5_7_l, ba0_5_7_u⟩, (congrArg Prod.snd hFe), by rw [ht]; exact hP, va_K.moved hW.alike hK, hD⟩, hS.F ht⟩) hS.2.2 dX3_readLaw_88
    · subst hw
      have hF0 := hF0.trans (if_neg (by decide))
      refine lv_if_ne (tgt := 57) hx hb dX3_readLaw_52 (by decide) (fun c52 => absurd (by decide +kernel) c52) (fun _ => ?_)
      refine lv_iconst (v := 0) hx hb dX3_readLaw_55 zk_iconst_0 ?_
      have hFe : FX = (0, v49na0_1.toInt, v49na0_2.toInt, v49na0_8.toInt, v49na0_9.toInt, v49na0_10.toInt, v49na0_11.toInt, v49na0_12.toInt, v49na0_13.toInt, a0_5_4.toInt, v17na0_13.toInt, a0_5_6.toInt, a0_5_7.toInt) := hF0
      exact W.zret (v := 0) hx hb hr rfl (fun t ht hW => ⟨⟨0, (), rfl, ⟨(Or.inr (rfl)), (congrArg Prod.fst hFe).symm⟩, v49na0_1, v49na0_2, v49na0_8, v49na0_9, v49na0_10, v49na0_11, v49na0_12, v49na0_13, a0_5_4, v17na0_13, a0_5_6, a0_5_7, ⟨bv49na0_8.1, bv49na0_8.2⟩, ⟨bv49na0_9.1, bv49na0_9.2⟩, ⟨bv49na0_10.1, bv49na0_10.2⟩, ⟨ba0_5_4_l, ba0_5_4_u⟩, ⟨l17k0_v17na0_13, u17k0_v17na0_13⟩, ⟨ba0_5_6_l, ba0_5_6_u⟩, ⟨ba0_5_7_l, ba0_5_7_u⟩, (congrArg Prod.snd hFe), by rw [ht]; exact hP, va_K.moved hW.alike hK, hD⟩, hS.F ht⟩) hS.2.2 dX3_readLaw_56
  · subst hw
    have hF0 := hF0.trans (if_neg (by decide))
    refine lv_if_ne (tgt := 25) hx hb dX3_readLaw_20 (by decide) (fun c20 => absurd (by decide +kernel) c20) (fun _ => ?_)
    refine lv_iconst (v := 0) hx hb dX3_readLaw_23 zk_iconst_0 ?_
    have hFe : FX = (0, v17na0_1.toInt, v17na0_2.toInt, v17na0_8.toInt, v17na0_9.toInt, v17na0_10.toInt, v17na0_11.toInt, v17na0_12.toInt, v17na0_13.toInt, a0_5_4.toInt, a0_5_5.toInt, a0_5_6.toInt, a0_5_7.toInt) := hF0
    exact W.zret (v := 0) hx hb hr rfl (fun t ht hW => ⟨⟨0, (), rfl, ⟨(Or.inr (rfl)), (congrArg Prod.fst hFe).symm⟩, v17na0_1, v17na0_2, v17na0_8, v17na0_9, v17na0_10, v17na0_11, v17na0_12, v17na0_13, a0_5_4, a0_5_5, a0_5_6, a0_5_7, ⟨bv17na0_8.1, bv17na0_8.2⟩, ⟨bv17na0_9.1, bv17na0_9.2⟩, ⟨bv17na0_10.1, bv17na0_10.2⟩, ⟨ba0_5_4_l, ba0_5_4_u⟩, ⟨ba0_5_5_l, ba0_5_5_u⟩, ⟨ba0_5_6_l, ba0_5_6_u⟩, ⟨ba0_5_7_l, ba0_5_7_u⟩, (congrArg Prod.snd hFe), by rw [ht]; exact hP, va_K.moved hW.alike hK, hD⟩, hS.F ht⟩) hS.2.2 dX3_readLaw_24

set_option maxHeartbeats 4000000 in
set_option maxRecDepth 100000 in
theorem f_X3_readFigure (l : Launch) (dC : Nat → ClassId) (dI : Nat → Nat → Nat) (sz : Nat) (a0 : Nat) (a0g_0 : Value) (a0_1 : Int32) (a0_2 : Int32) (a0_3 : Nat) (a0_4 : Nat) (a0_5 : Nat) (a0_6 : Int32) (a0_7 : Int32) (a0_8 : Int32) (a0_9 : Int32) (a0_10 : Int32) (a0_11 : Int64) (a0_12 : Int32) (a0_13 : Int32) (ka0_3 : ClassId) (fa0_3 : Nat → Int32) (ka0_4 : ClassId) (fa0_4 : Nat → Int64) (a0_5_0 : Int32) (a0_5g_1 a0_5g_2 a0_5g_3 a0_5g_4 a0_5g_5 a0_5g_6 a0_5g_7 a0_5g_9 a0_5g_12 a0_5g_13 a0_5g_14 : Value) (a0_5_8 : Int32) (a0_5_10 : Nat) (a0_5_11 : Nat) (ka0_5_10 : ClassId) (fa0_5_10 : Nat → Int32) (ka0_5_11 : ClassId) (fa0_5_11 : Nat → Int32) (ad : Nat → Nat) (ba0_6_l : (0 : Int) ≤ a0_6.toInt) (ba0_6_u : a0_6.toInt ≤ (12 : Int)) (ba0_7_l : (0 : Int) ≤ a0_7.toInt) (ba0_7_u : a0_7.toInt ≤ (900 : Int)) (ba0_8_l : (0 : Int) ≤ a0_8.toInt) (ba0_8_u : a0_8.toInt ≤ (900 : Int)) (ba0_9_l : (0 : Int) ≤ a0_9.toInt) (ba0_9_u : a0_9.toInt ≤ (900 : Int)) (ba0_10_l : (0 : Int) ≤ a0_10.toInt) (ba0_10_u : a0_10.toInt ≤ (4 : Int)) (ba0_5_0_l : (0 : Int) ≤ a0_5_0.toInt) (ba0_5_0_u : a0_5_0.toInt ≤ (9 : Int)) : zm l yX3_readFigure wsX3_readFigure ({ frames := 6, cells := 0, slots := 0, locals := 132 }) [.ref a0] dC dI sz [(a0, .inr (3, [a0g_0, .int a0_1, .int a0_2, .ref a0_3, .ref a0_4, .ref a0_5, .int a0_6, .int a0_7, .int a0_8, .int a0_9, .int a0_10, .long a0_11, .int a0_12, .int a0_13])), (a0_3, .inl (ka0_3, 900, .inl (fa0_3))), (a0_4, .inl (ka0_4, 12, .inr (.inl (fa0_4)))), (a0_5, .inr (0, [.int a0_5_0, a0_5g_1, a0_5g_2, a0_5g_3, a0_5g_4, a0_5g_5, a0_5g_6, a0_5g_7, .int a0_5_8, a0_5g_9, .ref a0_5_10, .ref a0_5_11, a0_5g_12, a0_5g_13, a0_5g_14])), (a0_5_10, .inl (ka0_5_10, 9, .inl (fa0_5_10))), (a0_5_11, .inl (ka0_5_11, 9, .inl (fa0_5_11)))] [(ka0_3, .byte), (ka0_4, .long), (ka0_5_10, .int), (ka0_5_11, .int)] (fun A U => sxc_T ad A U ∧ va_Nw (.methodLinkNest RX3 223 yX7_within RX7) U ∧ va_Nw (.methodLinkNest RX3 196 yX7_hasBit RX7) U) (fun A => va_Qi (fun (r : Int32) (_ : Unit) => ((r = 1) ∨ (r = 0)) ∧ r.toInt = (Ff_X3_readFigure a0_1.toInt a0_2.toInt a0_6.toInt a0_7.toInt a0_9.toInt a0_11.toInt a0_12.toInt a0_13.toInt (fl_A fa0_3) (fl_L fa0_4) a0_5_0.toInt a0_5_8.toInt (fl_A fa0_5_10) (fl_A fa0_5_11)).1) (fun (_ : Unit) (t : State) => ∃ na0_1 : Int32, ∃ na0_2 : Int32, ∃ na0_6 : Int32, ∃ na0_8 : Int32, ∃ na0_9 : Int32, ∃ na0_10 : Int32, ∃ na0_11 : Int64, ∃ na0_12 : Int32, ∃ na0_13 : Int32, ∃ nfa0_4 : Nat → Int64, ∃ na0_5_8 : Int32, ∃ nfa0_5_10 : Nat → Int32, ∃ nfa0_5_11 : Nat → Int32, ((0 : Int) ≤ na0_6.toInt ∧ na0_6.toInt ≤ 12) ∧ ((0 : Int) ≤ na0_8.toInt ∧ na0_8.toInt ≤ 900) ∧ ((0 : Int) ≤ na0_9.toInt ∧ na0_9.toInt ≤ 900) ∧ ((0 : Int) ≤ na0_10.toInt ∧ na0_10.toInt ≤ 4) ∧ ((Ff_X3_readFigure a0_1.toInt a0_2.toInt a0_6.toInt a0_7.toInt a0_9.toInt a0_11.toInt a0_12.toInt a0_13.toInt (fl_A fa0_3) (fl_L fa0_4) a0_5_0.toInt a0_5_8.toInt (fl_A fa0_5_10) (fl_A fa0_5_11)).2 = (na0_1.toInt, na0_2.toInt, na0_6.toInt, na0_8.toInt, na0_9.toInt, na0_10.toInt, na0_11.toInt, na0_12.toInt, na0_13.toInt, (fl_L nfa0_4), na0_5_8.toInt, (fl_A nfa0_5_10), (fl_A nfa0_5_11))) ∧ ax_B dC dI A [(a0, .inr (3, [a0g_0, .int na0_1, .int na0_2, .ref a0_3, .ref a0_4, .ref a0_5, .int na0_6, .int a0_7, .int na0_8, .int na0_9, .int na0_10, .long na0_11, .int na0_12, .int na0_13])), (a0_3, .inl (ka0_3, 900, .inl (fa0_3))), (a0_4, .inl (ka0_4, 12, .inr (.inl (nfa0_4)))), (a0_5, .inr (0, [.int a0_5_0, a0_5g_1, a0_5g_2, a0_5g_3, a0_5g_4, a0_5g_5, a0_5g_6, a0_5g_7, .int na0_5_8, a0_5g_9, .ref a0_5_10, .ref a0_5_11, a0_5g_12, a0_5g_13, a0_5g_14])), (a0_5_10, .inl (ka0_5_10, 9, .inl (nfa0_5_10))), (a0_5_11, .inl (ka0_5_11, 9, .inl (nfa0_5_11)))] [(ka0_3, .byte), (ka0_4, .long), (ka0_5_10, .int), (ka0_5_11, .int)] t) A) := by
  refine zh (cc := cX3_readFigure) (maxL := 3) (ret := (some .boolean)) zn_RX3 rfl (Nat.le_of_ble_eq_true rfl) (fun p e s m below meth c A ls hx hb hml hr hts (hown : s.vm.findClass RX3 = some m.cls) hlocks hA hS hP hK hD hE (hl : lv_has ls 3 [(0, .ref a0)]) => ?_)
  obtain ⟨hE0, hE1, hE2⟩ := hE
  generalize hFX : Ff_X3_readFigure a0_1.toInt a0_2.toInt a0_6.toInt a0_7.toInt a0_9.toInt a0_11.toInt a0_12.toInt a0_13.toInt (fl_A fa0_3) (fl_L fa0_4) a0_5_0.toInt a0_5_8.toInt (fl_A fa0_5_10) (fl_A fa0_5_11) = FX at ⊢
  have hF0 := hFX.symm.trans (Ff_X3_readFigure.eq_1 a0_1.toInt a0_2.toInt a0_6.toInt a0_7.toInt a0_9.toInt a0_11.toInt a0_12.toInt a0_13.toInt (fl_A fa0_3) (fl_L fa0_4) a0_5_0.toInt a0_5_8.toInt (fl_A fa0_5_10) (fl_A fa0_5_11))
  refine lv_aload_n hx hb dX3_readFigure_0 rfl (lv_at hl 0 rfl) ?_
  have hKc := hK.sub (tys' := [(ka0_3, .byte)]) [0] rfl
  refine va_callv (va_runV (As := []) (rest := []) ⟨hx, hb, hml, hown, hts⟩ (f_X3_advance l dC dI s.heap.size a0 a0g_0 (.int a0_1) (.int a0_2) (.ref a0_4) (.ref a0_5) (.int a0_6) (.int a0_13) a0_3 a0_7 a0_8 a0_9 a0_10 a0_11 a0_12 ka0_3 fa0_3 ba0_7_l ba0_7_u ba0_8_l ba0_8_u ba0_9_l ba0_9_u ba0_10_l ba0_10_u) (cwV 0 hts gX3_readFigure_X3_advance rfl rfl rfl zd_X3_advance ⟨Nat.le_of_ble_eq_true rfl, Nat.le_of_ble_eq_true rfl⟩) ⟨ax_blind (fun _ _ _ _ _ => trivial), zr_3 hKc (zp_P2 hP) (q0 := 0) rfl, ax_pre (zp_P2 hP) hKc (zp_D2 hD) (fun _ _ => trivial)⟩ rfl rfl hl.1 rfl (lv_room (Nat.le_of_ble_eq_true rfl)) dX3_readFigure_1 ⟨Nat.le_of_ble_eq_true rfl, Nat.le_of_ble_eq_true rfl⟩) hS (fun q _ h => zp_F2 hD hS hA q h) (zp_F2 hD hS hA) (fun u t H locs ht hvm hw => zx_5 (fun v1na0_8 v1na0_9 v1na0_10 v1na0_11 v1na0_12 => zy_4 (fun bv1na0_8 bv1na0_9 bv1na0_10 hraw1_0 hB hz1 hk1 hS1 => zo2 hB ht hP hD hk1 (zp_F2 hD hS hA) hS1 (fun hP hK1 hD hS => ?_))))
  have hc1 : Ff_X3_advance a0_7.toInt a0_9.toInt a0_11.toInt a0_12.toInt (fl_A fa0_3) = (v1na0_8.toInt, v1na0_9.toInt, v1na0_10.toInt, v1na0_11.toInt, v1na0_12.toInt) := hraw1_0
  have hF0 := hF0.trans (fl_c5_eq hc1)
  refine lv_aload_n hx hb dX3_readFigure_4 rfl (lv_at hl 0 rfl) ?_
  refine zc_cutc (wc := [(a0, .inr (3, [a0g_0, .int a0_1, .int a0_2, .ref a0_3, .ref a0_4, .ref a0_5, .int a0_6, .int a0_7, .int v1na0_8, .int v1na0_9, .int v1na0_10, .long v1na0_11, .int v1na0_12, .int a0_13])), (a0_4, .inl (ka0_4, 12, .inr (.inl (fa0_4)))), (a0_3, .inl (ka0_3, 900, .inl (fa0_3)))]) hP hD hS hA [0, 2, 1] (by decide +kernel) rfl (fun hPc hDc hFc hCc => ?_)
  have hKc := hK.sub (tys' := [(ka0_4, .long), (ka0_3, .byte)]) [1, 0] rfl
  refine va_calli (va_runV (As := []) (rest := []) ⟨hx, hb, hml, hown, hts⟩ (f_X3_takeName l dC dI H.size a0 a0g_0 (.ref a0_5) (.int a0_13) a0_1 a0_2 a0_3 a0_4 a0_6 a0_7 v1na0_8 v1na0_9 v1na0_10 v1na0_11 v1na0_12 ka0_4 fa0_4 ka0_3 fa0_3 ad ba0_6_l ba0_6_u ba0_7_l ba0_7_u bv1na0_8.1 bv1na0_8.2 bv1na0_9.1 bv1na0_9.2 bv1na0_10.1 bv1na0_10.2) (cwV 0 hts gX3_readFigure_X3_takeName rfl rfl rfl zd_X3_takeName ⟨Nat.le_of_ble_eq_true rfl, Nat.le_of_ble_eq_true rfl⟩) ⟨ax_blind (fun _ _ _ _ hq => sxc_T_same _ _ _ _ (hq)), zr_3 hKc hPc (q0 := 0) rfl, ax_preE hPc hKc hDc (fun U hU hW => sxc_T_to hE0 hS.2.1 hFc hU hW)⟩ rfl rfl hl.1 rfl (lv_room (Nat.le_of_ble_eq_true rfl)) dX3_readFigure_5 ⟨Nat.le_of_ble_eq_true rfl, Nat.le_of_ble_eq_true rfl⟩) hS (fun q _ h => hFc q h) hFc (fun r5 u t H locs ht hvm hw => zx_9 (fun v5na0_1 v5na0_2 v5na0_6 v5na0_8 v5na0_9 v5na0_10 v5na0_11 v5na0_12 v5nfa0_4 => zy_5 (fun bv5na0_6 bv5na0_8 bv5na0_9 bv5na0_10 hraw5_0 hB hz1 hk1 hS1 => zo hB ht hS1 (fun hP1 hK1 hD1 hS => ?_))))
  refine zc_backc (w := [(a0, .inr (3, [a0g_0, .int v5na0_1, .int v5na0_2, .ref a0_3, .ref a0_4, .ref a0_5, .int v5na0_6, .int a0_7, .int v5na0_8, .int v5na0_9, .int v5na0_10, .long v5na0_11, .int v5na0_12, .int a0_13])), (a0_3, .inl (ka0_3, 900, .inl (fa0_3))), (a0_4, .inl (ka0_4, 12, .inr (.inl (v5nfa0_4)))), (a0_5, .inr (0, [.int a0_5_0, a0_5g_1, a0_5g_2, a0_5g_3, a0_5g_4, a0_5g_5, a0_5g_6, a0_5g_7, .int a0_5_8, a0_5g_9, .ref a0_5_10, .ref a0_5_11, a0_5g_12, a0_5g_13, a0_5g_14])), (a0_5_10, .inl (ka0_5_10, 9, .inl (fa0_5_10))), (a0_5_11, .inl (ka0_5_11, 9, .inl (fa0_5_11)))]) hP hD hCc hk1 hFc hP1 hD1 [.inr 0, .inr 2, .inr 1, .inl 3, .inl 4, .inl 5] (by decide +kernel) rfl (fun hP hD => ?_)
  obtain ⟨hw, hfr5⟩ := hw
  have hc5 : Ff_X3_takeName a0_1.toInt a0_2.toInt a0_6.toInt a0_7.toInt v1na0_8.toInt v1na0_9.toInt v1na0_10.toInt v1na0_11.toInt v1na0_12.toInt (fl_L fa0_4) (fl_A fa0_3) = (r5.toInt, v5na0_1.toInt, v5na0_2.toInt, v5na0_6.toInt, v5na0_8.toInt, v5na0_9.toInt, v5na0_10.toInt, v5na0_11.toInt, v5na0_12.toInt, (fl_L v5nfa0_4)) := Prod.ext hfr5.symm hraw5_0
  have hF0 := hF0.trans (fl_c10_eq hc5)
  rcases hw with hw | hw
  · subst hw
    have hF0 := hF0.trans (if_pos (by decide))
    refine lv_if_eq (tgt := 37) hx hb dX3_readFigure_8 (by decide) (fun c8 => absurd c8 (by decide +kernel)) (fun _ => ?_)
    refine lv_aload_n hx hb dX3_readFigure_11 rfl (lv_at hl 0 rfl) ?_
    refine va_ldcS hx hb hown (sxc_R12 hE0) dX3_readFigure_12 ?_
    have hKc := hK.sub (tys' := [(ka0_3, .byte)]) [0] rfl
    refine va_calli (va_runV (As := [.ref (ad 12)]) (rest := []) ⟨hx, hb, hml, hown, hts⟩ (f_X3_takeWord l dC dI H.size a0 (ad 12) a0g_0 (.ref a0_4) (.ref a0_5) (.int v5na0_6) (.int a0_13) v5na0_1 v5na0_2 a0_3 a0_7 v5na0_8 v5na0_9 v5na0_10 v5na0_11 v5na0_12 ka0_3 fa0_3 2 (sxc 12) ba0_7_l ba0_7_u bv5na0_8.1 bv5na0_8.2 bv5na0_9.1 bv5na0_9.2 bv5na0_10.1 bv5na0_10.2) (cwV 1 hts gX3_readFigure_X3_takeWord rfl rfl rfl zd_X3_takeWord ⟨Nat.le_of_ble_eq_true rfl, Nat.le_of_ble_eq_true rfl⟩) ⟨ax_blind (fun _ _ _ _ hq => sxc_W_same _ _ _ _ (hq)), zr_3 hKc (zp_P2 hP) (q0 := 0) rfl, ax_preE (zp_P2 hP) hKc (zp_D2 hD) (fun U hU hW => sxc_W_to (sxc_T_w hE0 (i := 12) (by decide)) hS.2.1 (zp_F2 hD hS hA) hU hW)⟩ rfl rfl hl.1 rfl (lv_room (Nat.le_of_ble_eq_true rfl)) dX3_readFigure_14 ⟨Nat.le_of_ble_eq_true rfl, Nat.le_of_ble_eq_true rfl⟩) hS (fun q _ h => zp_F2 hD hS hA q h) (zp_F2 hD hS hA) (fun r14 u t H locs ht hvm hw => zx_7 (fun v14na0_1 v14na0_2 v14na0_8 v14na0_9 v14na0_10 v14na0_11 v14na0_12 => zy_4 (fun bv14na0_8 bv14na0_9 bv14na0_10 hraw14_0 hB hz1 hk1 hS1 => zo2 hB ht hP hD hk1 (zp_F2 hD hS hA) hS1 (fun hP hK1 hD hS => ?_))))
    obtain ⟨hw, hfr14⟩ := hw
    rw [show ((2 : Nat) : Int) = 2 from rfl] at hfr14 hraw14_0
    have hc14 : Ff_X3_takeWord v5na0_1.toInt v5na0_2.toInt a0_7.toInt v5na0_8.toInt v5na0_9.toInt v5na0_10.toInt v5na0_11.toInt v5na0_12.toInt (fl_A fa0_3) 2 (fl_A (sxc 12)) = (r14.toInt, v14na0_1.toInt, v14na0_2.toInt, v14na0_8.toInt, v14na0_9.toInt, v14na0_10.toInt, v14na0_11.toInt, v14na0_12.toInt) := Prod.ext hfr14.symm hraw14_0
    have hF0 := hF0.trans (fl_c8_eq hc14)
    rcases hw with hw | hw
    · subst hw
      have hF0 := hF0.trans (if_pos (by decide))
      refine lv_if_eq (tgt := 37) hx hb dX3_readFigure_17 (by decide) (fun c17 => absurd c17 (by decide +kernel)) (fun _ => ?_)
      refine lv_aload_n hx hb dX3_readFigure_20 rfl (lv_at hl 0 rfl) ?_
      refine lv_iconst (v := 0) hx hb dX3_readFigure_21 zk_iconst_0 ?_
      refine lv_aload_n hx hb dX3_readFigure_22 rfl (lv_at hl 0 rfl) ?_
      refine va_get (D := (dC, dI)) (ci := 3) (v := .ref a0_5) (C := RX3) (T := TX3) (N := 14) hx hb hts zi_X3_readFigure_3 hown hK hP 0 rfl rfl 5 (by decide) (hts (.fieldLink RX3 22 "WaxTurns$Reade\x72" "draft" "LWaxTurns$Hall;") (zm_X3_readFigure_r1 (List.mem_of_getElem? (i := 0) rfl))) (fun _ h9 => h9) rfl dX3_readFigure_23 ?_
      refine va_get (D := (dC, dI)) (ci := 0) (v := .int a0_5_0) (C := RX0) (T := TX0) (N := 15) hx hb hts zi_X3_readFigure_0 hown hK hP 3 rfl rfl 0 (by decide) (hts (.fieldLink RX3 104 "WaxTurns$Hall" "figures" "I") (zm_X3_readFigure_r1 (List.mem_of_getElem? (i := 1) rfl))) (fun _ h9 => h9) rfl dX3_readFigure_26 ?_
      refine lv_iconst (v := 1) hx hb dX3_readFigure_29 zk_iconst_1 ?_
      refine lv_isub hx hb dX3_readFigure_30 ?_
      refine lv_topi (fun x30 ex30 => ?_)
      have qx30 : x30.toInt = a0_5_0.toInt - (1 : Int32).toInt := ai_sub ex30 ⟨ba0_5_0_l, ba0_5_0_u⟩ ⟨zq1, zq0⟩ (by decide) (by decide)
      have bx30 : (-1 : Int) ≤ x30.toInt ∧ x30.toInt ≤ 8 := ⟨by rw [qx30]; exact Int.sub_le_sub ba0_5_0_l zq0, by rw [qx30]; exact Int.sub_le_sub ba0_5_0_u zq1⟩
      have wx30 : x30.toInt = a0_5_0.toInt - 1 := qx30
      have hF0 := hF0.trans (fl_lt_eq (show x30.toInt = a0_5_0.toInt - 1 from qx30))
      refine va_calli (va_runV (As := [.int 0, .int x30]) (rest := []) ⟨hx, hb, hml, hown, hts⟩ (f_X3_isWholeWithin l dC dI H.size a0 0 x30 a0g_0 (.ref a0_3) (.ref a0_4) (.ref a0_5) (.int v5na0_6) (.int a0_7) (.int v14na0_9) (.long v14na0_11) (.int a0_13) v14na0_1 v14na0_2 v14na0_8 v14na0_10 v14na0_12 bv14na0_8.1 bv14na0_8.2 bv14na0_10.1 bv14na0_10.2) (cwV 2 hts gX3_readFigure_X3_isWholeWithin rfl rfl rfl zd_X3_isWholeWithin ⟨Nat.le_of_ble_eq_true rfl, Nat.le_of_ble_eq_true rfl⟩) ⟨ax_blind (fun _ _ _ _ hq => va_Nw.same rfl rfl (hq)), zr_3 (zp_K hK) (zp_P1 hP) (q0 := 0) rfl, ax_pre (zp_P1 hP) (zp_K hK) (zp_D1 hD) (fun _ hW => va_Nw.warmM hW hE1)⟩ rfl rfl hl.1 rfl (lv_room (Nat.le_of_ble_eq_true rfl)) dX3_readFigure_31 ⟨Nat.le_of_ble_eq_true rfl, Nat.le_of_ble_eq_true rfl⟩) hS (fun q _ h => zp_F1 hD hS hA q h) (zp_F1 hD hS hA) (fun r31 u t H locs ht hvm hw => zx_2 (fun v31na0_1 v31na0_2 => zy_1 (fun hraw31_0 hB hz1 hk1 hS1 => zo1 hB ht hP hD hk1 (zp_F1 hD hS hA) hS1 (fun hP hK1 hD hS => ?_))))
      obtain ⟨hw, hfr31⟩ := hw
      rw [show (0 : Int32).toInt = 0 from by decide] at hfr31 hraw31_0
      have hc31 : Ff_X3_isWholeWithin 0 x30.toInt v14na0_1.toInt v14na0_2.toInt v14na0_8.toInt v14na0_10.toInt v14na0_12.toInt = (r31.toInt, v31na0_1.toInt, v31na0_2.toInt) := Prod.ext hfr31.symm hraw31_0
      have hF0 := hF0.trans (fl_c3_eq hc31)
      rcases hw with hw | hw
      · obtain ⟨hw, h31⟩ := hw
        subst hw
        have l31k0_v14na0_12 : (0 : Int) ≤ v14na0_12.toInt := Int.le_trans zq5 h31.1
        have u31k0_v14na0_12 : v14na0_12.toInt ≤ (8 : Int) := Int.le_trans h31.2 bx30.2
        have hF0 := hF0.trans (if_pos (by decide))
        refine lv_if_ne (tgt := 39) hx hb dX3_readFigure_34 (by decide) (fun _ => ?_) (fun c34 => absurd c34 (by decide +kernel))
        refine lv_aload_n hx hb dX3_readFigure_39 rfl (lv_at hl 0 rfl) ?_
        refine va_get (D := (dC, dI)) (ci := 3) (v := .int v14na0_12) (C := RX3) (T := TX3) (N := 14) hx hb hts zi_X3_readFigure_3 hown hK hP 0 rfl rfl 12 (by decide) (hts (.fieldLink RX3 85 "WaxTurns$Reade\x72" "whole" "I") (zm_X3_readFigure_r1 (List.mem_of_getElem? (i := 2) rfl))) (fun _ h9 => h9) rfl dX3_readFigure_40 ?_
        refine lv_istore_n (lv' := [(1, .int v14na0_12), (0, .ref a0)]) hx hb dX3_readFigure_43 rfl hl (by decide) rfl (fun ls hl => ?_)
        refine lv_aload_n hx hb dX3_readFigure_44 rfl (lv_at hl 1 rfl) ?_
        refine va_get (D := (dC, dI)) (ci := 3) (v := .ref a0_5) (C := RX3) (T := TX3) (N := 14) hx hb hts zi_X3_readFigure_3 hown hK hP 0 rfl rfl 5 (by decide) (hts (.fieldLink RX3 22 "WaxTurns$Reade\x72" "draft" "LWaxTurns$Hall;") (zm_X3_readFigure_r1 (List.mem_of_getElem? (i := 0) rfl))) (fun _ h9 => h9) rfl dX3_readFigure_45 ?_
        refine va_get (D := (dC, dI)) (ci := 0) (v := .int a0_5_8) (C := RX0) (T := TX0) (N := 15) hx hb hts zi_X3_readFigure_0 hown hK hP 3 rfl rfl 8 (by decide) (hts (.fieldLink RX3 121 "WaxTurns$Hall" "toldBits" "I") (zm_X3_readFigure_r1 (List.mem_of_getElem? (i := 3) rfl))) (fun _ h9 => h9) rfl dX3_readFigure_48 ?_
        refine lv_iload_n hx hb dX3_readFigure_51 rfl (lv_at hl 0 rfl) ?_
        refine va_calli (va_runSN (As := [.int a0_5_8, .int v14na0_12]) (rest := []) ⟨hx, hb, hml, hown, hts⟩ (f_X7_hasBit l dC dI H.size a0_5_8 v14na0_12 ) ⟨va_cnB 2 hts gX3_readFigure_X7_hasBit_n196 rfl rfl rfl hE2 (hts (.initialized RX7) (zm_X3_readFigure_r5 (List.mem_of_getElem? (i := 2) rfl))) zd_X7_hasBit.2 ⟨Nat.le_of_ble_eq_true rfl, Nat.le_of_ble_eq_true rfl⟩, (hts (.static yX7_hasBit) (zm_X3_readFigure_r5 (List.mem_of_getElem? (i := 4) rfl))), trivial⟩ ⟨ax_blind (fun _ _ _ _ _ => trivial), ax_pre (zp_P0 hP) (zp_K hK) (zp_D0 hD) (fun _ _ => trivial)⟩ rfl rfl hl.1 rfl (lv_room (Nat.le_of_ble_eq_true rfl)) dX3_readFigure_52 ⟨Nat.le_of_ble_eq_true rfl, Nat.le_of_ble_eq_true rfl⟩) hS (fun q _ h => zp_F0 hD hS hA q h) (zp_F0 hD hS hA) (fun r52 u t H locs ht hvm hw hB hz1 hk1 hS1 => zo0 hB ht hP hD hk1 (zp_F0 hD hS hA) hS1 (fun hP hK1 hD hS => ?_))
        obtain ⟨hw, hfr52⟩ := hw
        have hc52 : Ff_X7_hasBit a0_5_8.toInt v14na0_12.toInt = r52.toInt := hfr52.symm
        have hF0 := hF0.trans (fl_lt_eq hc52.symm)
        rcases hw with hw | hw
        · subst hw
          have hF0 := hF0.trans (if_pos (by decide))
          refine lv_if_eq (tgt := 64) hx hb dX3_readFigure_55 (by decide) (fun c55 => absurd c55 (by decide +kernel)) (fun _ => ?_)
          refine lv_aload_n hx hb dX3_readFigure_58 rfl (lv_at hl 1 rfl) ?_
          refine lv_iconst (v := 3) hx hb dX3_readFigure_59 zk_iconst_3 ?_
          refine va_calli (va_runV (As := [.int 3]) (rest := []) ⟨hx, hb, hml, hown, hts⟩ (f_X3_fails l dC dI H.size a0 3 a0g_0 (.ref a0_3) (.ref a0_4) (.ref a0_5) (.int v5na0_6) (.int a0_7) (.int v14na0_9) (.int v14na0_10) (.long v14na0_11) (.int v14na0_12) (.int a0_13) v31na0_1 v31na0_2 v14na0_8 bv14na0_8.1 bv14na0_8.2) (cwV 1 hts gX3_readFigure_X3_fails rfl rfl rfl zd_X3_fails ⟨Nat.le_of_ble_eq_true rfl, Nat.le_of_ble_eq_true rfl⟩) ⟨ax_blind (fun _ _ _ _ _ => trivial), zr_3 (zp_K hK) (zp_P1 hP) (q0 := 0) rfl, ax_pre (zp_P1 hP) (zp_K hK) (zp_D1 hD) (fun _ _ => trivial)⟩ rfl rfl hl.1 rfl (lv_room (Nat.le_of_ble_eq_true rfl)) dX3_readFigure_60 ⟨Nat.le_of_ble_eq_true rfl, Nat.le_of_ble_eq_true rfl⟩) hS (fun q _ h => zp_F1 hD hS hA q h) (zp_F1 hD hS hA) (fun r60 u t H locs ht hvm hw => zx_2 (fun v60na0_1 v60na0_2 => zy_1 (fun hraw60_0 hB hz1 hk1 hS1 => zo1 hB ht hP hD hk1 (zp_F1 hD hS hA) hS1 (fun hP hK1 hD hS => ?_))))
          obtain ⟨hw, hfr60⟩ := hw
          rw [show (3 : Int32).toInt = 3 from by decide] at hfr60 hraw60_0
          have hc60 : Ff_X3_fails 3 v14na0_8.toInt = (r60.toInt, v60na0_1.toInt, v60na0_2.toInt) := Prod.ext hfr60.symm hraw60_0
          have hF0 := hF0.trans (fl_c3_eq hc60)
          have hw : r60 = 0 := hw
          have hw := hw.symm
          subst hw
          have hFe : FX = (0, v60na0_1.toInt, v60na0_2.toInt, v5na0_6.toInt, v14na0_8.toInt, v14na0_9.toInt, v14na0_10.toInt, v14na0_11.toInt, v14na0_12.toInt, a0_13.toInt, (fl_L v5nfa0_4), a0_5_8.toInt, (fl_A fa0_5_10), (fl_A fa0_5_11)) := hF0
          exact W.zret (v := 0) hx hb hr rfl (fun t ht hW => ⟨⟨0, (), rfl, ⟨(Or.inr (rfl)), (congrArg Prod.fst hFe).symm⟩, v60na0_1, v60na0_2, v5na0_6, v14na0_8, v14na0_9, v14na0_10, v14na0_11, v14na0_12, a0_13, v5nfa0_4, a0_5_8, fa0_5_10, fa0_5_11, ⟨bv5na0_6.1, bv5na0_6.2⟩, ⟨bv14na0_8.1, bv14na0_8.2⟩, ⟨bv14na0_9.1, bv14na0_9.2⟩, ⟨bv14na0_10.1, bv14na0_10.2⟩, (congrArg Prod.snd hFe), by rw [ht]; exact hP, va_K.moved hW.alike hK, hD⟩, hS.F ht⟩) hS.2.2 dX3_readFigure_63
        · subst hw
          have hF0 := hF0.trans (if_neg (by decide))
          refine lv_if_eq (tgt := 64) hx hb dX3_readFigure_55 (by decide) (fun _ => ?_) (fun c55 => absurd (by decide +kernel) c55)
          refine lv_aload_n hx hb dX3_readFigure_64 rfl (lv_at hl 1 rfl) ?_
          have hKc := hK.sub (tys' := [(ka0_3, .byte)]) [0] rfl
          refine va_callv (va_runV (As := []) (rest := []) ⟨hx, hb, hml, hown, hts⟩ (f_X3_advance l dC dI H.size a0 a0g_0 (.int v31na0_1) (.int v31na0_2) (.ref a0_4) (.ref a0_5) (.int v5na0_6) (.int a0_13) a0_3 a0_7 v14na0_8 v14na0_9 v14na0_10 v14na0_11 v14na0_12 ka0_3 fa0_3 ba0_7_l ba0_7_u bv14na0_8.1 bv14na0_8.2 bv14na0_9.1 bv14na0_9.2 bv14na0_10.1 bv14na0_10.2) (cwV 0 hts gX3_readFigure_X3_advance rfl rfl rfl zd_X3_advance ⟨Nat.le_of_ble_eq_true rfl, Nat.le_of_ble_eq_true rfl⟩) ⟨ax_blind (fun _ _ _ _ _ => trivial), zr_3 hKc (zp_P2 hP) (q0 := 0) rfl, ax_pre (zp_P2 hP) hKc (zp_D2 hD) (fun _ _ => trivial)⟩ rfl rfl hl.1 rfl (lv_room (Nat.le_of_ble_eq_true rfl)) dX3_readFigure_65 ⟨Nat.le_of_ble_eq_true rfl, Nat.le_of_ble_eq_true rfl⟩) hS (fun q _ h => zp_F2 hD hS hA q h) (zp_F2 hD hS hA) (fun u t H locs ht hvm hw => zx_5 (fun v65na0_8 v65na0_9 v65na0_10 v65na0_11 v65na0_12 => zy_4 (fun bv65na0_8 bv65na0_9 bv65na0_10 hraw65_0 hB hz1 hk1 hS1 => zo2 hB ht hP hD hk1 (zp_F2 hD hS hA) hS1 (fun hP hK1 hD hS => ?_))))
          have hc65 : Ff_X3_advance a0_7.toInt v14na0_9.toInt v14na0_11.toInt v14na0_12.toInt (fl_A fa0_3) = (v65na0_8.toInt, v65na0_9.toInt, v65na0_10.toInt, v65na0_11.toInt, v65na0_12.toInt) := hraw65_0
          have hF0 := hF0.trans (fl_c5_eq hc65)
          refine lv_aload_n hx hb dX3_readFigure_68 rfl (lv_at hl 1 rfl) ?_
          refine va_ldcS hx hb hown (sxc_R13 hE0) dX3_readFigure_69 ?_
          refine va_calli (va_runV (As := [.ref (ad 13)]) (rest := []) ⟨hx, hb, hml, hown, hts⟩ (f_X3_isWord l dC dI H.size a0 (ad 13) a0g_0 (.int v31na0_1) (.int v31na0_2) (.ref a0_3) (.ref a0_4) (.ref a0_5) (.int v5na0_6) (.int a0_7) (.int v65na0_8) (.int v65na0_9) (.int v65na0_12) (.int a0_13) v65na0_10 v65na0_11 5 (sxc 13) bv65na0_10.1 bv65na0_10.2) (cwV 1 hts gX3_readFigure_X3_isWord rfl rfl rfl zd_X3_isWord ⟨Nat.le_of_ble_eq_true rfl, Nat.le_of_ble_eq_true rfl⟩) ⟨ax_blind (fun _ _ _ _ hq => sxc_W_same _ _ _ _ (hq)), zr_3 (zp_K hK) (zp_P1 hP) (q0 := 0) rfl, ax_preE (zp_P1 hP) (zp_K hK) (zp_D1 hD) (fun U hU hW => sxc_W_to (sxc_T_w hE0 (i := 13) (by decide)) hS.2.1 (zp_F1 hD hS hA) hU hW)⟩ rfl rfl hl.1 rfl (lv_room (Nat.le_of_ble_eq_true rfl)) dX3_readFigure_71 ⟨Nat.le_of_ble_eq_true rfl, Nat.le_of_ble_eq_true rfl⟩) hS (fun q _ h => zp_F1 hD hS hA q h) (zp_F1 hD hS hA) (fun r71 u t H locs ht hvm hw hB hz1 hk1 hS1 => zo1 hB ht hP hD hk1 (zp_F1 hD hS hA) hS1 (fun hP hK1 hD hS => ?_))
          obtain ⟨hw, hfr71⟩ := hw
          rw [show ((5 : Nat) : Int) = 5 from rfl] at hfr71
          have hc71 : Ff_X3_isWord v65na0_10.toInt v65na0_11.toInt 5 (fl_A (sxc 13)) = r71.toInt := hfr71.symm
          have hF0 := hF0.trans (fl_lt_eq hc71.symm)
          rcases hw with hw | hw
          · obtain ⟨hw, h71_0, h71_1⟩ := hw
            subst hw
            have l71k0_v65na0_10 : (1 : Int) ≤ v65na0_10.toInt := h71_0
            have u71k0_v65na0_10 : v65na0_10.toInt ≤ (1 : Int) := h71_1
            have hF0 := hF0.trans (if_pos (by decide))
            refine lv_if_eq (tgt := 81) hx hb dX3_readFigure_74 (by decide) (fun c74 => absurd c74 (by decide +kernel)) (fun _ => ?_)
            refine lv_iconst (v := 1) hx hb dX3_readFigure_77 zk_iconst_1 ?_
            refine lv_goto (tgt := 82) hx hb dX3_readFigure_78 (by decide) ?_
            refine lv_istore_n (lv' := [(2, .int 1), (1, .int v14na0_12), (0, .ref a0)]) hx hb dX3_readFigure_82 rfl hl (by decide) rfl (fun ls hl => ?_)
            refine lv_aload_n hx hb dX3_readFigure_83 rfl (lv_at hl 2 rfl) ?_
            refine lv_iload_n hx hb dX3_readFigure_84 rfl (lv_at hl 0 rfl) ?_
            refine lv_iconst (v := 1) hx hb dX3_readFigure_85 zk_iconst_1 ?_
            refine lv_icmp_ne (tgt := 94) hx hb dX3_readFigure_86 (by decide) (fun c86 => absurd (by decide +kernel) c86) (fun _ => ?_)
            refine va_ldcS hx hb hown (sxc_R13 hE0) dX3_readFigure_89 ?_
            refine lv_goto (tgt := 96) hx hb dX3_readFigure_91 (by decide) ?_
            refine lv_iconst (v := 1) hx hb dX3_readFigure_96 zk_iconst_1 ?_
            refine lv_bipush (v := 20) hx hb dX3_readFigure_97 zk_bipush_20 ?_
            have hKc := hK.sub (tys' := [(ka0_3, .byte)]) [0] rfl
            refine va_calli (va_runV (As := [.ref (ad 13), .int 1, .int 20]) (rest := []) ⟨hx, hb, hml, hown, hts⟩ (f_X3_takeWhole l dC dI H.size a0 (ad 13) 1 20 a0g_0 (.ref a0_4) (.ref a0_5) (.int v5na0_6) v31na0_1 v31na0_2 a0_3 a0_7 v65na0_8 v65na0_9 v65na0_10 v65na0_11 v65na0_12 a0_13 ka0_3 fa0_3 5 (sxc 13) ba0_7_l ba0_7_u bv65na0_8.1 bv65na0_8.2 bv65na0_9.1 bv65na0_9.2 (Int.le_trans zq4 l71k0_v65na0_10) (Int.le_trans u71k0_v65na0_10 zq135)) (cwV 3 hts gX3_readFigure_X3_takeWhole rfl rfl rfl zd_X3_takeWhole ⟨Nat.le_of_ble_eq_true rfl, Nat.le_of_ble_eq_true rfl⟩) ⟨ax_blind (fun _ _ _ _ hq => ⟨sxc_W_same _ _ _ _ (hq.1), va_Nw.same rfl rfl (hq.2)⟩), zr_3 hKc (zp_P2 hP) (q0 := 0) rfl, ax_preE (zp_P2 hP) hKc (zp_D2 hD) (fun U hU hW => ⟨sxc_W_to (sxc_T_w hE0 (i := 13) (by decide)) hS.2.1 (zp_F2 hD hS hA) hU hW, va_Nw.warmM hW hE1⟩)⟩ rfl rfl hl.1 rfl (lv_room (Nat.le_of_ble_eq_true rfl)) dX3_readFigure_99 ⟨Nat.le_of_ble_eq_true rfl, Nat.le_of_ble_eq_true rfl⟩) hS (fun q _ h => zp_F2 hD hS hA q h) (zp_F2 hD hS hA) (fun r99 v99na0_13 t H1 locs ht hvm hw => zx_7 (fun v99na0_1 v99na0_2 v99na0_8 v99na0_9 v99na0_10 v99na0_11 v99na0_12 => zy_4 (fun bv99na0_8 bv99na0_9 bv99na0_10 hraw99_0 hB hz1 hk1 hS1 => zo2 hB ht hP hD hk1 (zp_F2 hD hS hA) hS1 (fun hP hK1 hD hS => ?_))))
            generalize H1 = H at hP hS ⊢
            obtain ⟨hw, hfr99⟩ := hw
            rw [show (1 : Int32).toInt = 1 from by decide, show (20 : Int32).toInt = 20 from by decide, show ((5 : Nat) : Int) = 5 from rfl] at hfr99 hraw99_0
            have hc99 : Ff_X3_takeWhole 1 20 v31na0_1.toInt v31na0_2.toInt a0_7.toInt v65na0_8.toInt v65na0_9.toInt v65na0_10.toInt v65na0_11.toInt v65na0_12.toInt a0_13.toInt (fl_A fa0_3) 5 (fl_A (sxc 13)) = (r99.toInt, v99na0_1.toInt, v99na0_2.toInt, v99na0_8.toInt, v99na0_9.toInt, v99na0_10.toInt, v99na0_11.toInt, v99na0_12.toInt, v99na0_13.toInt) := Prod.ext hfr99.symm hraw99_0
            have hF0 := hF0.trans (fl_c9_eq hc99)
            rcases hw with hw | hw
            · obtain ⟨hw, h99⟩ := hw
              subst hw
              have l99k0_v99na0_13 : (1 : Int) ≤ v99na0_13.toInt := Int.le_trans zq1 h99.1
              have u99k0_v99na0_13 : v99na0_13.toInt ≤ (20 : Int) := Int.le_trans h99.2 zq154
              have hF0 := hF0.trans (if_pos (by decide))
              refine lv_if_ne (tgt := 107) hx hb dX3_readFigure_102 (by decide) (fun _ => ?_) (fun c102 => absurd c102 (by decide +kernel))
              refine lv_aload_n hx hb dX3_readFigure_107 rfl (lv_at hl 2 rfl) ?_
              refine va_get (D := (dC, dI)) (ci := 3) (v := .ref a0_5) (C := RX3) (T := TX3) (N := 14) hx hb hts zi_X3_readFigure_3 hown hK hP 0 rfl rfl 5 (by decide) (hts (.fieldLink RX3 22 "WaxTurns$Reade\x72" "draft" "LWaxTurns$Hall;") (zm_X3_readFigure_r1 (List.mem_of_getElem? (i := 0) rfl))) (fun _ h9 => h9) rfl dX3_readFigure_108 ?_
              refine lv_iload_n hx hb dX3_readFigure_111 rfl (lv_at hl 1 rfl) ?_
              refine lv_iload_n hx hb dX3_readFigure_112 rfl (lv_at hl 0 rfl) ?_
              refine lv_aload_n hx hb dX3_readFigure_113 rfl (lv_at hl 2 rfl) ?_
              refine va_get (D := (dC, dI)) (ci := 3) (v := .int v99na0_13) (C := RX3) (T := TX3) (N := 14) hx hb hts zi_X3_readFigure_3 hown hK hP 0 rfl rfl 13 (by decide) (hts (.fieldLink RX3 156 "WaxTurns$Reade\x72" "taken" "I") (zm_X3_readFigure_r1 (List.mem_of_getElem? (i := 4) rfl))) (fun _ h9 => h9) rfl dX3_readFigure_114 ?_
              refine zc_cutc (wc := [(a0_5, .inr (0, [.int a0_5_0, a0_5g_1, a0_5g_2, a0_5g_3, a0_5g_4, a0_5g_5, a0_5g_6, a0_5g_7, .int a0_5_8, a0_5g_9, .ref a0_5_10, .ref a0_5_11, a0_5g_12, a0_5g_13, a0_5g_14])), (a0_5_10, .inl (ka0_5_10, 9, .inl (fa0_5_10))), (a0_5_11, .inl (ka0_5_11, 9, .inl (fa0_5_11)))]) hP hD hS hA [3, 4, 5] (by decide +kernel) rfl (fun hPc hDc hFc hCc => ?_)
              have hKc := hK.sub (tys' := [(ka0_5_10, .int), (ka0_5_11, .int)]) [2, 3] rfl
              refine va_callv (va_runV (As := [.int v14na0_12, .int 1, .int v99na0_13]) (rest := []) ⟨hx, hb, hml, hown, hts⟩ (f_X0_addFigure l dC dI H.size a0_5 v14na0_12 1 v99na0_13 (.int a0_5_0) a0_5g_1 a0_5g_2 a0_5g_3 a0_5g_4 a0_5g_5 a0_5g_6 a0_5g_7 a0_5g_9 a0_5g_12 a0_5g_13 a0_5g_14 a0_5_8 a0_5_10 a0_5_11 ka0_5_10 fa0_5_10 ka0_5_11 fa0_5_11 ) (cwV 3 hts gX3_readFigure_X0_addFigure rfl rfl rfl zd_X0_addFigure ⟨Nat.le_of_ble_eq_true rfl, Nat.le_of_ble_eq_true rfl⟩) ⟨ax_blind (fun _ _ _ _ _ => trivial), zr_0 hKc hPc (q0 := 0) rfl, ax_pre hPc hKc hDc (fun _ _ => trivial)⟩ rfl rfl hl.1 rfl (lv_room (Nat.le_of_ble_eq_true rfl)) dX3_readFigure_117 ⟨Nat.le_of_ble_eq_true rfl, Nat.le_of_ble_eq_true rfl⟩) hS (fun q _ h => hFc q h) hFc (fun u t H locs ht hvm hw => zx_3 (fun v117na0_8 v117nfa0_10 v117nfa0_11 => zy_1 (fun hraw117_0 hB hz1 hk1 hS1 => zo hB ht hS1 (fun hP1 hK1 hD1 hS => ?_))))
              refine zc_backc (w := [(a0, .inr (3, [a0g_0, .int v99na0_1, .int v99na0_2, .ref a0_3, .ref a0_4, .ref a0_5, .int v5na0_6, .int a0_7, .int v99na0_8, .int v99na0_9, .int v99na0_10, .long v99na0_11, .int v99na0_12, .int v99na0_13])), (a0_3, .inl (ka0_3, 900, .inl (fa0_3))), (a0_4, .inl (ka0_4, 12, .inr (.inl (v5nfa0_4)))), (a0_5, .inr (0, [.int a0_5_0, a0_5g_1, a0_5g_2, a0_5g_3, a0_5g_4, a0_5g_5, a0_5g_6, a0_5g_7, .int v117na0_8, a0_5g_9, .ref a0_5_10, .ref a0_5_11, a0_5g_12, a0_5g_13, a0_5g_14])), (a0_5_10, .inl (ka0_5_10, 9, .inl (v117nfa0_10))), (a0_5_11, .inl (ka0_5_11, 9, .inl (v117nfa0_11)))]) hP hD hCc hk1 hFc hP1 hD1 [.inl 0, .inl 1, .inl 2, .inr 0, .inr 1, .inr 2] (by decide +kernel) rfl (fun hP hD => ?_)
              rw [show (1 : Int32).toInt = 1 from by decide] at hraw117_0
              have hc117 : Ff_X0_addFigure v14na0_12.toInt 1 v99na0_13.toInt a0_5_8.toInt (fl_A fa0_5_10) (fl_A fa0_5_11) = (v117na0_8.toInt, (fl_A v117nfa0_10), (fl_A v117nfa0_11)) := hraw117_0
              have hF0 := hF0.trans (fl_c3_eq hc117)
              refine lv_iconst (v := 1) hx hb dX3_readFigure_120 zk_iconst_1 ?_
              have hFe : FX = (1, v99na0_1.toInt, v99na0_2.toInt, v5na0_6.toInt, v99na0_8.toInt, v99na0_9.toInt, v99na0_10.toInt, v99na0_11.toInt, v99na0_12.toInt, v99na0_13.toInt, (fl_L v5nfa0_4), v117na0_8.toInt, (fl_A v117nfa0_10), (fl_A v117nfa0_11)) := hF0
              exact W.zret (v := 1) hx hb hr rfl (fun t ht hW => ⟨⟨1, (), rfl, ⟨(Or.inl (rfl)), (congrArg Prod.fst hFe).symm⟩, v99na0_1, v99na0_2, v5na0_6, v99na0_8, v99na0_9, v99na0_10, v99na0_11, v99na0_12, v99na0_13, v5nfa0_4, v117na0_8, v117nfa0_10, v117nfa0_11, ⟨bv5na0_6.1, bv5na0_6.2⟩, ⟨bv99na0_8.1, bv99na0_8.2⟩, ⟨bv99na0_9.1, bv99na0_9.2⟩, ⟨bv99na0_10.1, bv99na0_10.2⟩, (congrArg Prod.snd hFe), by rw [ht]; exact hP, va_K.moved hW.alike hK, hD⟩, hS.F ht⟩) hS.2.2 dX3_readFigure_121
            · subst hw
              have hF0 := hF0.trans (if_neg (by decide))
              refine lv_if_ne (tgt := 107) hx hb dX3_readFigure_102 (by decide) (fun c102 => absurd (by decide +kernel) c102) (fun _ => ?_)
              refine lv_iconst (v := 0) hx hb dX3_readFigure_105 zk_iconst_0 ?_
              have hFe : FX = (0, v99na0_1.toInt, v99na0_2.toInt, v5na0_6.toInt, v99na0_8.toInt, v99na0_9.toInt, v99na0_10.toInt, v99na0_11.toInt, v99na0_12.toInt, v99na0_13.toInt, (fl_L v5nfa0_4), a0_5_8.toInt, (fl_A fa0_5_10), (fl_A fa0_5_11)) := hF0
              exact W.zret (v := 0) hx hb hr rfl (fun t ht hW => ⟨⟨0, (), rfl, ⟨(Or.inr (rfl)), (congrArg Prod.fst hFe).symm⟩, v99na0_1, v99na0_2, v5na0_6, v99na0_8, v99na0_9, v99na0_10, v99na0_11, v99na0_12, v99na0_13, v5nfa0_4, a0_5_8, fa0_5_10, fa0_5_11, ⟨bv5na0_6.1, bv5na0_6.2⟩, ⟨bv99na0_8.1, bv99na0_8.2⟩, ⟨bv99na0_9.1, bv99na0_9.2⟩, ⟨bv99na0_10.1, bv99na0_10.2⟩, (congrArg Prod.snd hFe), by rw [ht]; exact hP, va_K.moved hW.alike hK, hD⟩, hS.F ht⟩) hS.2.2 dX3_readFigure_106
          · subst hw
            have hF0 := hF0.trans (if_neg (by decide))
            refine lv_if_eq (tgt := 81) hx hb dX3_readFigure_74 (by decide) (fun _ => ?_) (fun c74 => absurd (by decide +kernel) c74)
            refine lv_iconst (v := 2) hx hb dX3_readFigure_81 zk_iconst_2 ?_
            refine lv_istore_n (lv' := [(2, .int 2), (1, .int v14na0_12), (0, .ref a0)]) hx hb dX3_readFigure_82 rfl hl (by decide) rfl (fun ls hl => ?_)
            refine lv_aload_n hx hb dX3_readFigure_83 rfl (lv_at hl 2 rfl) ?_
            refine lv_iload_n hx hb dX3_readFigure_84 rfl (lv_at hl 0 rfl) ?_
            refine lv_iconst (v := 1) hx hb dX3_readFigure_85 zk_iconst_1 ?_
            refine lv_icmp_ne (tgt := 94) hx hb dX3_readFigure_86 (by decide) (fun _ => ?_) (fun c86 => absurd c86 (by decide +kernel))
            refine va_ldcS hx hb hown (sxc_R14 hE0) dX3_readFigure_94 ?_
            refine lv_iconst (v := 1) hx hb dX3_readFigure_96 zk_iconst_1 ?_
            refine lv_bipush (v := 20) hx hb dX3_readFigure_97 zk_bipush_20 ?_
            have hKc := hK.sub (tys' := [(ka0_3, .byte)]) [0] rfl
            refine va_calli (va_runV (As := [.ref (ad 14), .int 1, .int 20]) (rest := []) ⟨hx, hb, hml, hown, hts⟩ (f_X3_takeWhole l dC dI H.size a0 (ad 14) 1 20 a0g_0 (.ref a0_4) (.ref a0_5) (.int v5na0_6) v31na0_1 v31na0_2 a0_3 a0_7 v65na0_8 v65na0_9 v65na0_10 v65na0_11 v65na0_12 a0_13 ka0_3 fa0_3 6 (sxc 14) ba0_7_l ba0_7_u bv65na0_8.1 bv65na0_8.2 bv65na0_9.1 bv65na0_9.2 bv65na0_10.1 bv65na0_10.2) (cwV 3 hts gX3_readFigure_X3_takeWhole rfl rfl rfl zd_X3_takeWhole ⟨Nat.le_of_ble_eq_true rfl, Nat.le_of_ble_eq_true rfl⟩) ⟨ax_blind (fun _ _ _ _ hq => ⟨sxc_W_same _ _ _ _ (hq.1), va_Nw.same rfl rfl (hq.2)⟩), zr_3 hKc (zp_P2 hP) (q0 := 0) rfl, ax_preE (zp_P2 hP) hKc (zp_D2 hD) (fun U hU hW => ⟨sxc_W_to (sxc_T_w hE0 (i := 14) (by decide)) hS.2.1 (zp_F2 hD hS hA) hU hW, va_Nw.warmM hW hE1⟩)⟩ rfl rfl hl.1 rfl (lv_room (Nat.le_of_ble_eq_true rfl)) dX3_readFigure_99 ⟨Nat.le_of_ble_eq_true rfl, Nat.le_of_ble_eq_true rfl⟩) hS (fun q _ h => zp_F2 hD hS hA q h) (zp_F2 hD hS hA) (fun r99 v99na0_13 t H1 locs ht hvm hw => zx_7 (fun v99na0_1 v99na0_2 v99na0_8 v99na0_9 v99na0_10 v99na0_11 v99na0_12 => zy_4 (fun bv99na0_8 bv99na0_9 bv99na0_10 hraw99_0 hB hz1 hk1 hS1 => zo2 hB ht hP hD hk1 (zp_F2 hD hS hA) hS1 (fun hP hK1 hD hS => ?_))))
            generalize H1 = H at hP hS ⊢
            obtain ⟨hw, hfr99⟩ := hw
            rw [show (1 : Int32).toInt = 1 from by decide, show (20 : Int32).toInt = 20 from by decide, show ((6 : Nat) : Int) = 6 from rfl] at hfr99 hraw99_0
            have hc99 : Ff_X3_takeWhole 1 20 v31na0_1.toInt v31na0_2.toInt a0_7.toInt v65na0_8.toInt v65na0_9.toInt v65na0_10.toInt v65na0_11.toInt v65na0_12.toInt a0_13.toInt (fl_A fa0_3) 6 (fl_A (sxc 14)) = (r99.toInt, v99na0_1.toInt, v99na0_2.toInt, v99na0_8.toInt, v99na0_9.toInt, v99na0_10.toInt, v99na0_11.toInt, v99na0_12.toInt, v99na0_13.toInt) := Prod.ext hfr99.symm hraw99_0
            have hF0 := hF0.trans (fl_c9_eq hc99)
            rcases hw with hw | hw
            · obtain ⟨hw, h99⟩ := hw
              subst hw
              have l99k0_v99na0_13 : (1 : Int) ≤ v99na0_13.toInt := Int.le_trans zq1 h99.1
              have u99k0_v99na0_13 : v99na0_13.toInt ≤ (20 : Int) := Int.le_trans h99.2 zq154
              have hF0 := hF0.trans (if_pos (by decide))
              refine lv_if_ne (tgt := 107) hx hb dX3_readFigure_102 (by decide) (fun _ => ?_) (fun c102 => absurd c102 (by decide +kernel))
              refine lv_aload_n hx hb dX3_readFigure_107 rfl (lv_at hl 2 rfl) ?_
              refine va_get (D := (dC, dI)) (ci := 3) (v := .ref a0_5) (C := RX3) (T := TX3) (N := 14) hx hb hts zi_X3_readFigure_3 hown hK hP 0 rfl rfl 5 (by decide) (hts (.fieldLink RX3 22 "WaxTurns$Reade\x72" "draft" "LWaxTurns$Hall;") (zm_X3_readFigure_r1 (List.mem_of_getElem? (i := 0) rfl))) (fun _ h9 => h9) rfl dX3_readFigure_108 ?_
              refine lv_iload_n hx hb dX3_readFigure_111 rfl (lv_at hl 1 rfl) ?_
              refine lv_iload_n hx hb dX3_readFigure_112 rfl (lv_at hl 0 rfl) ?_
              refine lv_aload_n hx hb dX3_readFigure_113 rfl (lv_at hl 2 rfl) ?_
              refine va_get (D := (dC, dI)) (ci := 3) (v := .int v99na0_13) (C := RX3) (T := TX3) (N := 14) hx hb hts zi_X3_readFigure_3 hown hK hP 0 rfl rfl 13 (by decide) (hts (.fieldLink RX3 156 "WaxTurns$Reade\x72" "taken" "I") (zm_X3_readFigure_r1 (List.mem_of_getElem? (i := 4) rfl))) (fun _ h9 => h9) rfl dX3_readFigure_114 ?_
              refine zc_cutc (wc := [(a0_5, .inr (0, [.int a0_5_0, a0_5g_1, a0_5g_2, a0_5g_3, a0_5g_4, a0_5g_5, a0_5g_6, a0_5g_7, .int a0_5_8, a0_5g_9, .ref a0_5_10, .ref a0_5_11, a0_5g_12, a0_5g_13, a0_5g_14])), (a0_5_10, .inl (ka0_5_10, 9, .inl (fa0_5_10))), (a0_5_11, .inl (ka0_5_11, 9, .inl (fa0_5_11)))]) hP hD hS hA [3, 4, 5] (by decide +kernel) rfl (fun hPc hDc hFc hCc => ?_)
              have hKc := hK.sub (tys' := [(ka0_5_10, .int), (ka0_5_11, .int)]) [2, 3] rfl
              refine va_callv (va_runV (As := [.int v14na0_12, .int 2, .int v99na0_13]) (rest := []) ⟨hx, hb, hml, hown, hts⟩ (f_X0_addFigure l dC dI H.size a0_5 v14na0_12 2 v99na0_13 (.int a0_5_0) a0_5g_1 a0_5g_2 a0_5g_3 a0_5g_4 a0_5g_5 a0_5g_6 a0_5g_7 a0_5g_9 a0_5g_12 a0_5g_13 a0_5g_14 a0_5_8 a0_5_10 a0_5_11 ka0_5_10 fa0_5_10 ka0_5_11 fa0_5_11 ) (cwV 3 hts gX3_readFigure_X0_addFigure rfl rfl rfl zd_X0_addFigure ⟨Nat.le_of_ble_eq_true rfl, Nat.le_of_ble_eq_true rfl⟩) ⟨ax_blind (fun _ _ _ _ _ => trivial), zr_0 hKc hPc (q0 := 0) rfl, ax_pre hPc hKc hDc (fun _ _ => trivial)⟩ rfl rfl hl.1 rfl (lv_room (Nat.le_of_ble_eq_true rfl)) dX3_readFigure_117 ⟨Nat.le_of_ble_eq_true rfl, Nat.le_of_ble_eq_true rfl⟩) hS (fun q _ h => hFc q h) hFc (fun u t H locs ht hvm hw => zx_3 (fun v117na0_8 v117nfa0_10 v117nfa0_11 => zy_1 (fun hraw117_0 hB hz1 hk1 hS1 => zo hB ht hS1 (fun hP1 hK1 hD1 hS => ?_))))
              refine zc_backc (w := [(a0, .inr (3, [a0g_0, .int v99na0_1, .int v99na0_2, .ref a0_3, .ref a0_4, .ref a0_5, .int v5na0_6, .int a0_7, .int v99na0_8, .int v99na0_9, .int v99na0_10, .long v99na0_11, .int v99na0_12, .int v99na0_13])), (a0_3, .inl (ka0_3, 900, .inl (fa0_3))), (a0_4, .inl (ka0_4, 12, .inr (.inl (v5nfa0_4)))), (a0_5, .inr (0, [.int a0_5_0, a0_5g_1, a0_5g_2, a0_5g_3, a0_5g_4, a0_5g_5, a0_5g_6, a0_5g_7, .int v117na0_8, a0_5g_9, .ref a0_5_10, .ref a0_5_11, a0_5g_12, a0_5g_13, a0_5g_14])), (a0_5_10, .inl (ka0_5_10, 9, .inl (v117nfa0_10))), (a0_5_11, .inl (ka0_5_11, 9, .inl (v117nfa0_11)))]) hP hD hCc hk1 hFc hP1 hD1 [.inl 0, .inl 1, .inl 2, .inr 0, .inr 1, .inr 2] (by decide +kernel) rfl (fun hP hD => ?_)
              rw [show (2 : Int32).toInt = 2 from by decide] at hraw117_0
              have hc117 : Ff_X0_addFigure v14na0_12.toInt 2 v99na0_13.toInt a0_5_8.toInt (fl_A fa0_5_10) (fl_A fa0_5_11) = (v117na0_8.toInt, (fl_A v117nfa0_10), (fl_A v117nfa0_11)) := hraw117_0
              have hF0 := hF0.trans (fl_c3_eq hc117)
              refine lv_iconst (v := 1) hx hb dX3_readFigure_120 zk_iconst_1 ?_
              have hFe : FX = (1, v99na0_1.toInt, v99na0_2.toInt, v5na0_6.toInt, v99na0_8.toInt, v99na0_9.toInt, v99na0_10.toInt, v99na0_11.toInt, v99na0_12.toInt, v99na0_13.toInt, (fl_L v5nfa0_4), v117na0_8.toInt, (fl_A v117nfa0_10), (fl_A v117nfa0_11)) := hF0
              exact W.zret (v := 1) hx hb hr rfl (fun t ht hW => ⟨⟨1, (), rfl, ⟨(Or.inl (rfl)), (congrArg Prod.fst hFe).symm⟩, v99na0_1, v99na0_2, v5na0_6, v99na0_8, v99na0_9, v99na0_10, v99na0_11, v99na0_12, v99na0_13, v5nfa0_4, v117na0_8, v117nfa0_10, v117nfa0_11, ⟨bv5na0_6.1, bv5na0_6.2⟩, ⟨bv99na0_8.1, bv99na0_8.2⟩, ⟨bv99na0_9.1, bv99na0_9.2⟩, ⟨bv99na0_10.1, bv99na0_10.2⟩, (congrArg Prod.snd hFe), by rw [ht]; exact hP, va_K.moved hW.alike hK, hD⟩, hS.F ht⟩) hS.2.2 dX3_readFigure_121
            · subst hw
              have hF0 := hF0.trans (if_neg (by decide))
              refine lv_if_ne (tgt := 107) hx hb dX3_readFigure_102 (by decide) (fun c102 => absurd (by decide +kernel) c102) (fun _ => ?_)
              refine lv_iconst (v := 0) hx hb dX3_readFigure_105 zk_iconst_0 ?_
              have hFe : FX = (0, v99na0_1.toInt, v99na0_2.toInt, v5na0_6.toInt, v99na0_8.toInt, v99na0_9.toInt, v99na0_10.toInt, v99na0_11.toInt, v99na0_12.toInt, v99na0_13.toInt, (fl_L v5nfa0_4), a0_5_8.toInt, (fl_A fa0_5_10), (fl_A fa0_5_11)) := hF0
              exact W.zret (v := 0) hx hb hr rfl (fun t ht hW => ⟨⟨0, (), rfl, ⟨(Or.inr (rfl)), (congrArg Prod.fst hFe).symm⟩, v99na0_1, v99na0_2, v5na0_6, v99na0_8, v99na0_9, v99na0_10, v99na0_11, v99na0_12, v99na0_13, v5nfa0_4, a0_5_8, fa0_5_10, fa0_5_11, ⟨bv5na0_6.1, bv5na0_6.2⟩, ⟨bv99na0_8.1, bv99na0_8.2⟩, ⟨bv99na0_9.1, bv99na0_9.2⟩, ⟨bv99na0_10.1, bv99na0_10.2⟩, (congrArg Prod.snd hFe), by rw [ht]; exact hP, va_K.moved hW.alike hK, hD⟩, hS.F ht⟩) hS.2.2 dX3_readFigure_106
      · subst hw
        have hF0 := hF0.trans (if_neg (by decide))
        refine lv_if_ne (tgt := 39) hx hb dX3_readFigure_34 (by decide) (fun c34 => absurd (by decide +kernel) c34) (fun _ => ?_)
        refine lv_iconst (v := 0) hx hb dX3_readFigure_37 zk_iconst_0 ?_
        have hFe : FX = (0, v31na0_1.toInt, v31na0_2.toInt, v5na0_6.toInt, v14na0_8.toInt, v14na0_9.toInt, v14na0_10.toInt, v14na0_11.toInt, v14na0_12.toInt, a0_13.toInt, (fl_L v5nfa0_4), a0_5_8.toInt, (fl_A fa0_5_10), (fl_A fa0_5_11)) := hF0
        exact W.zret (v := 0) hx hb hr rfl (fun t ht hW => ⟨⟨0, (), rfl, ⟨(Or.inr (rfl)), (congrArg Prod.fst hFe).symm⟩, v31na0_1, v31na0_2, v5na0_6, v14na0_8, v14na0_9, v14na0_10, v14na0_11, v14na0_12, a0_13, v5nfa0_4, a0_5_8, fa0_5_10, fa0_5_11, ⟨bv5na0_6.1, bv5na0_6.2⟩, ⟨bv14na0_8.1, bv14na0_8.2⟩, ⟨bv14na0_9.1, bv14na0_9.2⟩, ⟨bv14na0_10.1, bv14na0_10.2⟩, (congrArg Prod.snd hFe), by rw [ht]; exact hP, va_K.moved hW.alike hK, hD⟩, hS.F ht⟩) hS.2.2 dX3_readFigure_38
    · subst hw
      have hF0 := hF0.trans (if_neg (by decide))
      refine lv_if_eq (tgt := 37) hx hb dX3_readFigure_17 (by decide) (fun _ => ?_) (fun c17 => absurd (by decide +kernel) c17)
      refine lv_iconst (v := 0) hx hb dX3_readFigure_37 zk_iconst_0 ?_
      have hFe : FX = (0, v14na0_1.toInt, v14na0_2.toInt, v5na0_6.toInt, v14na0_8.toInt, v14na0_9.toInt, v14na0_10.toInt, v14na0_11.toInt, v14na0_12.toInt, a0_13.toInt, (fl_L v5nfa0_4), a0_5_8.toInt, (fl_A fa0_5_10), (fl_A fa0_5_11)) := hF0
      exact W.zret (v := 0) hx hb hr rfl (fun t ht hW => ⟨⟨0, (), rfl, ⟨(Or.inr (rfl)), (congrArg Prod.fst hFe).symm⟩, v14na0_1, v14na0_2, v5na0_6, v14na0_8, v14na0_9, v14na0_10, v14na0_11, v14na0_12, a0_13, v5nfa0_4, a0_5_8, fa0_5_10, fa0_5_11, ⟨bv5na0_6.1, bv5na0_6.2⟩, ⟨bv14na0_8.1, bv14na0_8.2⟩, ⟨bv14na0_9.1, bv14na0_9.2⟩, ⟨bv14na0_10.1, bv14na0_10.2⟩, (congrArg Prod.snd hFe), by rw [ht]; exact hP, va_K.moved hW.alike hK, hD⟩, hS.F ht⟩) hS.2.2 dX3_readFigure_38
  · subst hw
    have hF0 := hF0.trans (if_neg (by decide))
    refine lv_if_eq (tgt := 37) hx hb dX3_readFigure_8 (by decide) (fun _ => ?_) (fun c8 => absurd (by decide +kernel) c8)
    refine lv_iconst (v := 0) hx hb dX3_readFigure_37 zk_iconst_0 ?_
    have hFe : FX = (0, v5na0_1.toInt, v5na0_2.toInt, v5na0_6.toInt, v5na0_8.toInt, v5na0_9.toInt, v5na0_10.toInt, v5na0_11.toInt, v5na0_12.toInt, a0_13.toInt, (fl_L v5nfa0_4), a0_5_8.toInt, (fl_A fa0_5_10), (fl_A fa0_5_11)) := hF0
    exact W.zret (v := 0) hx hb hr rfl (fun t ht hW => ⟨⟨0, (), rfl, ⟨(Or.inr (rfl)), (congrArg Prod.fst hFe).symm⟩, v5na0_1, v5na0_2, v5na0_6, v5na0_8, v5na0_9, v5na0_10, v5na0_11, v5na0_12, a0_13, v5nfa0_4, a0_5_8, fa0_5_10, fa0_5_11, ⟨bv5na0_6.1, bv5na0_6.2⟩, ⟨bv5na0_8.1, bv5na0_8.2⟩, ⟨bv5na0_9.1, bv5na0_9.2⟩, ⟨bv5na0_10.1, bv5na0_10.2⟩, (congrArg Prod.snd hFe), by rw [ht]; exact hP, va_K.moved hW.alike hK, hD⟩, hS.F ht⟩) hS.2.2 dX3_readFigure_38
end P311_02_f
