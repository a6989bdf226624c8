section P121_safe
set_option maxHeartbeats 4000000 in
set_option maxRecDepth 100000 in
theorem c_X7_dares (l : Launch) (dC : Nat → ClassId) (dI : Nat → Nat → Nat) (sz : Nat) (a0 : Nat) (a1 : Int32) (a2 : Int32) (a3 : Int32) (a4 : Int32) (a0g_0 a0g_1 a0g_2 a0g_3 a0g_4 a0g_5 a0g_6 a0g_9 a0g_10 : Value) (a0_7 : Nat) (a0_8 : Int32) (a0_7_0 : Int32) (a0_7g_1 a0_7g_2 a0_7g_3 a0_7g_4 a0_7g_5 a0_7g_6 a0_7g_7 a0_7g_8 a0_7g_9 a0_7g_10 a0_7g_11 a0_7g_12 a0_7g_13 a0_7g_14 : Value) (ba0_7_0_l : (0 : Int) ≤ a0_7_0.toInt) (ba0_7_0_u : a0_7_0.toInt ≤ (9 : Int)) : zm l yX7_dares wsX7_dares ({ frames := 2, cells := 0, slots := 0, locals := 45 }) [.ref a0, .int a1, .int a2, .int a3, .int a4] dC dI sz [(a0, .inr (7, [a0g_0, a0g_1, a0g_2, a0g_3, a0g_4, a0g_5, a0g_6, .ref a0_7, .int a0_8, a0g_9, a0g_10])), (a0_7, .inr (0, [.int a0_7_0, a0_7g_1, a0_7g_2, a0_7g_3, a0_7g_4, a0_7g_5, a0_7g_6, a0_7g_7, a0_7g_8, a0_7g_9, a0_7g_10, a0_7g_11, a0_7g_12, a0_7g_13, a0_7g_14]))] [] (fun A _ => True) (fun A => va_Qi (fun (r : Int32) (_ : Unit) => True) (fun (_ : Unit) (t : State) => ∃ na0_8 : Int32, ax_B dC dI A [(a0, .inr (7, [a0g_0, a0g_1, a0g_2, a0g_3, a0g_4, a0g_5, a0g_6, .ref a0_7, .int na0_8, a0g_9, a0g_10])), (a0_7, .inr (0, [.int a0_7_0, a0_7g_1, a0_7g_2, a0_7g_3, a0_7g_4, a0_7g_5, a0_7g_6, a0_7g_7, a0_7g_8, a0_7g_9, a0_7g_10, a0_7g_11, a0_7g_12, a0_7g_13, a0_7g_14]))] [] t) A) := by
  refine zh (cc := cX7_dares) (maxL := 6) (ret := (some .int)) zn_RX7 rfl (Nat.le_of_ble_eq_true rfl) (fun p e s m below meth c A ls hx hb hml hr hts (hown : s.vm.findClass RX7 = some m.cls) hlocks hA hS hP hK hD hE (hl : lv_has ls 6 [(0, .ref a0), (1, .int a1), (2, .int a2), (3, .int a3), (4, .int a4)]) => ?_)
  refine lv_aload_n hx hb dX7_dares_0 rfl (lv_at hl 0 rfl) ?_
  refine lv_iload_n hx hb dX7_dares_1 rfl (lv_at hl 1 rfl) ?_
  refine lv_iconst (v := 0) hx hb dX7_dares_2 zk_iconst_0 ?_
  refine lv_bipush (v := 9) hx hb dX7_dares_3 zk_bipush_9 ?_
  refine va_calli (va_runV (As := [.int a1, .int 0, .int 9]) (rest := []) ⟨hx, hb, hml, hown, hts⟩ (c_X7_troubleOfNumber l dC dI s.heap.size a0 a1 0 9 a0g_0 a0g_1 a0g_2 a0g_3 a0g_4 a0g_5 a0g_6 (.int a0_8) a0g_9 a0g_10 a0_7 a0_7_0 a0_7g_1 a0_7g_2 a0_7g_3 a0_7g_4 a0_7g_5 a0_7g_6 a0_7g_7 a0_7g_8 a0_7g_9 a0_7g_10 a0_7g_11 a0_7g_12 a0_7g_13 a0_7g_14 ba0_7_0_l ba0_7_0_u) (cwV 3 hts gX7_dares_X7_troubleOfNumber rfl rfl rfl zd_X7_troubleOfNumber ⟨Nat.le_of_ble_eq_true rfl, Nat.le_of_ble_eq_true rfl⟩) ⟨ax_blind (fun _ _ _ _ _ => trivial), zr_7 (zp_K hK) (zp_P2 hP) (q0 := 0) rfl, ax_pre (zp_P2 hP) (zp_K hK) (zp_D2 hD) (fun _ _ => trivial)⟩ rfl rfl hl.1 rfl (lv_room (Nat.le_of_ble_eq_true rfl)) dX7_dares_5 ⟨Nat.le_of_ble_eq_true rfl, Nat.le_of_ble_eq_true rfl⟩) hS (fun q _ h => zp_F2 hD hS hA q h) (zp_F2 hD hS hA) (fun r5 u t H locs ht hvm hw hB hz1 hk1 hS1 => zo2 hB ht hP hD hk1 (zp_F2 hD hS hA) hS1 (fun hP hK1 hD hS => ?_))
  rcases hw with hw | hw | hw
  · obtain ⟨hw, fh5, h5⟩ := hw
    subst hw
    have l5k0_a0_7_0 : (1 : Int) ≤ a0_7_0.toInt := fh5
    have l5k0_a1 : (0 : Int) ≤ a1.toInt := Int.le_trans zq5 h5.1
    have u5k0_a1 : a1.toInt ≤ (9 : Int) := Int.le_trans h5.2 zq3
    refine lv_istore (lv' := [(5, .int 0), (0, .ref a0), (1, .int a1), (2, .int a2), (3, .int a3), (4, .int a4)]) hx hb dX7_dares_8 hl (by decide) rfl (fun ls hl => ?_)
    refine lv_iload hx hb dX7_dares_10 (lv_at hl 0 rfl) ?_
    refine lv_if_eq (tgt := 24) hx hb dX7_dares_12 (by decide) (fun _ => ?_) (fun c12 => absurd (by decide +kernel) c12)
    refine lv_aload_n hx hb dX7_dares_24 rfl (lv_at hl 1 rfl) ?_
    refine lv_iload hx hb dX7_dares_25 (lv_at hl 5 rfl) ?_
    refine lv_if_eq (tgt := 38) hx hb dX7_dares_27 (by decide) (fun c27 => ?_) (fun c27 => ?_)
    · have gc27 := ai_eq c27
      have u27t_a4 : a4.toInt ≤ (0 : Int) := Int.le_trans (Int.le_of_eq gc27) zq6
      have l27t_a4 : (0 : Int) ≤ a4.toInt := Int.le_trans zq5 (Int.le_of_eq gc27.symm)
      refine lv_iload_n hx hb dX7_dares_38 rfl (lv_at hl 2 rfl) ?_
      refine lv_iload_n hx hb dX7_dares_39 rfl (lv_at hl 3 rfl) ?_
      refine lv_iload_n hx hb dX7_dares_40 rfl (lv_at hl 4 rfl) ?_
      refine va_calli (va_runS (As := [.int a1, .int a2, .int a3]) (rest := [.ref a0]) ⟨hx, hb, hml, hown, hts⟩ (c_X7_figureShare l dC dI H.size a1 a2 a3 ) (va_cwS 3 hts gX7_dares_X7_figureShare rfl rfl rfl zd_X7_figureShare.2 ⟨Nat.le_of_ble_eq_true rfl, Nat.le_of_ble_eq_true rfl⟩) ⟨ax_blind (fun _ _ _ _ _ => trivial), ax_pre (zp_P0 hP) (zp_K hK) (zp_D0 hD) (fun _ _ => trivial)⟩ rfl rfl hl.1 rfl (lv_room (Nat.le_of_ble_eq_true rfl)) dX7_dares_41 ⟨Nat.le_of_ble_eq_true rfl, Nat.le_of_ble_eq_true rfl⟩) hS (fun q _ h => zp_F0 hD hS hA q h) (zp_F0 hD hS hA) (fun r41 u t H locs ht hvm hw hB hz1 hk1 hS1 => zo0 hB ht hP hD hk1 (zp_F0 hD hS hA) hS1 (fun hP hK1 hD hS => ?_))
      refine va_calli (va_runV (As := [.int r41]) (rest := []) ⟨hx, hb, hml, hown, hts⟩ (c_X7_answered l dC dI H.size a0 r41 a0g_0 a0g_1 a0g_2 a0g_3 a0g_4 a0g_5 a0g_6 (.ref a0_7) a0g_9 a0g_10 a0_8 ) (cwV 1 hts gX7_dares_X7_answered rfl rfl rfl zd_X7_answered ⟨Nat.le_of_ble_eq_true rfl, Nat.le_of_ble_eq_true rfl⟩) ⟨ax_blind (fun _ _ _ _ _ => trivial), zr_7 (zp_K hK) (zp_P1 hP) (q0 := 0) rfl, ax_pre (zp_P1 hP) (zp_K hK) (zp_D1 hD) (fun _ _ => trivial)⟩ rfl rfl hl.1 rfl (lv_room (Nat.le_of_ble_eq_true rfl)) dX7_dares_44 ⟨Nat.le_of_ble_eq_true rfl, Nat.le_of_ble_eq_true rfl⟩) hS (fun q _ h => zp_F1 hD hS hA q h) (zp_F1 hD hS hA) (fun r44 u t H locs ht hvm hw => zx_1 (fun v44na0_8 hB hz1 hk1 hS1 => zo1 hB ht hP hD hk1 (zp_F1 hD hS hA) hS1 (fun hP hK1 hD hS => ?_)))
      have hw : r44 = r41 := hw
      have hw := hw.symm
      subst hw
      exact W.iret (v := r41) hx hb hr (fun t ht hW => ⟨⟨r41, (), rfl, trivial, v44na0_8, by rw [ht]; exact hP, va_K.moved hW.alike hK, hD⟩, hS.F ht⟩) hS.2.2 dX7_dares_47
    · have gc27 := ai_ne c27
      refine lv_iload_n hx hb dX7_dares_30 rfl (lv_at hl 3 rfl) ?_
      refine lv_iload_n hx hb dX7_dares_31 rfl (lv_at hl 4 rfl) ?_
      refine va_calli (va_runS (As := [.int a2, .int a3]) (rest := [.ref a0]) ⟨hx, hb, hml, hown, hts⟩ (c_X7_attendantShare l dC dI H.size a2 a3 ) (va_cwS 2 hts gX7_dares_X7_attendantShare rfl rfl rfl zd_X7_attendantShare.2 ⟨Nat.le_of_ble_eq_true rfl, Nat.le_of_ble_eq_true rfl⟩) ⟨ax_blind (fun _ _ _ _ _ => trivial), ax_pre (zp_P0 hP) (zp_K hK) (zp_D0 hD) (fun _ _ => trivial)⟩ rfl rfl hl.1 rfl (lv_room (Nat.le_of_ble_eq_true rfl)) dX7_dares_32 ⟨Nat.le_of_ble_eq_true rfl, Nat.le_of_ble_eq_true rfl⟩) hS (fun q _ h => zp_F0 hD hS hA q h) (zp_F0 hD hS hA) (fun r32 u t H locs ht hvm hw hB hz1 hk1 hS1 => zo0 hB ht hP hD hk1 (zp_F0 hD hS hA) hS1 (fun hP hK1 hD hS => ?_))
      rcases hw with hw | hw | hw | hw
      · subst hw
        refine lv_goto (tgt := 44) hx hb dX7_dares_35 (by decide) ?_
        refine va_calli (va_runV (As := [.int 3]) (rest := []) ⟨hx, hb, hml, hown, hts⟩ (c_X7_answered l dC dI H.size a0 3 a0g_0 a0g_1 a0g_2 a0g_3 a0g_4 a0g_5 a0g_6 (.ref a0_7) a0g_9 a0g_10 a0_8 ) (cwV 1 hts gX7_dares_X7_answered rfl rfl rfl zd_X7_answered ⟨Nat.le_of_ble_eq_true rfl, Nat.le_of_ble_eq_true rfl⟩) ⟨ax_blind (fun _ _ _ _ _ => trivial), zr_7 (zp_K hK) (zp_P1 hP) (q0 := 0) rfl, ax_pre (zp_P1 hP) (zp_K hK) (zp_D1 hD) (fun _ _ => trivial)⟩ rfl rfl hl.1 rfl (lv_room (Nat.le_of_ble_eq_true rfl)) dX7_dares_44 ⟨Nat.le_of_ble_eq_true rfl, Nat.le_of_ble_eq_true rfl⟩) hS (fun q _ h => zp_F1 hD hS hA q h) (zp_F1 hD hS hA) (fun r44 u t H locs ht hvm hw => zx_1 (fun v44na0_8 hB hz1 hk1 hS1 => zo1 hB ht hP hD hk1 (zp_F1 hD hS hA) hS1 (fun hP hK1 hD hS => ?_)))
        have hw : r44 = 3 := hw
        have hw := hw.symm
        subst hw
        exact W.iret (v := 3) hx hb hr (fun t ht hW => ⟨⟨3, (), rfl, trivial, v44na0_8, by rw [ht]; exact hP, va_K.moved hW.alike hK, hD⟩, hS.F ht⟩) hS.2.2 dX7_dares_47
      · obtain ⟨hw, h32_0, h32_1, h32_2, h32_3⟩ := hw
        subst hw
        have l32k1_a2 : (0 : Int) ≤ a2.toInt := h32_0
        have u32k1_a2 : a2.toInt ≤ (0 : Int) := h32_1
        have l32k1_a3 : (0 : Int) ≤ a3.toInt := h32_2
        have u32k1_a3 : a3.toInt ≤ (0 : Int) := h32_3
        refine lv_goto (tgt := 44) hx hb dX7_dares_35 (by decide) ?_
        refine va_calli (va_runV (As := [.int 1]) (rest := []) ⟨hx, hb, hml, hown, hts⟩ (c_X7_answered l dC dI H.size a0 1 a0g_0 a0g_1 a0g_2 a0g_3 a0g_4 a0g_5 a0g_6 (.ref a0_7) a0g_9 a0g_10 a0_8 ) (cwV 1 hts gX7_dares_X7_answered rfl rfl rfl zd_X7_answered ⟨Nat.le_of_ble_eq_true rfl, Nat.le_of_ble_eq_true rfl⟩) ⟨ax_blind (fun _ _ _ _ _ => trivial), zr_7 (zp_K hK) (zp_P1 hP) (q0 := 0) rfl, ax_pre (zp_P1 hP) (zp_K hK) (zp_D1 hD) (fun _ _ => trivial)⟩ rfl rfl hl.1 rfl (lv_room (Nat.le_of_ble_eq_true rfl)) dX7_dares_44 ⟨Nat.le_of_ble_eq_true rfl, Nat.le_of_ble_eq_true rfl⟩) hS (fun q _ h => zp_F1 hD hS hA q h) (zp_F1 hD hS hA) (fun r44 u t H locs ht hvm hw => zx_1 (fun v44na0_8 hB hz1 hk1 hS1 => zo1 hB ht hP hD hk1 (zp_F1 hD hS hA) hS1 (fun hP hK1 hD hS => ?_)))
        have hw : r44 = 1 := hw
        have hw := hw.symm
        subst hw
        exact W.iret (v := 1) hx hb hr (fun t ht hW => ⟨⟨1, (), rfl, trivial, v44na0_8, by rw [ht]; exact hP, va_K.moved hW.alike hK, hD⟩, hS.F ht⟩) hS.2.2 dX7_dares_47
      · obtain ⟨hw, h32_0, h32_1⟩ := hw
        subst hw
        have l32k2_a3 : (0 : Int) ≤ a3.toInt := h32_0
        have u32k2_a3 : a3.toInt ≤ (0 : Int) := h32_1
        refine lv_goto (tgt := 44) hx hb dX7_dares_35 (by decide) ?_
        refine va_calli (va_runV (As := [.int 0]) (rest := []) ⟨hx, hb, hml, hown, hts⟩ (c_X7_answered l dC dI H.size a0 0 a0g_0 a0g_1 a0g_2 a0g_3 a0g_4 a0g_5 a0g_6 (.ref a0_7) a0g_9 a0g_10 a0_8 ) (cwV 1 hts gX7_dares_X7_answered rfl rfl rfl zd_X7_answered ⟨Nat.le_of_ble_eq_true rfl, Nat.le_of_ble_eq_true rfl⟩) ⟨ax_blind (fun _ _ _ _ _ => trivial), zr_7 (zp_K hK) (zp_P1 hP) (q0 := 0) rfl, ax_pre (zp_P1 hP) (zp_K hK) (zp_D1 hD) (fun _ _ => trivial)⟩ rfl rfl hl.1 rfl (lv_room (Nat.le_of_ble_eq_true rfl)) dX7_dares_44 ⟨Nat.le_of_ble_eq_true rfl, Nat.le_of_ble_eq_true rfl⟩) hS (fun q _ h => zp_F1 hD hS hA q h) (zp_F1 hD hS hA) (fun r44 u t H locs ht hvm hw => zx_1 (fun v44na0_8 hB hz1 hk1 hS1 => zo1 hB ht hP hD hk1 (zp_F1 hD hS hA) hS1 (fun hP hK1 hD hS => ?_)))
        have hw : r44 = 0 := hw
        have hw := hw.symm
        subst hw
        exact W.iret (v := 0) hx hb hr (fun t ht hW => ⟨⟨0, (), rfl, trivial, v44na0_8, by rw [ht]; exact hP, va_K.moved hW.alike hK, hD⟩, hS.F ht⟩) hS.2.2 dX7_dares_47
      · obtain ⟨hw, h32_0, h32_1⟩ := hw
        subst hw
        have l32k3_a2 : (0 : Int) ≤ a2.toInt := h32_0
        have u32k3_a2 : a2.toInt ≤ (0 : Int) := h32_1
        refine lv_goto (tgt := 44) hx hb dX7_dares_35 (by decide) ?_
        refine va_calli (va_runV (As := [.int (-1)]) (rest := []) ⟨hx, hb, hml, hown, hts⟩ (c_X7_answered l dC dI H.size a0 (-1) a0g_0 a0g_1 a0g_2 a0g_3 a0g_4 a0g_5 a0g_6 (.ref a0_7) a0g_9 a0g_10 a0_8 ) (cwV 1 hts gX7_dares_X7_answered rfl rfl rfl zd_X7_answered ⟨Nat.le_of_ble_eq_true rfl, Nat.le_of_ble_eq_true rfl⟩) ⟨ax_blind (fun _ _ _ _ _ => trivial), zr_7 (zp_K hK) (zp_P1 hP) (q0 := 0) rfl, ax_pre (zp_P1 hP) (zp_K hK) (zp_D1 hD) (fun _ _ => trivial)⟩ rfl rfl hl.1 rfl (lv_room (Nat.le_of_ble_eq_true rfl)) dX7_dares_44 ⟨Nat.le_of_ble_eq_true rfl, Nat.le_of_ble_eq_true rfl⟩) hS (fun q _ h => zp_F1 hD hS hA q h) (zp_F1 hD hS hA) (fun r44 u t H locs ht hvm hw => zx_1 (fun v44na0_8 hB hz1 hk1 hS1 => zo1 hB ht hP hD hk1 (zp_F1 hD hS hA) hS1 (fun hP hK1 hD hS => ?_)))
        have hw : r44 = (-1) := hw
        have hw := hw.symm
        subst hw
        exact W.iret (v := (-1)) hx hb hr (fun t ht hW => ⟨⟨(-1), (), rfl, trivial, v44na0_8, by rw [ht]; exact hP, va_K.moved hW.alike hK, hD⟩, hS.F ht⟩) hS.2.2 dX7_dares_47
  · subst hw
    refine lv_istore (lv' := [(5, .int 1), (0, .ref a0), (1, .int a1), (2, .int a2), (3, .int a3), (4, .int a4)]) hx hb dX7_dares_8 hl (by decide) rfl (fun ls hl => ?_)
    refine lv_iload hx hb dX7_dares_10 (lv_at hl 0 rfl) ?_
    refine lv_if_eq (tgt := 24) hx hb dX7_dares_12 (by decide) (fun c12 => absurd c12 (by decide +kernel)) (fun _ => ?_)
    refine lv_aload_n hx hb dX7_dares_15 rfl (lv_at hl 1 rfl) ?_
    refine lv_iload hx hb dX7_dares_16 (lv_at hl 0 rfl) ?_
    refine va_put (D := (dC, dI)) (ci := 7) (v := .int 1) (ty := .int) (C := RX7) (T := TX7) (N := 11) hx hb hts zi_X7_dares_7 tyX7 tyX7_ok nmX7 hown hK hP hD hS 0 rfl rfl 8 (by decide) (hts (.fieldLink RX7 61 "WaxTurns" "latestTrouble" "I") (zm_X7_dares_r1 (List.mem_of_getElem? (i := 0) rfl))) (fun _ h9 => h9) rfl (tyX7_ok 8 (by decide)) rfl rfl (Nat.le_of_ble_eq_true rfl) dX7_dares_18 (fun H locs hP hD hS => ?_)
    refine zs_0 (y := (a0, .inr (7, [a0g_0, a0g_1, a0g_2, a0g_3, a0g_4, a0g_5, a0g_6, .ref a0_7, .int 1, a0g_9, a0g_10]))) hP hD rfl (fun hP hD => ?_)
    refine lv_bipush (v := (-100)) hx hb dX7_dares_21 zk_bipush_n100 ?_
    exact W.iret (v := (-100)) hx hb hr (fun t ht hW => ⟨⟨(-100), (), rfl, trivial, 1, by rw [ht]; exact hP, va_K.moved hW.alike hK, hD⟩, hS.F ht⟩) hS.2.2 dX7_dares_23
  · subst hw
    refine lv_istore (lv' := [(5, .int 2), (0, .ref a0), (1, .int a1), (2, .int a2), (3, .int a3), (4, .int a4)]) hx hb dX7_dares_8 hl (by decide) rfl (fun ls hl => ?_)
    refine lv_iload hx hb dX7_dares_10 (lv_at hl 0 rfl) ?_
    refine lv_if_eq (tgt := 24) hx hb dX7_dares_12 (by decide) (fun c12 => absurd c12 (by decide +kernel)) (fun _ => ?_)
    refine lv_aload_n hx hb dX7_dares_15 rfl (lv_at hl 1 rfl) ?_
    refine lv_iload hx hb dX7_dares_16 (lv_at hl 0 rfl) ?_
    refine va_put (D := (dC, dI)) (ci := 7) (v := .int 2) (ty := .int) (C := RX7) (T := TX7) (N := 11) hx hb hts zi_X7_dares_7 tyX7 tyX7_ok nmX7 hown hK hP hD hS 0 rfl rfl 8 (by decide) (hts (.fieldLink RX7 61 "WaxTurns" "latestTrouble" "I") (zm_X7_dares_r1 (List.mem_of_getElem? (i := 0) rfl))) (fun _ h9 => h9) rfl (tyX7_ok 8 (by decide)) rfl rfl (Nat.le_of_ble_eq_true rfl) dX7_dares_18 (fun H locs hP hD hS => ?_)
    refine zs_0 (y := (a0, .inr (7, [a0g_0, a0g_1, a0g_2, a0g_3, a0g_4, a0g_5, a0g_6, .ref a0_7, .int 2, a0g_9, a0g_10]))) hP hD rfl (fun hP hD => ?_)
    refine lv_bipush (v := (-100)) hx hb dX7_dares_21 zk_bipush_n100 ?_
    exact W.iret (v := (-100)) hx hb hr (fun t ht hW => ⟨⟨(-100), (), rfl, trivial, 2, by rw [ht]; exact hP, va_K.moved hW.alike hK, hD⟩, hS.F ht⟩) hS.2.2 dX7_dares_23

set_option maxHeartbeats 4000000 in
set_option maxRecDepth 100000 in
theorem c_X7_rests (l : Launch) (dC : Nat → ClassId) (dI : Nat → Nat → Nat) (sz : Nat) (a0 : Nat) (a1 : Int32) (a0g_0 a0g_1 a0g_2 a0g_3 a0g_4 a0g_5 a0g_6 a0g_9 a0g_10 : Value) (a0_7 : Nat) (a0_8 : Int32) (a0_7_0 : Int32) (a0_7g_1 a0_7g_2 a0_7g_3 a0_7g_4 a0_7g_5 a0_7g_6 a0_7g_7 a0_7g_8 a0_7g_9 a0_7g_10 a0_7g_11 a0_7g_12 a0_7g_13 a0_7g_14 : Value) (ba0_7_0_l : (0 : Int) ≤ a0_7_0.toInt) (ba0_7_0_u : a0_7_0.toInt ≤ (9 : Int)) : zm l yX7_rests wsX7_rests ({ frames := 2, cells := 0, slots := 0, locals := 45 }) [.ref a0, .int a1] dC dI sz [(a0, .inr (7, [a0g_0, a0g_1, a0g_2, a0g_3, a0g_4, a0g_5, a0g_6, .ref a0_7, .int a0_8, a0g_9, a0g_10])), (a0_7, .inr (0, [.int a0_7_0, a0_7g_1, a0_7g_2, a0_7g_3, a0_7g_4, a0_7g_5, a0_7g_6, a0_7g_7, a0_7g_8, a0_7g_9, a0_7g_10, a0_7g_11, a0_7g_12, a0_7g_13, a0_7g_14]))] [] (fun A _ => True) (fun A => va_Qi (fun (r : Int32) (_ : Unit) => True) (fun (_ : Unit) (t : State) => ∃ na0_8 : Int32, ax_B dC dI A [(a0, .inr (7, [a0g_0, a0g_1, a0g_2, a0g_3, a0g_4, a0g_5, a0g_6, .ref a0_7, .int na0_8, a0g_9, a0g_10])), (a0_7, .inr (0, [.int a0_7_0, a0_7g_1, a0_7g_2, a0_7g_3, a0_7g_4, a0_7g_5, a0_7g_6, a0_7g_7, a0_7g_8, a0_7g_9, a0_7g_10, a0_7g_11, a0_7g_12, a0_7g_13, a0_7g_14]))] [] t) A) := by
  refine zh (cc := cX7_rests) (maxL := 5) (ret := (some .int)) zn_RX7 rfl (Nat.le_of_ble_eq_true rfl) (fun p e s m below meth c A ls hx hb hml hr hts (hown : s.vm.findClass RX7 = some m.cls) hlocks hA hS hP hK hD hE (hl : lv_has ls 5 [(0, .ref a0), (1, .int a1)]) => ?_)
  refine ai_open (fun K hK0 => ?_)
  refine (hK0 _ _ _).mpr ?_
  refine lv_aload_n hx hb dX7_rests_0 rfl (lv_at hl 0 rfl) ?_
  refine lv_iload_n hx hb dX7_rests_1 rfl (lv_at hl 1 rfl) ?_
  refine lv_iconst (v := 0) hx hb dX7_rests_2 zk_iconst_0 ?_
  refine lv_bipush (v := 9) hx hb dX7_rests_3 zk_bipush_9 ?_
  refine va_calli (va_runV (As := [.int a1, .int 0, .int 9]) (rest := []) ⟨hx, hb, hml, hown, hts⟩ (c_X7_troubleOfNumber l dC dI s.heap.size a0 a1 0 9 a0g_0 a0g_1 a0g_2 a0g_3 a0g_4 a0g_5 a0g_6 (.int a0_8) a0g_9 a0g_10 a0_7 a0_7_0 a0_7g_1 a0_7g_2 a0_7g_3 a0_7g_4 a0_7g_5 a0_7g_6 a0_7g_7 a0_7g_8 a0_7g_9 a0_7g_10 a0_7g_11 a0_7g_12 a0_7g_13 a0_7g_14 ba0_7_0_l ba0_7_0_u) (cwV 3 hts gX7_rests_X7_troubleOfNumber rfl rfl rfl zd_X7_troubleOfNumber ⟨Nat.le_of_ble_eq_true rfl, Nat.le_of_ble_eq_true rfl⟩) ⟨ax_blind (fun _ _ _ _ _ => trivial), zr_7 (zp_K hK) (zp_P2 hP) (q0 := 0) rfl, ax_pre (zp_P2 hP) (zp_K hK) (zp_D2 hD) (fun _ _ => trivial)⟩ rfl rfl hl.1 rfl (lv_room (Nat.le_of_ble_eq_true rfl)) dX7_rests_5 ⟨Nat.le_of_ble_eq_true rfl, Nat.le_of_ble_eq_true rfl⟩) hS (fun q _ h => zp_F2 hD hS hA q h) (zp_F2 hD hS hA) (fun r5 u t H locs ht hvm hw hB hz1 hk1 hS1 => zo2 hB ht hP hD hk1 (zp_F2 hD hS hA) hS1 (fun hP hK1 hD hS => ?_))
  rcases hw with hw | hw | hw
  · obtain ⟨hw, fh5, h5⟩ := hw
    subst hw
    have l5k0_a0_7_0 : (1 : Int) ≤ a0_7_0.toInt := fh5
    have l5k0_a1 : (0 : Int) ≤ a1.toInt := Int.le_trans zq5 h5.1
    have u5k0_a1 : a1.toInt ≤ (9 : Int) := Int.le_trans h5.2 zq3
    refine lv_istore_n (lv' := [(2, .int 0), (0, .ref a0), (1, .int a1)]) hx hb dX7_rests_8 rfl hl (by decide) rfl (fun ls hl => ?_)
    refine lv_iload_n hx hb dX7_rests_9 rfl (lv_at hl 0 rfl) ?_
    refine lv_if_eq (tgt := 19) hx hb dX7_rests_10 (by decide) (fun _ => ?_) (fun c10 => absurd (by decide +kernel) c10)
    refine lv_iconst (v := 0) hx hb dX7_rests_19 zk_iconst_0 ?_
    refine lv_istore_n (lv' := [(3, .int 0), (2, .int 0), (0, .ref a0), (1, .int a1)]) hx hb dX7_rests_20 rfl hl (by decide) rfl (fun ls hl => ?_)
    refine lv_iconst (v := 0) hx hb dX7_rests_21 zk_iconst_0 ?_
    refine lv_istore (lv' := [(4, .int 0), (3, .int 0), (2, .int 0), (0, .ref a0), (1, .int a1)]) hx hb dX7_rests_22 hl (by decide) rfl (fun ls hl => ?_)
    have J24 : ∀ (n : Nat) (j24l4 : Int32) (j24l3 : Int32) (H : Heap) (locs : List Loc) (ls : Array Slot), (5 : Int) - j24l4.toInt ≤ (n : Int) → (0 : Int) ≤ j24l4.toInt → j24l4.toInt ≤ (4 : Int) → va_P (dC, dI) vwCl [(a0, .inr (7, [a0g_0, a0g_1, a0g_2, a0g_3, a0g_4, a0g_5, a0g_6, .ref a0_7, .int a0_8, a0g_9, a0g_10])), (a0_7, .inr (0, [.int a0_7_0, a0_7g_1, a0_7g_2, a0_7g_3, a0_7g_4, a0_7g_5, a0_7g_6, a0_7g_7, a0_7g_8, a0_7g_9, a0_7g_10, a0_7g_11, a0_7g_12, a0_7g_13, a0_7g_14]))] H → va_D A [(a0, .inr (7, [a0g_0, a0g_1, a0g_2, a0g_3, a0g_4, a0g_5, a0g_6, .ref a0_7, .int a0_8, a0g_9, a0g_10])), (a0_7, .inr (0, [.int a0_7_0, a0_7g_1, a0_7g_2, a0_7g_3, a0_7g_4, a0_7g_5, a0_7g_6, a0_7g_7, a0_7g_8, a0_7g_9, a0_7g_10, a0_7g_11, a0_7g_12, a0_7g_13, a0_7g_14]))] → va_S A s.heap H locs → lv_has ls 5 [(0, .ref a0), (1, .int a1), (3, .int j24l3), (4, .int j24l4)] → K H locs (F0 m 24 ls []) := by
      intro n
      induction n with
      | zero =>
        intro j24l4 j24l3 H locs ls hm bj24l4_l bj24l4_u hP hD hS hl
        first | exact zg_0 hm bj24l4_u (by decide) | (have h8 := ai_min j24l4; have h9 := ai_max j24l4; exact absurd hm (by omega))
      | succ n ih24 =>
        intro j24l4 j24l3 H locs ls hm bj24l4_l bj24l4_u hP hD hS hl
        refine (hK0 _ _ _).mpr ?_
        have hm24 := hm
        refine lv_iload hx hb dX7_rests_24 (lv_at hl 3 rfl) ?_
        refine lv_iconst (v := 4) hx hb dX7_rests_26 zk_iconst_4 ?_
        refine lv_icmp_ge (tgt := 70) hx hb dX7_rests_27 (by decide) (fun c27 => ?_) (fun c27 => ?_)
        · have gc27 := ai_le c27
          have l27t_j24l4 : (4 : Int) ≤ j24l4.toInt := Int.le_trans zq68 gc27
          refine lv_aload_n hx hb dX7_rests_70 rfl (lv_at hl 0 rfl) ?_
          refine lv_iload_n hx hb dX7_rests_71 rfl (lv_at hl 2 rfl) ?_
          refine va_calli (va_runV (As := [.int j24l3]) (rest := []) ⟨hx, hb, hml, hown, hts⟩ (c_X7_answered l dC dI H.size a0 j24l3 a0g_0 a0g_1 a0g_2 a0g_3 a0g_4 a0g_5 a0g_6 (.ref a0_7) a0g_9 a0g_10 a0_8 ) (cwV 1 hts gX7_rests_X7_answered rfl rfl rfl zd_X7_answered ⟨Nat.le_of_ble_eq_true rfl, Nat.le_of_ble_eq_true rfl⟩) ⟨ax_blind (fun _ _ _ _ _ => trivial), zr_7 (zp_K hK) (zp_P1 hP) (q0 := 0) rfl, ax_pre (zp_P1 hP) (zp_K hK) (zp_D1 hD) (fun _ _ => trivial)⟩ rfl rfl hl.1 rfl (lv_room (Nat.le_of_ble_eq_true rfl)) dX7_rests_72 ⟨Nat.le_of_ble_eq_true rfl, Nat.le_of_ble_eq_true rfl⟩) hS (fun q _ h => zp_F1 hD hS hA q h) (zp_F1 hD hS hA) (fun r72 u t H locs ht hvm hw => zx_1 (fun v72na0_8 hB hz1 hk1 hS1 => zo1 hB ht hP hD hk1 (zp_F1 hD hS hA) hS1 (fun hP hK1 hD hS => ?_)))
          have hw : r72 = j24l3 := hw
          have hw := hw.symm
          subst hw
          exact W.iret (v := j24l3) hx hb hr (fun t ht hW => ⟨⟨j24l3, (), rfl, trivial, v72na0_8, by rw [ht]; exact hP, va_K.moved hW.alike hK, hD⟩, hS.F ht⟩) hS.2.2 dX7_rests_75
        · have gc27 := ai_nle c27
          have u27f_j24l4 : j24l4.toInt ≤ (3 : Int) := ai_lthi gc27 zq67
          refine lv_iload_n hx hb dX7_rests_30 rfl (lv_at hl 1 rfl) ?_
          refine lv_iload hx hb dX7_rests_31 (lv_at hl 3 rfl) ?_
          refine lv_iconst (v := 2) hx hb dX7_rests_33 zk_iconst_2 ?_
          have J42 : ∀ (j42s0 : Int32) (H : Heap) (locs : List Loc) (ls : Array Slot), (0 : Int) ≤ j42s0.toInt → j42s0.toInt ≤ (1 : Int) → va_P (dC, dI) vwCl [(a0, .inr (7, [a0g_0, a0g_1, a0g_2, a0g_3, a0g_4, a0g_5, a0g_6, .ref a0_7, .int a0_8, a0g_9, a0g_10])), (a0_7, .inr (0, [.int a0_7_0, a0_7g_1, a0_7g_2, a0_7g_3, a0_7g_4, a0_7g_5, a0_7g_6, a0_7g_7, a0_7g_8, a0_7g_9, a0_7g_10, a0_7g_11, a0_7g_12, a0_7g_13, a0_7g_14]))] H → va_D A [(a0, .inr (7, [a0g_0, a0g_1, a0g_2, a0g_3, a0g_4, a0g_5, a0g_6, .ref a0_7, .int a0_8, a0g_9, a0g_10])), (a0_7, .inr (0, [.int a0_7_0, a0_7g_1, a0_7g_2, a0_7g_3, a0_7g_4, a0_7g_5, a0_7g_6, a0_7g_7, a0_7g_8, a0_7g_9, a0_7g_10, a0_7g_11, a0_7g_12, a0_7g_13, a0_7g_14]))] → va_S A s.heap H locs → lv_has ls 5 [(0, .ref a0), (1, .int a1), (3, .int j24l3), (4, .int j24l4)] → K H locs (F0 m 42 ls [.int j42s0, .int a1]) := by
            intro j42s0 H locs ls  bj42s0_l bj42s0_u hP hD hS hl
            refine (hK0 _ _ _).mpr ?_
            refine lv_iload hx hb dX7_rests_42 (lv_at hl 3 rfl) ?_
            refine lv_iconst (v := 2) hx hb dX7_rests_44 zk_iconst_2 ?_
            refine lv_irem hx hb dX7_rests_45 (by decide +kernel) ?_
            refine lv_topi (fun x45 ex45 => ?_)
            have qx45 := ai_rem2 ex45 bj24l4_l (Int.lt_of_lt_of_le zq100 zq12) zq13
            have wx45 : x45.toInt = j24l4.toInt % 2 := qx45.1
            refine lv_iconst (v := 1) hx hb dX7_rests_46 zk_iconst_1 ?_
            have J55 : ∀ (j55s0 : Int32) (H : Heap) (locs : List Loc) (ls : Array Slot), (0 : Int) ≤ j55s0.toInt → j55s0.toInt ≤ (1 : Int) → va_P (dC, dI) vwCl [(a0, .inr (7, [a0g_0, a0g_1, a0g_2, a0g_3, a0g_4, a0g_5, a0g_6, .ref a0_7, .int a0_8, a0g_9, a0g_10])), (a0_7, .inr (0, [.int a0_7_0, a0_7g_1, a0_7g_2, a0_7g_3, a0_7g_4, a0_7g_5, a0_7g_6, a0_7g_7, a0_7g_8, a0_7g_9, a0_7g_10, a0_7g_11, a0_7g_12, a0_7g_13, a0_7g_14]))] H → va_D A [(a0, .inr (7, [a0g_0, a0g_1, a0g_2, a0g_3, a0g_4, a0g_5, a0g_6, .ref a0_7, .int a0_8, a0g_9, a0g_10])), (a0_7, .inr (0, [.int a0_7_0, a0_7g_1, a0_7g_2, a0_7g_3, a0_7g_4, a0_7g_5, a0_7g_6, a0_7g_7, a0_7g_8, a0_7g_9, a0_7g_10, a0_7g_11, a0_7g_12, a0_7g_13, a0_7g_14]))] → va_S A s.heap H locs → lv_has ls 5 [(0, .ref a0), (1, .int a1), (3, .int j24l3), (4, .int j24l4)] → K H locs (F0 m 55 ls [.int j55s0, .int j42s0, .int a1]) := by
              intro j55s0 H locs ls  bj55s0_l bj55s0_u hP hD hS hl
              refine (hK0 _ _ _).mpr ?_
              refine va_calli (va_runS (As := [.int a1, .int j42s0, .int j55s0]) (rest := []) ⟨hx, hb, hml, hown, hts⟩ (c_X7_isRest l dC dI H.size a1 j42s0 j55s0 ) (va_cwS 3 hts gX7_rests_X7_isRest rfl rfl rfl zd_X7_isRest.2 ⟨Nat.le_of_ble_eq_true rfl, Nat.le_of_ble_eq_true rfl⟩) ⟨ax_blind (fun _ _ _ _ _ => trivial), ax_pre (zp_P0 hP) (zp_K hK) (zp_D0 hD) (fun _ _ => trivial)⟩ rfl rfl hl.1 rfl (lv_room (Nat.le_of_ble_eq_true rfl)) dX7_rests_55 ⟨Nat.le_of_ble_eq_true rfl, Nat.le_of_ble_eq_true rfl⟩) hS (fun q _ h => zp_F0 hD hS hA q h) (zp_F0 hD hS hA) (fun r55 u t H locs ht hvm hw hB hz1 hk1 hS1 => zo0 hB ht hP hD hk1 (zp_F0 hD hS hA) hS1 (fun hP hK1 hD hS => ?_))
              rcases hw with hw | hw
              · subst hw
                refine lv_if_eq (tgt := 64) hx hb dX7_rests_58 (by decide) (fun c58 => absurd c58 (by decide +kernel)) (fun _ => ?_)
                have J64 : ∀ (j64l3 : Int32) (H : Heap) (locs : List Loc) (ls : Array Slot), va_P (dC, dI) vwCl [(a0, .inr (7, [a0g_0, a0g_1, a0g_2, a0g_3, a0g_4, a0g_5, a0g_6, .ref a0_7, .int a0_8, a0g_9, a0g_10])), (a0_7, .inr (0, [.int a0_7_0, a0_7g_1, a0_7g_2, a0_7g_3, a0_7g_4, a0_7g_5, a0_7g_6, a0_7g_7, a0_7g_8, a0_7g_9, a0_7g_10, a0_7g_11, a0_7g_12, a0_7g_13, a0_7g_14]))] H → va_D A [(a0, .inr (7, [a0g_0, a0g_1, a0g_2, a0g_3, a0g_4, a0g_5, a0g_6, .ref a0_7, .int a0_8, a0g_9, a0g_10])), (a0_7, .inr (0, [.int a0_7_0, a0_7g_1, a0_7g_2, a0_7g_3, a0_7g_4, a0_7g_5, a0_7g_6, a0_7g_7, a0_7g_8, a0_7g_9, a0_7g_10, a0_7g_11, a0_7g_12, a0_7g_13, a0_7g_14]))] → va_S A s.heap H locs → lv_has ls 5 [(0, .ref a0), (1, .int a1), (3, .int j64l3), (4, .int j24l4)] → K H locs (F0 m 64 ls []) := by
                  intro j64l3 H locs ls   hP hD hS hl
                  refine (hK0 _ _ _).mpr ?_
                  obtain ⟨x64, ex64⟩ : ∃ y : Int32, y = j24l4 + Int32.ofInt 1 := ⟨_, rfl⟩
                  have qx64 : x64.toInt = j24l4.toInt + 1 := ai_inc ex64 (by decide) (by decide) u27f_j24l4 (by decide)
                  have bx64 : (1 : Int) ≤ x64.toInt ∧ x64.toInt ≤ 4 := ⟨by rw [qx64]; exact Int.add_le_add bj24l4_l (Int.le_refl _), by rw [qx64]; exact Int.add_le_add u27f_j24l4 (Int.le_refl _)⟩
                  refine lv_iinc (v := x64) (lv' := [(4, .int x64), (0, .ref a0), (1, .int a1), (3, .int j64l3)]) hx hb dX7_rests_64 hl (k := 3) rfl ex64.symm (by decide) rfl (fun ls hl => ?_)
                  refine lv_goto (tgt := 24) hx hb dX7_rests_67 (by decide) ?_
                  exact (hK0 _ _ _).mp (ih24 x64 j64l3 _ _ _ (by first | exact zg_s hm24 qx64 | (have h0 := qx64; omega)) (Int.le_trans zq4 bx64.1) bx64.2 hP hD hS (lv_sub hl [1, 2, 3, 0] rfl))
                obtain ⟨x61, ex61⟩ : ∃ y : Int32, y = j24l3 + Int32.ofInt 1 := ⟨_, rfl⟩
                refine lv_iinc (v := x61) (lv' := [(3, .int x61), (0, .ref a0), (1, .int a1), (4, .int j24l4)]) hx hb dX7_rests_61 hl (k := 2) rfl ex61.symm (by decide) rfl (fun ls hl => ?_)
                exact (hK0 _ _ _).mp (J64 x61 _ _ _   hP hD hS (lv_sub hl [1, 2, 0, 3] rfl))
              · subst hw
                refine lv_if_eq (tgt := 64) hx hb dX7_rests_58 (by decide) (fun _ => ?_) (fun c58 => absurd (by decide +kernel) c58)
                have J64 : ∀ (j64l3 : Int32) (H : Heap) (locs : List Loc) (ls : Array Slot), va_P (dC, dI) vwCl [(a0, .inr (7, [a0g_0, a0g_1, a0g_2, a0g_3, a0g_4, a0g_5, a0g_6, .ref a0_7, .int a0_8, a0g_9, a0g_10])), (a0_7, .inr (0, [.int a0_7_0, a0_7g_1, a0_7g_2, a0_7g_3, a0_7g_4, a0_7g_5, a0_7g_6, a0_7g_7, a0_7g_8, a0_7g_9, a0_7g_10, a0_7g_11, a0_7g_12, a0_7g_13, a0_7g_14]))] H → va_D A [(a0, .inr (7, [a0g_0, a0g_1, a0g_2, a0g_3, a0g_4, a0g_5, a0g_6, .ref a0_7, .int a0_8, a0g_9, a0g_10])), (a0_7, .inr (0, [.int a0_7_0, a0_7g_1, a0_7g_2, a0_7g_3, a0_7g_4, a0_7g_5, a0_7g_6, a0_7g_7, a0_7g_8, a0_7g_9, a0_7g_10, a0_7g_11, a0_7g_12, a0_7g_13, a0_7g_14]))] → va_S A s.heap H locs → lv_has ls 5 [(0, .ref a0), (1, .int a1), (3, .int j64l3), (4, .int j24l4)] → K H locs (F0 m 64 ls []) := by
                  intro j64l3 H locs ls   hP hD hS hl
                  refine (hK0 _ _ _).mpr ?_
                  obtain ⟨x64, ex64⟩ : ∃ y : Int32, y = j24l4 + Int32.ofInt 1 := ⟨_, rfl⟩
                  have qx64 : x64.toInt = j24l4.toInt + 1 := ai_inc ex64 (by decide) (by decide) u27f_j24l4 (by decide)
                  have bx64 : (1 : Int) ≤ x64.toInt ∧ x64.toInt ≤ 4 := ⟨by rw [qx64]; exact Int.add_le_add bj24l4_l (Int.le_refl _), by rw [qx64]; exact Int.add_le_add u27f_j24l4 (Int.le_refl _)⟩
                  refine lv_iinc (v := x64) (lv' := [(4, .int x64), (0, .ref a0), (1, .int a1), (3, .int j64l3)]) hx hb dX7_rests_64 hl (k := 3) rfl ex64.symm (by decide) rfl (fun ls hl => ?_)
                  refine lv_goto (tgt := 24) hx hb dX7_rests_67 (by decide) ?_
                  exact (hK0 _ _ _).mp (ih24 x64 j64l3 _ _ _ (by first | exact zg_s hm24 qx64 | (have h0 := qx64; omega)) (Int.le_trans zq4 bx64.1) bx64.2 hP hD hS (lv_sub hl [1, 2, 3, 0] rfl))
                exact (hK0 _ _ _).mp (J64 j24l3 _ _ _   hP hD hS (lv_sub hl [0, 1, 2, 3] rfl))
            refine lv_icmp_ne (tgt := 54) hx hb dX7_rests_47 (by decide) (fun c47 => ?_) (fun c47 => ?_)
            · have gc47 := ai_ne c47
              have u47t_x45 : x45.toInt ≤ (0 : Int) := (by first | exact zg_u qx45.2.2 gc47 (by decide) (by decide) | (have h1 := qx45.2.2; have h2 : (1 : Int32).toInt = 1 := (by decide); rw [h2] at gc47; omega))
              refine lv_iconst (v := 0) hx hb dX7_rests_54 zk_iconst_0 ?_
              exact (hK0 _ _ _).mp (J55 0 _ _ _  zq5 (Int.le_trans zq6 zq4) hP hD hS (lv_sub hl [0, 1, 2, 3] rfl))
            · have gc47 := ai_eq c47
              have u47f_x45 : x45.toInt ≤ (1 : Int) := qx45.2.2
              have l47f_x45 : (1 : Int) ≤ x45.toInt := Int.le_trans zq1 (Int.le_of_eq gc47.symm)
              refine lv_iconst (v := 1) hx hb dX7_rests_50 zk_iconst_1 ?_
              refine lv_goto (tgt := 55) hx hb dX7_rests_51 (by decide) ?_
              exact (hK0 _ _ _).mp (J55 1 _ _ _  (Int.le_trans zq4 zq1) zq0 hP hD hS (lv_sub hl [0, 1, 2, 3] rfl))
          refine lv_icmp_lt (tgt := 41) hx hb dX7_rests_34 (by decide) (fun c34 => ?_) (fun c34 => ?_)
          · have gc34 := ai_lt c34
            have u34t_j24l4 : j24l4.toInt ≤ (1 : Int) := ai_lthi gc34 zq13
            refine lv_iconst (v := 0) hx hb dX7_rests_41 zk_iconst_0 ?_
            exact (hK0 _ _ _).mp (J42 0 _ _ _  zq5 (Int.le_trans zq6 zq4) hP hD hS (lv_sub hl [0, 1, 2, 3] rfl))
          · have gc34 := ai_nlt c34
            have l34f_j24l4 : (2 : Int) ≤ j24l4.toInt := Int.le_trans zq12 gc34
            refine lv_iconst (v := 1) hx hb dX7_rests_37 zk_iconst_1 ?_
            refine lv_goto (tgt := 42) hx hb dX7_rests_38 (by decide) ?_
            exact (hK0 _ _ _).mp (J42 1 _ _ _  (Int.le_trans zq4 zq1) zq0 hP hD hS (lv_sub hl [0, 1, 2, 3] rfl))
    exact (hK0 _ _ _).mp (J24 5 0 0 _ _ _ (by first | decide +kernel | (have h1 : (0 : Int) ≤ (0 : Int32).toInt := zq5; have h2 : (0 : Int32).toInt ≤ (0 : Int) := zq6; omega)) zq5 (Int.le_trans zq6 zq101) hP hD hS (lv_sub hl [3, 4, 1, 0] rfl))
  · subst hw
    refine lv_istore_n (lv' := [(2, .int 1), (0, .ref a0), (1, .int a1)]) hx hb dX7_rests_8 rfl hl (by decide) rfl (fun ls hl => ?_)
    refine lv_iload_n hx hb dX7_rests_9 rfl (lv_at hl 0 rfl) ?_
    refine lv_if_eq (tgt := 19) hx hb dX7_rests_10 (by decide) (fun c10 => absurd c10 (by decide +kernel)) (fun _ => ?_)
    refine lv_aload_n hx hb dX7_rests_13 rfl (lv_at hl 1 rfl) ?_
    refine lv_iload_n hx hb dX7_rests_14 rfl (lv_at hl 0 rfl) ?_
    refine va_calli (va_runV (As := [.int 1]) (rest := []) ⟨hx, hb, hml, hown, hts⟩ (c_X7_refused l dC dI H.size a0 1 a0g_0 a0g_1 a0g_2 a0g_3 a0g_4 a0g_5 a0g_6 (.ref a0_7) a0g_9 a0g_10 a0_8 ) (cwV 1 hts gX7_rests_X7_refused rfl rfl rfl zd_X7_refused ⟨Nat.le_of_ble_eq_true rfl, Nat.le_of_ble_eq_true rfl⟩) ⟨ax_blind (fun _ _ _ _ _ => trivial), zr_7 (zp_K hK) (zp_P1 hP) (q0 := 0) rfl, ax_pre (zp_P1 hP) (zp_K hK) (zp_D1 hD) (fun _ _ => trivial)⟩ rfl rfl hl.1 rfl (lv_room (Nat.le_of_ble_eq_true rfl)) dX7_rests_15 ⟨Nat.le_of_ble_eq_true rfl, Nat.le_of_ble_eq_true rfl⟩) hS (fun q _ h => zp_F1 hD hS hA q h) (zp_F1 hD hS hA) (fun r15 u t H locs ht hvm hw => zx_1 (fun v15na0_8 hB hz1 hk1 hS1 => zo1 hB ht hP hD hk1 (zp_F1 hD hS hA) hS1 (fun hP hK1 hD hS => ?_)))
    have hw : r15 = (-1) := hw
    have hw := hw.symm
    subst hw
    exact W.iret (v := (-1)) hx hb hr (fun t ht hW => ⟨⟨(-1), (), rfl, trivial, v15na0_8, by rw [ht]; exact hP, va_K.moved hW.alike hK, hD⟩, hS.F ht⟩) hS.2.2 dX7_rests_18
  · subst hw
    refine lv_istore_n (lv' := [(2, .int 2), (0, .ref a0), (1, .int a1)]) hx hb dX7_rests_8 rfl hl (by decide) rfl (fun ls hl => ?_)
    refine lv_iload_n hx hb dX7_rests_9 rfl (lv_at hl 0 rfl) ?_
    refine lv_if_eq (tgt := 19) hx hb dX7_rests_10 (by decide) (fun c10 => absurd c10 (by decide +kernel)) (fun _ => ?_)
    refine lv_aload_n hx hb dX7_rests_13 rfl (lv_at hl 1 rfl) ?_
    refine lv_iload_n hx hb dX7_rests_14 rfl (lv_at hl 0 rfl) ?_
    refine va_calli (va_runV (As := [.int 2]) (rest := []) ⟨hx, hb, hml, hown, hts⟩ (c_X7_refused l dC dI H.size a0 2 a0g_0 a0g_1 a0g_2 a0g_3 a0g_4 a0g_5 a0g_6 (.ref a0_7) a0g_9 a0g_10 a0_8 ) (cwV 1 hts gX7_rests_X7_refused rfl rfl rfl zd_X7_refused ⟨Nat.le_of_ble_eq_true rfl, Nat.le_of_ble_eq_true rfl⟩) ⟨ax_blind (fun _ _ _ _ _ => trivial), zr_7 (zp_K hK) (zp_P1 hP) (q0 := 0) rfl, ax_pre (zp_P1 hP) (zp_K hK) (zp_D1 hD) (fun _ _ => trivial)⟩ rfl rfl hl.1 rfl (lv_room (Nat.le_of_ble_eq_true rfl)) dX7_rests_15 ⟨Nat.le_of_ble_eq_true rfl, Nat.le_of_ble_eq_true rfl⟩) hS (fun q _ h => zp_F1 hD hS hA q h) (zp_F1 hD hS hA) (fun r15 u t H locs ht hvm hw => zx_1 (fun v15na0_8 hB hz1 hk1 hS1 => zo1 hB ht hP hD hk1 (zp_F1 hD hS hA) hS1 (fun hP hK1 hD hS => ?_)))
    have hw : r15 = (-1) := hw
    have hw := hw.symm
    subst hw
    exact W.iret (v := (-1)) hx hb hr (fun t ht hW => ⟨⟨(-1), (), rfl, trivial, v15na0_8, by rw [ht]; exact hP, va_K.moved hW.alike hK, hD⟩, hS.F ht⟩) hS.2.2 dX7_rests_18

set_option maxHeartbeats 4000000 in
set_option maxRecDepth 100000 in
theorem c_X7_rest (l : Launch) (dC : Nat → ClassId) (dI : Nat → Nat → Nat) (sz : Nat) (a0 : Nat) (a1 : Int32) (a0g_0 a0g_1 a0g_2 a0g_3 a0g_4 a0g_5 a0g_6 a0g_9 a0g_10 : Value) (a0_7 : Nat) (a0_8 : Int32) (a0_7_0 : Int32) (a0_7g_1 a0_7g_2 a0_7g_3 a0_7g_4 a0_7g_5 a0_7g_6 a0_7g_7 a0_7g_8 a0_7g_9 a0_7g_10 a0_7g_11 a0_7g_12 a0_7g_13 a0_7g_14 : Value) (ba0_7_0_l : (0 : Int) ≤ a0_7_0.toInt) (ba0_7_0_u : a0_7_0.toInt ≤ (9 : Int)) : zm l yX7_rest wsX7_rest ({ frames := 2, cells := 0, slots := 0, locals := 45 }) [.ref a0, .int a1] dC dI sz [(a0, .inr (7, [a0g_0, a0g_1, a0g_2, a0g_3, a0g_4, a0g_5, a0g_6, .ref a0_7, .int a0_8, a0g_9, a0g_10])), (a0_7, .inr (0, [.int a0_7_0, a0_7g_1, a0_7g_2, a0_7g_3, a0_7g_4, a0_7g_5, a0_7g_6, a0_7g_7, a0_7g_8, a0_7g_9, a0_7g_10, a0_7g_11, a0_7g_12, a0_7g_13, a0_7g_14]))] [] (fun A _ => True) (fun A => va_Qi (fun (r : Int32) (_ : Unit) => (-2 : Int) ≤ r.toInt ∧ r.toInt ≤ (11 : Int)) (fun (_ : Unit) (t : State) => ∃ na0_8 : Int32, ax_B dC dI A [(a0, .inr (7, [a0g_0, a0g_1, a0g_2, a0g_3, a0g_4, a0g_5, a0g_6, .ref a0_7, .int na0_8, a0g_9, a0g_10])), (a0_7, .inr (0, [.int a0_7_0, a0_7g_1, a0_7g_2, a0_7g_3, a0_7g_4, a0_7g_5, a0_7g_6, a0_7g_7, a0_7g_8, a0_7g_9, a0_7g_10, a0_7g_11, a0_7g_12, a0_7g_13, a0_7g_14]))] [] t) A) := by
  refine zh (cc := cX7_rest) (maxL := 4) (ret := (some .int)) zn_RX7 rfl (Nat.le_of_ble_eq_true rfl) (fun p e s m below meth c A ls hx hb hml hr hts (hown : s.vm.findClass RX7 = some m.cls) hlocks hA hS hP hK hD hE (hl : lv_has ls 4 [(0, .ref a0), (1, .int a1)]) => ?_)
  refine ai_open (fun K hK0 => ?_)
  refine (hK0 _ _ _).mpr ?_
  refine lv_aload_n hx hb dX7_rest_0 rfl (lv_at hl 0 rfl) ?_
  refine lv_iload_n hx hb dX7_rest_1 rfl (lv_at hl 1 rfl) ?_
  refine lv_iconst (v := 0) hx hb dX7_rest_2 zk_iconst_0 ?_
  refine lv_bipush (v := 9) hx hb dX7_rest_3 zk_bipush_9 ?_
  refine va_calli (va_runV (As := [.int a1, .int 0, .int 9]) (rest := []) ⟨hx, hb, hml, hown, hts⟩ (c_X7_troubleOfNumber l dC dI s.heap.size a0 a1 0 9 a0g_0 a0g_1 a0g_2 a0g_3 a0g_4 a0g_5 a0g_6 (.int a0_8) a0g_9 a0g_10 a0_7 a0_7_0 a0_7g_1 a0_7g_2 a0_7g_3 a0_7g_4 a0_7g_5 a0_7g_6 a0_7g_7 a0_7g_8 a0_7g_9 a0_7g_10 a0_7g_11 a0_7g_12 a0_7g_13 a0_7g_14 ba0_7_0_l ba0_7_0_u) (cwV 3 hts gX7_rest_X7_troubleOfNumber rfl rfl rfl zd_X7_troubleOfNumber ⟨Nat.le_of_ble_eq_true rfl, Nat.le_of_ble_eq_true rfl⟩) ⟨ax_blind (fun _ _ _ _ _ => trivial), zr_7 (zp_K hK) (zp_P2 hP) (q0 := 0) rfl, ax_pre (zp_P2 hP) (zp_K hK) (zp_D2 hD) (fun _ _ => trivial)⟩ rfl rfl hl.1 rfl (lv_room (Nat.le_of_ble_eq_true rfl)) dX7_rest_5 ⟨Nat.le_of_ble_eq_true rfl, Nat.le_of_ble_eq_true rfl⟩) hS (fun q _ h => zp_F2 hD hS hA q h) (zp_F2 hD hS hA) (fun r5 u t H locs ht hvm hw hB hz1 hk1 hS1 => zo2 hB ht hP hD hk1 (zp_F2 hD hS hA) hS1 (fun hP hK1 hD hS => ?_))
  rcases hw with hw | hw | hw
  · obtain ⟨hw, fh5, h5⟩ := hw
    subst hw
    have l5k0_a0_7_0 : (1 : Int) ≤ a0_7_0.toInt := fh5
    have l5k0_a1 : (0 : Int) ≤ a1.toInt := Int.le_trans zq5 h5.1
    have u5k0_a1 : a1.toInt ≤ (9 : Int) := Int.le_trans h5.2 zq3
    refine lv_istore_n (lv' := [(2, .int 0), (0, .ref a0), (1, .int a1)]) hx hb dX7_rest_8 rfl hl (by decide) rfl (fun ls hl => ?_)
    refine lv_iload_n hx hb dX7_rest_9 rfl (lv_at hl 0 rfl) ?_
    refine lv_if_eq (tgt := 19) hx hb dX7_rest_10 (by decide) (fun _ => ?_) (fun c10 => absurd (by decide +kernel) c10)
    refine lv_iconst (v := 0) hx hb dX7_rest_19 zk_iconst_0 ?_
    refine lv_istore_n (lv' := [(3, .int 0), (2, .int 0), (0, .ref a0), (1, .int a1)]) hx hb dX7_rest_20 rfl hl (by decide) rfl (fun ls hl => ?_)
    have J21 : ∀ (n : Nat) (j21l3 : Int32) (H : Heap) (locs : List Loc) (ls : Array Slot), (5 : Int) - j21l3.toInt ≤ (n : Int) → (0 : Int) ≤ j21l3.toInt → j21l3.toInt ≤ (4 : Int) → va_P (dC, dI) vwCl [(a0, .inr (7, [a0g_0, a0g_1, a0g_2, a0g_3, a0g_4, a0g_5, a0g_6, .ref a0_7, .int a0_8, a0g_9, a0g_10])), (a0_7, .inr (0, [.int a0_7_0, a0_7g_1, a0_7g_2, a0_7g_3, a0_7g_4, a0_7g_5, a0_7g_6, a0_7g_7, a0_7g_8, a0_7g_9, a0_7g_10, a0_7g_11, a0_7g_12, a0_7g_13, a0_7g_14]))] H → va_D A [(a0, .inr (7, [a0g_0, a0g_1, a0g_2, a0g_3, a0g_4, a0g_5, a0g_6, .ref a0_7, .int a0_8, a0g_9, a0g_10])), (a0_7, .inr (0, [.int a0_7_0, a0_7g_1, a0_7g_2, a0_7g_3, a0_7g_4, a0_7g_5, a0_7g_6, a0_7g_7, a0_7g_8, a0_7g_9, a0_7g_10, a0_7g_11, a0_7g_12, a0_7g_13, a0_7g_14]))] → va_S A s.heap H locs → lv_has ls 4 [(0, .ref a0), (1, .int a1), (3, .int j21l3)] → K H locs (F0 m 21 ls []) := by
      intro n
      induction n with
      | zero =>
        intro j21l3 H locs ls hm bj21l3_l bj21l3_u hP hD hS hl
        first | exact zg_0 hm bj21l3_u (by decide) | (have h8 := ai_min j21l3; have h9 := ai_max j21l3; exact absurd hm (by omega))
      | succ n ih21 =>
        intro j21l3 H locs ls hm bj21l3_l bj21l3_u hP hD hS hl
        refine (hK0 _ _ _).mpr ?_
        have hm21 := hm
        refine lv_iload_n hx hb dX7_rest_21 rfl (lv_at hl 2 rfl) ?_
        refine lv_iconst (v := 4) hx hb dX7_rest_22 zk_iconst_4 ?_
        refine lv_icmp_ge (tgt := 76) hx hb dX7_rest_23 (by decide) (fun c23 => ?_) (fun c23 => ?_)
        · have gc23 := ai_le c23
          have l23t_j21l3 : (4 : Int) ≤ j21l3.toInt := Int.le_trans zq68 gc23
          refine lv_aload_n hx hb dX7_rest_76 rfl (lv_at hl 0 rfl) ?_
          refine lv_bipush (v := (-2)) hx hb dX7_rest_77 zk_bipush_n2 ?_
          refine va_calli (va_runV (As := [.int (-2)]) (rest := []) ⟨hx, hb, hml, hown, hts⟩ (c_X7_answered l dC dI H.size a0 (-2) a0g_0 a0g_1 a0g_2 a0g_3 a0g_4 a0g_5 a0g_6 (.ref a0_7) a0g_9 a0g_10 a0_8 ) (cwV 1 hts gX7_rest_X7_answered rfl rfl rfl zd_X7_answered ⟨Nat.le_of_ble_eq_true rfl, Nat.le_of_ble_eq_true rfl⟩) ⟨ax_blind (fun _ _ _ _ _ => trivial), zr_7 (zp_K hK) (zp_P1 hP) (q0 := 0) rfl, ax_pre (zp_P1 hP) (zp_K hK) (zp_D1 hD) (fun _ _ => trivial)⟩ rfl rfl hl.1 rfl (lv_room (Nat.le_of_ble_eq_true rfl)) dX7_rest_79 ⟨Nat.le_of_ble_eq_true rfl, Nat.le_of_ble_eq_true rfl⟩) hS (fun q _ h => zp_F1 hD hS hA q h) (zp_F1 hD hS hA) (fun r79 u t H locs ht hvm hw => zx_1 (fun v79na0_8 hB hz1 hk1 hS1 => zo1 hB ht hP hD hk1 (zp_F1 hD hS hA) hS1 (fun hP hK1 hD hS => ?_)))
          have hw : r79 = (-2) := hw
          have hw := hw.symm
          subst hw
          exact W.iret (v := (-2)) hx hb hr (fun t ht hW => ⟨⟨(-2), (), rfl, ⟨zq45, (Int.le_trans zq44 zq102)⟩, v79na0_8, by rw [ht]; exact hP, va_K.moved hW.alike hK, hD⟩, hS.F ht⟩) hS.2.2 dX7_rest_82
        · have gc23 := ai_nle c23
          have u23f_j21l3 : j21l3.toInt ≤ (3 : Int) := ai_lthi gc23 zq67
          refine lv_iload_n hx hb dX7_rest_26 rfl (lv_at hl 1 rfl) ?_
          refine lv_iload_n hx hb dX7_rest_27 rfl (lv_at hl 2 rfl) ?_
          refine lv_iconst (v := 2) hx hb dX7_rest_28 zk_iconst_2 ?_
          have J37 : ∀ (j37s0 : Int32) (H : Heap) (locs : List Loc) (ls : Array Slot), (0 : Int) ≤ j37s0.toInt → j37s0.toInt ≤ (1 : Int) → va_P (dC, dI) vwCl [(a0, .inr (7, [a0g_0, a0g_1, a0g_2, a0g_3, a0g_4, a0g_5, a0g_6, .ref a0_7, .int a0_8, a0g_9, a0g_10])), (a0_7, .inr (0, [.int a0_7_0, a0_7g_1, a0_7g_2, a0_7g_3, a0_7g_4, a0_7g_5, a0_7g_6, a0_7g_7, a0_7g_8, a0_7g_9, a0_7g_10, a0_7g_11, a0_7g_12, a0_7g_13, a0_7g_14]))] H → va_D A [(a0, .inr (7, [a0g_0, a0g_1, a0g_2, a0g_3, a0g_4, a0g_5, a0g_6, .ref a0_7, .int a0_8, a0g_9, a0g_10])), (a0_7, .inr (0, [.int a0_7_0, a0_7g_1, a0_7g_2, a0_7g_3, a0_7g_4, a0_7g_5, a0_7g_6, a0_7g_7, a0_7g_8, a0_7g_9, a0_7g_10, a0_7g_11, a0_7g_12, a0_7g_13, a0_7g_14]))] → va_S A s.heap H locs → lv_has ls 4 [(0, .ref a0), (1, .int a1), (3, .int j21l3)] → K H locs (F0 m 37 ls [.int j37s0, .int a1]) := by
            intro j37s0 H locs ls  bj37s0_l bj37s0_u hP hD hS hl
            refine (hK0 _ _ _).mpr ?_
            refine lv_iload_n hx hb dX7_rest_37 rfl (lv_at hl 2 rfl) ?_
            refine lv_iconst (v := 2) hx hb dX7_rest_38 zk_iconst_2 ?_
            refine lv_irem hx hb dX7_rest_39 (by decide +kernel) ?_
            refine lv_topi (fun x39 ex39 => ?_)
            have qx39 := ai_rem2 ex39 bj21l3_l (Int.lt_of_lt_of_le zq100 zq12) zq13
            have wx39 : x39.toInt = j21l3.toInt % 2 := qx39.1
            refine lv_iconst (v := 1) hx hb dX7_rest_40 zk_iconst_1 ?_
            have J49 : ∀ (j49s0 : Int32) (H : Heap) (locs : List Loc) (ls : Array Slot), (0 : Int) ≤ j49s0.toInt → j49s0.toInt ≤ (1 : Int) → va_P (dC, dI) vwCl [(a0, .inr (7, [a0g_0, a0g_1, a0g_2, a0g_3, a0g_4, a0g_5, a0g_6, .ref a0_7, .int a0_8, a0g_9, a0g_10])), (a0_7, .inr (0, [.int a0_7_0, a0_7g_1, a0_7g_2, a0_7g_3, a0_7g_4, a0_7g_5, a0_7g_6, a0_7g_7, a0_7g_8, a0_7g_9, a0_7g_10, a0_7g_11, a0_7g_12, a0_7g_13, a0_7g_14]))] H → va_D A [(a0, .inr (7, [a0g_0, a0g_1, a0g_2, a0g_3, a0g_4, a0g_5, a0g_6, .ref a0_7, .int a0_8, a0g_9, a0g_10])), (a0_7, .inr (0, [.int a0_7_0, a0_7g_1, a0_7g_2, a0_7g_3, a0_7g_4, a0_7g_5, a0_7g_6, a0_7g_7, a0_7g_8, a0_7g_9, a0_7g_10, a0_7g_11, a0_7g_12, a0_7g_13, a0_7g_14]))] → va_S A s.heap H locs → lv_has ls 4 [(0, .ref a0), (1, .int a1), (3, .int j21l3)] → K H locs (F0 m 49 ls [.int j49s0, .int j37s0, .int a1]) := by
              intro j49s0 H locs ls  bj49s0_l bj49s0_u hP hD hS hl
              refine (hK0 _ _ _).mpr ?_
              refine va_calli (va_runS (As := [.int a1, .int j37s0, .int j49s0]) (rest := []) ⟨hx, hb, hml, hown, hts⟩ (c_X7_isRest l dC dI H.size a1 j37s0 j49s0 ) (va_cwS 3 hts gX7_rest_X7_isRest rfl rfl rfl zd_X7_isRest.2 ⟨Nat.le_of_ble_eq_true rfl, Nat.le_of_ble_eq_true rfl⟩) ⟨ax_blind (fun _ _ _ _ _ => trivial), ax_pre (zp_P0 hP) (zp_K hK) (zp_D0 hD) (fun _ _ => trivial)⟩ rfl rfl hl.1 rfl (lv_room (Nat.le_of_ble_eq_true rfl)) dX7_rest_49 ⟨Nat.le_of_ble_eq_true rfl, Nat.le_of_ble_eq_true rfl⟩) hS (fun q _ h => zp_F0 hD hS hA q h) (zp_F0 hD hS hA) (fun r49 u t H locs ht hvm hw hB hz1 hk1 hS1 => zo0 hB ht hP hD hk1 (zp_F0 hD hS hA) hS1 (fun hP hK1 hD hS => ?_))
              rcases hw with hw | hw
              · subst hw
                refine lv_if_eq (tgt := 70) hx hb dX7_rest_52 (by decide) (fun c52 => absurd c52 (by decide +kernel)) (fun _ => ?_)
                refine lv_aload_n hx hb dX7_rest_55 rfl (lv_at hl 0 rfl) ?_
                refine lv_bipush (v := 10) hx hb dX7_rest_56 zk_bipush_10 ?_
                refine lv_iload_n hx hb dX7_rest_58 rfl (lv_at hl 2 rfl) ?_
                refine lv_iconst (v := 2) hx hb dX7_rest_59 zk_iconst_2 ?_
                refine lv_idiv hx hb dX7_rest_60 (by decide +kernel) ?_
                refine lv_topi (fun x60 ex60 => ?_)
                have qx60 := ai_div ex60 ⟨bj21l3_l, u23f_j21l3⟩ (Int.lt_of_lt_of_le zq100 zq12)
                have u60z_x60 : x60.toInt ≤ (1 : Int) := (by have h1 := qx60.1; have h2 := u23f_j21l3; have h3 : (2 : Int32).toInt = 2 := (by decide); rw [h3] at h1; omega)
                refine lv_imul hx hb dX7_rest_61 ?_
                refine lv_topi (fun x61 ex61 => ?_)
                have qx61 : x61.toInt = (10 : Int32).toInt * x60.toInt ∧ (0 : Int) ≤ x61.toInt ∧ x61.toInt ≤ 10 := ai_mul ex61 ⟨zq26, zq27⟩ ⟨qx60.2.1, u60z_x60⟩ (by decide) (by decide) zq103
                have wx61 : x61.toInt = 10 * x60.toInt := qx61.1
                refine lv_iload_n hx hb dX7_rest_62 rfl (lv_at hl 2 rfl) ?_
                refine lv_iconst (v := 2) hx hb dX7_rest_63 zk_iconst_2 ?_
                refine lv_irem hx hb dX7_rest_64 (by decide +kernel) ?_
                refine lv_topi (fun x64 ex64 => ?_)
                have qx64 := ai_rem2 ex64 bj21l3_l (Int.lt_of_lt_of_le zq100 zq12) zq13
                have wx64 : x64.toInt = j21l3.toInt % 2 := qx64.1
                refine lv_iadd hx hb dX7_rest_65 ?_
                refine lv_topi (fun x65 ex65 => ?_)
                have qx65 : x65.toInt = x61.toInt + x64.toInt := ai_add ex65 ⟨qx61.2.1, qx61.2.2⟩ ⟨qx64.2.1, qx64.2.2⟩ (by decide) (by decide)
                have bx65 : (0 : Int) ≤ x65.toInt ∧ x65.toInt ≤ 11 := ⟨by rw [qx65]; exact Int.add_le_add qx61.2.1 qx64.2.1, by rw [qx65]; exact Int.add_le_add qx61.2.2 qx64.2.2⟩
                refine va_calli (va_runV (As := [.int x65]) (rest := []) ⟨hx, hb, hml, hown, hts⟩ (c_X7_answered l dC dI H.size a0 x65 a0g_0 a0g_1 a0g_2 a0g_3 a0g_4 a0g_5 a0g_6 (.ref a0_7) a0g_9 a0g_10 a0_8 ) (cwV 1 hts gX7_rest_X7_answered rfl rfl rfl zd_X7_answered ⟨Nat.le_of_ble_eq_true rfl, Nat.le_of_ble_eq_true rfl⟩) ⟨ax_blind (fun _ _ _ _ _ => trivial), zr_7 (zp_K hK) (zp_P1 hP) (q0 := 0) rfl, ax_pre (zp_P1 hP) (zp_K hK) (zp_D1 hD) (fun _ _ => trivial)⟩ rfl rfl hl.1 rfl (lv_room (Nat.le_of_ble_eq_true rfl)) dX7_rest_66 ⟨Nat.le_of_ble_eq_true rfl, Nat.le_of_ble_eq_true rfl⟩) hS (fun q _ h => zp_F1 hD hS hA q h) (zp_F1 hD hS hA) (fun r66 u t H locs ht hvm hw => zx_1 (fun v66na0_8 hB hz1 hk1 hS1 => zo1 hB ht hP hD hk1 (zp_F1 hD hS hA) hS1 (fun hP hK1 hD hS => ?_)))
                have hw : r66 = x65 := hw
                have hw := hw.symm
                subst hw
                exact W.iret (v := x65) hx hb hr (fun t ht hW => ⟨⟨x65, (), rfl, ⟨(Int.le_trans zq75 bx65.1), bx65.2⟩, v66na0_8, by rw [ht]; exact hP, va_K.moved hW.alike hK, hD⟩, hS.F ht⟩) hS.2.2 dX7_rest_69
              · subst hw
                refine lv_if_eq (tgt := 70) hx hb dX7_rest_52 (by decide) (fun _ => ?_) (fun c52 => absurd (by decide +kernel) c52)
                obtain ⟨x70, ex70⟩ : ∃ y : Int32, y = j21l3 + Int32.ofInt 1 := ⟨_, rfl⟩
                have qx70 : x70.toInt = j21l3.toInt + 1 := ai_inc ex70 (by decide) (by decide) u23f_j21l3 (by decide)
                have bx70 : (1 : Int) ≤ x70.toInt ∧ x70.toInt ≤ 4 := ⟨by rw [qx70]; exact Int.add_le_add bj21l3_l (Int.le_refl _), by rw [qx70]; exact Int.add_le_add u23f_j21l3 (Int.le_refl _)⟩
                refine lv_iinc (v := x70) (lv' := [(3, .int x70), (0, .ref a0), (1, .int a1)]) hx hb dX7_rest_70 hl (k := 2) rfl ex70.symm (by decide) rfl (fun ls hl => ?_)
                refine lv_goto (tgt := 21) hx hb dX7_rest_73 (by decide) ?_
                exact (hK0 _ _ _).mp (ih21 x70 _ _ _ (by first | exact zg_s hm21 qx70 | (have h0 := qx70; omega)) (Int.le_trans zq4 bx70.1) bx70.2 hP hD hS (lv_sub hl [1, 2, 0] rfl))
            refine lv_icmp_ne (tgt := 48) hx hb dX7_rest_41 (by decide) (fun c41 => ?_) (fun c41 => ?_)
            · have gc41 := ai_ne c41
              have u41t_x39 : x39.toInt ≤ (0 : Int) := (by first | exact zg_u qx39.2.2 gc41 (by decide) (by decide) | (have h1 := qx39.2.2; have h2 : (1 : Int32).toInt = 1 := (by decide); rw [h2] at gc41; omega))
              refine lv_iconst (v := 0) hx hb dX7_rest_48 zk_iconst_0 ?_
              exact (hK0 _ _ _).mp (J49 0 _ _ _  zq5 (Int.le_trans zq6 zq4) hP hD hS (lv_sub hl [0, 1, 2] rfl))
            · have gc41 := ai_eq c41
              have u41f_x39 : x39.toInt ≤ (1 : Int) := qx39.2.2
              have l41f_x39 : (1 : Int) ≤ x39.toInt := Int.le_trans zq1 (Int.le_of_eq gc41.symm)
              refine lv_iconst (v := 1) hx hb dX7_rest_44 zk_iconst_1 ?_
              refine lv_goto (tgt := 49) hx hb dX7_rest_45 (by decide) ?_
              exact (hK0 _ _ _).mp (J49 1 _ _ _  (Int.le_trans zq4 zq1) zq0 hP hD hS (lv_sub hl [0, 1, 2] rfl))
          refine lv_icmp_lt (tgt := 36) hx hb dX7_rest_29 (by decide) (fun c29 => ?_) (fun c29 => ?_)
          · have gc29 := ai_lt c29
            have u29t_j21l3 : j21l3.toInt ≤ (1 : Int) := ai_lthi gc29 zq13
            refine lv_iconst (v := 0) hx hb dX7_rest_36 zk_iconst_0 ?_
            exact (hK0 _ _ _).mp (J37 0 _ _ _  zq5 (Int.le_trans zq6 zq4) hP hD hS (lv_sub hl [0, 1, 2] rfl))
          · have gc29 := ai_nlt c29
            have l29f_j21l3 : (2 : Int) ≤ j21l3.toInt := Int.le_trans zq12 gc29
            refine lv_iconst (v := 1) hx hb dX7_rest_32 zk_iconst_1 ?_
            refine lv_goto (tgt := 37) hx hb dX7_rest_33 (by decide) ?_
            exact (hK0 _ _ _).mp (J37 1 _ _ _  (Int.le_trans zq4 zq1) zq0 hP hD hS (lv_sub hl [0, 1, 2] rfl))
    exact (hK0 _ _ _).mp (J21 5 0 _ _ _ (by first | decide +kernel | (have h1 : (0 : Int) ≤ (0 : Int32).toInt := zq5; have h2 : (0 : Int32).toInt ≤ (0 : Int) := zq6; omega)) zq5 (Int.le_trans zq6 zq101) hP hD hS (lv_sub hl [2, 3, 0] rfl))
  · subst hw
    refine lv_istore_n (lv' := [(2, .int 1), (0, .ref a0), (1, .int a1)]) hx hb dX7_rest_8 rfl hl (by decide) rfl (fun ls hl => ?_)
    refine lv_iload_n hx hb dX7_rest_9 rfl (lv_at hl 0 rfl) ?_
    refine lv_if_eq (tgt := 19) hx hb dX7_rest_10 (by decide) (fun c10 => absurd c10 (by decide +kernel)) (fun _ => ?_)
    refine lv_aload_n hx hb dX7_rest_13 rfl (lv_at hl 1 rfl) ?_
    refine lv_iload_n hx hb dX7_rest_14 rfl (lv_at hl 0 rfl) ?_
    refine va_calli (va_runV (As := [.int 1]) (rest := []) ⟨hx, hb, hml, hown, hts⟩ (c_X7_refused l dC dI H.size a0 1 a0g_0 a0g_1 a0g_2 a0g_3 a0g_4 a0g_5 a0g_6 (.ref a0_7) a0g_9 a0g_10 a0_8 ) (cwV 1 hts gX7_rest_X7_refused rfl rfl rfl zd_X7_refused ⟨Nat.le_of_ble_eq_true rfl, Nat.le_of_ble_eq_true rfl⟩) ⟨ax_blind (fun _ _ _ _ _ => trivial), zr_7 (zp_K hK) (zp_P1 hP) (q0 := 0) rfl, ax_pre (zp_P1 hP) (zp_K hK) (zp_D1 hD) (fun _ _ => trivial)⟩ rfl rfl hl.1 rfl (lv_room (Nat.le_of_ble_eq_true rfl)) dX7_rest_15 ⟨Nat.le_of_ble_eq_true rfl, Nat.le_of_ble_eq_true rfl⟩) hS (fun q _ h => zp_F1 hD hS hA q h) (zp_F1 hD hS hA) (fun r15 u t H locs ht hvm hw => zx_1 (fun v15na0_8 hB hz1 hk1 hS1 => zo1 hB ht hP hD hk1 (zp_F1 hD hS hA) hS1 (fun hP hK1 hD hS => ?_)))
    have hw : r15 = (-1) := hw
    have hw := hw.symm
    subst hw
    exact W.iret (v := (-1)) hx hb hr (fun t ht hW => ⟨⟨(-1), (), rfl, ⟨(Int.le_trans zq76 zq70), (Int.le_trans zq71 zq104)⟩, v15na0_8, by rw [ht]; exact hP, va_K.moved hW.alike hK, hD⟩, hS.F ht⟩) hS.2.2 dX7_rest_18
  · subst hw
    refine lv_istore_n (lv' := [(2, .int 2), (0, .ref a0), (1, .int a1)]) hx hb dX7_rest_8 rfl hl (by decide) rfl (fun ls hl => ?_)
    refine lv_iload_n hx hb dX7_rest_9 rfl (lv_at hl 0 rfl) ?_
    refine lv_if_eq (tgt := 19) hx hb dX7_rest_10 (by decide) (fun c10 => absurd c10 (by decide +kernel)) (fun _ => ?_)
    refine lv_aload_n hx hb dX7_rest_13 rfl (lv_at hl 1 rfl) ?_
    refine lv_iload_n hx hb dX7_rest_14 rfl (lv_at hl 0 rfl) ?_
    refine va_calli (va_runV (As := [.int 2]) (rest := []) ⟨hx, hb, hml, hown, hts⟩ (c_X7_refused l dC dI H.size a0 2 a0g_0 a0g_1 a0g_2 a0g_3 a0g_4 a0g_5 a0g_6 (.ref a0_7) a0g_9 a0g_10 a0_8 ) (cwV 1 hts gX7_rest_X7_refused rfl rfl rfl zd_X7_refused ⟨Nat.le_of_ble_eq_true rfl, Nat.le_of_ble_eq_true rfl⟩) ⟨ax_blind (fun _ _ _ _ _ => trivial), zr_7 (zp_K hK) (zp_P1 hP) (q0 := 0) rfl, ax_pre (zp_P1 hP) (zp_K hK) (zp_D1 hD) (fun _ _ => trivial)⟩ rfl rfl hl.1 rfl (lv_room (Nat.le_of_ble_eq_true rfl)) dX7_rest_15 ⟨Nat.le_of_ble_eq_true rfl, Nat.le_of_ble_eq_true rfl⟩) hS (fun q _ h => zp_F1 hD hS hA q h) (zp_F1 hD hS hA) (fun r15 u t H locs ht hvm hw => zx_1 (fun v15na0_8 hB hz1 hk1 hS1 => zo1 hB ht hP hD hk1 (zp_F1 hD hS hA) hS1 (fun hP hK1 hD hS => ?_)))
    have hw : r15 = (-1) := hw
    have hw := hw.symm
    subst hw
    exact W.iret (v := (-1)) hx hb hr (fun t ht hW => ⟨⟨(-1), (), rfl, ⟨(Int.le_trans zq76 zq70), (Int.le_trans zq71 zq104)⟩, v15na0_8, by rw [ht]; exact hP, va_K.moved hW.alike hK, hD⟩, hS.F ht⟩) hS.2.2 dX7_rest_18

set_option maxHeartbeats 4000000 in
set_option maxRecDepth 100000 in
theorem c_X7_odds (l : Launch) (dC : Nat → ClassId) (dI : Nat → Nat → Nat) (sz : Nat) (a0 : Nat) (a1 : Int32) (a2 : Int32) (a3 : Int32) (a0g_0 a0g_2 a0g_3 a0g_4 a0g_5 a0g_6 a0g_9 a0g_10 : Value) (a0_1 : Nat) (a0_7 : Nat) (a0_8 : Int32) (a0_7_0 : Int32) (a0_7g_1 a0_7g_2 a0_7g_4 a0_7g_7 a0_7g_8 a0_7g_9 a0_7g_10 a0_7g_11 a0_7g_12 a0_7g_13 a0_7g_14 : Value) (a0_7_3 : Int32) (a0_7_5 : Int32) (a0_7_6 : Int32) (a0_1g_0 a0_1g_2 a0_1g_3 a0_1g_4 a0_1g_5 a0_1g_6 : Value) (a0_1_1 : Int32) (ba0_7_0_l : (0 : Int) ≤ a0_7_0.toInt) (ba0_7_0_u : a0_7_0.toInt ≤ (9 : Int)) (ba0_7_5_l : (0 : Int) ≤ a0_7_5.toInt) (ba0_7_5_u : a0_7_5.toInt ≤ (8 : Int)) (ba0_7_6_l : (0 : Int) ≤ a0_7_6.toInt) (ba0_7_6_u : a0_7_6.toInt ≤ (8 : Int)) (ba0_1_1_l : (0 : Int) ≤ a0_1_1.toInt) (ba0_1_1_u : a0_1_1.toInt ≤ (8 : Int)) : zm l yX7_odds wsX7_odds ({ frames := 3, cells := 0, slots := 0, locals := 66 }) [.ref a0, .int a1, .int a2, .int a3] dC dI sz [(a0, .inr (7, [a0g_0, .ref a0_1, a0g_2, a0g_3, a0g_4, a0g_5, a0g_6, .ref a0_7, .int a0_8, a0g_9, a0g_10])), (a0_7, .inr (0, [.int a0_7_0, a0_7g_1, a0_7g_2, .int a0_7_3, a0_7g_4, .int a0_7_5, .int a0_7_6, a0_7g_7, a0_7g_8, a0_7g_9, a0_7g_10, a0_7g_11, a0_7g_12, a0_7g_13, a0_7g_14])), (a0_1, .inr (5, [a0_1g_0, .int a0_1_1, a0_1g_2, a0_1g_3, a0_1g_4, a0_1g_5, a0_1g_6]))] [] (fun A _ => True) (fun A => va_Ql (fun (r : Int64) (_ : Unit) => True) (fun (_ : Unit) (t : State) => ∃ na0_8 : Int32, ax_B dC dI A [(a0, .inr (7, [a0g_0, .ref a0_1, a0g_2, a0g_3, a0g_4, a0g_5, a0g_6, .ref a0_7, .int na0_8, a0g_9, a0g_10])), (a0_7, .inr (0, [.int a0_7_0, a0_7g_1, a0_7g_2, .int a0_7_3, a0_7g_4, .int a0_7_5, .int a0_7_6, a0_7g_7, a0_7g_8, a0_7g_9, a0_7g_10, a0_7g_11, a0_7g_12, a0_7g_13, a0_7g_14])), (a0_1, .inr (5, [a0_1g_0, .int a0_1_1, a0_1g_2, a0_1g_3, a0_1g_4, a0_1g_5, a0_1g_6]))] [] t) A) := by
  refine zh (cc := cX7_odds) (maxL := 11) (ret := (some .long)) zn_RX7 rfl (Nat.le_of_ble_eq_true rfl) (fun p e s m below meth c A ls hx hb hml hr hts (hown : s.vm.findClass RX7 = some m.cls) hlocks hA hS hP hK hD hE (hl : lv_has ls 11 [(0, .ref a0), (1, .int a1), (2, .int a2), (3, .int a3)]) => ?_)
  refine ai_open (fun K hK0 => ?_)
  refine (hK0 _ _ _).mpr ?_
  refine lv_aload_n hx hb dX7_odds_0 rfl (lv_at hl 0 rfl) ?_
  refine lv_iload_n hx hb dX7_odds_1 rfl (lv_at hl 1 rfl) ?_
  refine lv_iload_n hx hb dX7_odds_2 rfl (lv_at hl 2 rfl) ?_
  refine lv_bipush (v := 8) hx hb dX7_odds_3 zk_bipush_8 ?_
  refine va_calli (va_runV (As := [.int a1, .int a2, .int 8]) (rest := []) ⟨hx, hb, hml, hown, hts⟩ (c_X7_troubleOfFigureWithin l dC dI s.heap.size a0 a1 a2 8 a0g_0 (.ref a0_1) a0g_2 a0g_3 a0g_4 a0g_5 a0g_6 (.int a0_8) a0g_9 a0g_10 a0_7 a0_7_0 a0_7g_1 a0_7g_2 (.int a0_7_3) a0_7g_4 (.int a0_7_5) (.int a0_7_6) a0_7g_7 a0_7g_8 a0_7g_9 a0_7g_10 a0_7g_11 a0_7g_12 a0_7g_13 a0_7g_14 ba0_7_0_l ba0_7_0_u) (cwV 3 hts gX7_odds_X7_troubleOfFigureWithin rfl rfl rfl zd_X7_troubleOfFigureWithin ⟨Nat.le_of_ble_eq_true rfl, Nat.le_of_ble_eq_true rfl⟩) ⟨ax_blind (fun _ _ _ _ _ => trivial), zr_7 (zp_K hK) (zp_P2 hP) (q0 := 0) rfl, ax_pre (zp_P2 hP) (zp_K hK) (zp_D2 hD) (fun _ _ => trivial)⟩ rfl rfl hl.1 rfl (lv_room (Nat.le_of_ble_eq_true rfl)) dX7_odds_5 ⟨Nat.le_of_ble_eq_true rfl, Nat.le_of_ble_eq_true rfl⟩) hS (fun q _ h => zp_F2 hD hS hA q h) (zp_F2 hD hS hA) (fun r5 u t H locs ht hvm hw hB hz1 hk1 hS1 => zo2 hB ht hP hD hk1 (zp_F2 hD hS hA) hS1 (fun hP hK1 hD hS => ?_))
  rcases hw with hw | hw | hw
  · obtain ⟨hw, fh5, gh5, kh5, h5⟩ := hw
    subst hw
    have l5k0_a0_7_0 : (1 : Int) ≤ a0_7_0.toInt := fh5
    have l5k0_a1 : (0 : Int) ≤ a1.toInt := gh5
    have u5k0_a1 : a1.toInt ≤ (8 : Int) := kh5
    have l5k0_a2 : (0 : Int) ≤ a2.toInt := Int.le_trans zq5 h5.1
    have u5k0_a2 : a2.toInt ≤ (8 : Int) := Int.le_trans h5.2 zq28
    refine lv_istore (lv' := [(4, .int 0), (0, .ref a0), (1, .int a1), (2, .int a2), (3, .int a3)]) hx hb dX7_odds_8 hl (by decide) rfl (fun ls hl => ?_)
    refine lv_iload hx hb dX7_odds_10 (lv_at hl 0 rfl) ?_
    refine lv_if_eq (tgt := 23) hx hb dX7_odds_12 (by decide) (fun _ => ?_) (fun c12 => absurd (by decide +kernel) c12)
    refine lv_lconst (v := 1) hx hb dX7_odds_23 (by decide) ?_
    refine lv_lstore (lv' := [(5, .long 1), (4, .int 0), (0, .ref a0), (1, .int a1), (2, .int a2), (3, .int a3)]) hx hb dX7_odds_24 hl (by decide) rfl (fun ls hl => ?_)
    refine lv_lconst (v := 1) hx hb dX7_odds_26 (by decide) ?_
    refine lv_lstore (lv' := [(7, .long 1), (5, .long 1), (4, .int 0), (0, .ref a0), (1, .int a1), (2, .int a2), (3, .int a3)]) hx hb dX7_odds_27 hl (by decide) rfl (fun ls hl => ?_)
    refine lv_aload_n hx hb dX7_odds_29 rfl (lv_at hl 3 rfl) ?_
    refine lv_iload_n hx hb dX7_odds_30 rfl (lv_at hl 4 rfl) ?_
    refine lv_iload_n hx hb dX7_odds_31 rfl (lv_at hl 5 rfl) ?_
    refine zc_cutc (wc := [(a0, .inr (7, [a0g_0, .ref a0_1, a0g_2, a0g_3, a0g_4, a0g_5, a0g_6, .ref a0_7, .int a0_8, a0g_9, a0g_10])), (a0_1, .inr (5, [a0_1g_0, .int a0_1_1, a0_1g_2, a0_1g_3, a0_1g_4, a0_1g_5, a0_1g_6])), (a0_7, .inr (0, [.int a0_7_0, a0_7g_1, a0_7g_2, .int a0_7_3, a0_7g_4, .int a0_7_5, .int a0_7_6, a0_7g_7, a0_7g_8, a0_7g_9, a0_7g_10, a0_7g_11, a0_7g_12, a0_7g_13, a0_7g_14]))]) hP hD hS hA [0, 2, 1] (by decide +kernel) rfl (fun hPc hDc hFc hCc => ?_)
    have hKc := zp_K hK
    refine va_calli (va_runV (As := [.int a1, .int a2]) (rest := []) ⟨hx, hb, hml, hown, hts⟩ (c_X7_ownTurns l dC dI H.size a0 a1 a2 a0g_0 a0g_2 a0g_3 a0g_4 a0g_5 a0g_6 (.int a0_8) a0g_9 a0g_10 a0_1 a0_7 a0_1g_0 a0_1g_2 a0_1g_3 a0_1g_4 a0_1g_5 a0_1g_6 a0_1_1 a0_7_0 a0_7g_1 a0_7g_2 (.int a0_7_3) a0_7g_4 a0_7g_7 a0_7g_8 a0_7g_9 a0_7g_10 a0_7g_11 a0_7g_12 a0_7g_13 a0_7g_14 a0_7_5 a0_7_6 ba0_1_1_l ba0_1_1_u (Int.le_trans zq4 l5k0_a0_7_0) ba0_7_0_u ba0_7_5_l ba0_7_5_u ba0_7_6_l ba0_7_6_u) (cwV 2 hts gX7_odds_X7_ownTurns rfl rfl rfl zd_X7_ownTurns ⟨Nat.le_of_ble_eq_true rfl, Nat.le_of_ble_eq_true rfl⟩) ⟨ax_blind (fun _ _ _ _ _ => trivial), zr_7 hKc hPc (q0 := 0) rfl, ax_pre hPc hKc hDc (fun _ _ => trivial)⟩ rfl rfl hl.1 rfl (lv_room (Nat.le_of_ble_eq_true rfl)) dX7_odds_32 ⟨Nat.le_of_ble_eq_true rfl, Nat.le_of_ble_eq_true rfl⟩) hS (fun q _ h => hFc q h) hFc (fun r32 u t H locs ht hvm hw hB hz1 hk1 hS1 => zo hB ht hS1 (fun hP1 hK1 hD1 hS => ?_))
    refine zc_backc (w := [(a0, .inr (7, [a0g_0, .ref a0_1, a0g_2, a0g_3, a0g_4, a0g_5, a0g_6, .ref a0_7, .int a0_8, a0g_9, a0g_10])), (a0_7, .inr (0, [.int a0_7_0, a0_7g_1, a0_7g_2, .int a0_7_3, a0_7g_4, .int a0_7_5, .int a0_7_6, a0_7g_7, a0_7g_8, a0_7g_9, a0_7g_10, a0_7g_11, a0_7g_12, a0_7g_13, a0_7g_14])), (a0_1, .inr (5, [a0_1g_0, .int a0_1_1, a0_1g_2, a0_1g_3, a0_1g_4, a0_1g_5, a0_1g_6]))]) hP hD hCc hk1 hFc hP1 hD1 [.inr 0, .inr 2, .inr 1] (by decide +kernel) rfl (fun hP hD => ?_)
    refine lv_istore (lv' := [(9, .int r32), (7, .long 1), (5, .long 1), (4, .int 0), (0, .ref a0), (1, .int a1), (2, .int a2), (3, .int a3)]) hx hb dX7_odds_35 hl (by decide) rfl (fun ls hl => ?_)
    refine lv_iconst (v := 0) hx hb dX7_odds_37 zk_iconst_0 ?_
    refine lv_istore (lv' := [(10, .int 0), (9, .int r32), (7, .long 1), (5, .long 1), (4, .int 0), (0, .ref a0), (1, .int a1), (2, .int a2), (3, .int a3)]) hx hb dX7_odds_38 hl (by decide) rfl (fun ls hl => ?_)
    have J40 : ∀ (n : Nat) (j40l10 : Int32) (j40l7 : Int64) (j40l5 : Int64) (H : Heap) (locs : List Loc) (ls : Array Slot), (2147483648 : Int) - j40l10.toInt ≤ (n : Int) → (0 : Int) ≤ j40l10.toInt → va_P (dC, dI) vwCl [(a0, .inr (7, [a0g_0, .ref a0_1, a0g_2, a0g_3, a0g_4, a0g_5, a0g_6, .ref a0_7, .int a0_8, a0g_9, a0g_10])), (a0_7, .inr (0, [.int a0_7_0, a0_7g_1, a0_7g_2, .int a0_7_3, a0_7g_4, .int a0_7_5, .int a0_7_6, a0_7g_7, a0_7g_8, a0_7g_9, a0_7g_10, a0_7g_11, a0_7g_12, a0_7g_13, a0_7g_14])), (a0_1, .inr (5, [a0_1g_0, .int a0_1_1, a0_1g_2, a0_1g_3, a0_1g_4, a0_1g_5, a0_1g_6]))] H → va_D A [(a0, .inr (7, [a0g_0, .ref a0_1, a0g_2, a0g_3, a0g_4, a0g_5, a0g_6, .ref a0_7, .int a0_8, a0g_9, a0g_10])), (a0_7, .inr (0, [.int a0_7_0, a0_7g_1, a0_7g_2, .int a0_7_3, a0_7g_4, .int a0_7_5, .int a0_7_6, a0_7g_7, a0_7g_8, a0_7g_9, a0_7g_10, a0_7g_11, a0_7g_12, a0_7g_13, a0_7g_14])), (a0_1, .inr (5, [a0_1g_0, .int a0_1_1, a0_1g_2, a0_1g_3, a0_1g_4, a0_1g_5, a0_1g_6]))] → va_S A s.heap H locs → lv_has ls 11 [(0, .ref a0), (3, .int a3), (5, .long j40l5), (7, .long j40l7), (9, .int r32), (10, .int j40l10)] → K H locs (F0 m 40 ls []) := by
      intro n
      induction n with
      | zero =>
        intro j40l10 j40l7 j40l5 H locs ls hm bj40l10_l hP hD hS hl
        have h8 := ai_min j40l10
        have h9 := ai_max j40l10
        exact absurd hm (by omega)
      | succ n ih40 =>
        intro j40l10 j40l7 j40l5 H locs ls hm bj40l10_l hP hD hS hl
        refine (hK0 _ _ _).mpr ?_
        have hm40 := hm
        refine lv_iload hx hb dX7_odds_40 (lv_at hl 5 rfl) ?_
        refine lv_iload hx hb dX7_odds_42 (lv_at hl 4 rfl) ?_
        refine lv_icmp_ge (tgt := 74) hx hb dX7_odds_44 (by decide) (fun c44 => ?_) (fun c44 => ?_)
        · have gc44 := ai_le c44
          refine lv_aload_n hx hb dX7_odds_74 rfl (lv_at hl 0 rfl) ?_
          refine lv_iconst (v := 0) hx hb dX7_odds_75 zk_iconst_0 ?_
          refine va_put (D := (dC, dI)) (ci := 7) (v := .int 0) (ty := .int) (C := RX7) (T := TX7) (N := 11) hx hb hts zi_X7_odds_7 tyX7 tyX7_ok nmX7 hown hK hP hD hS 0 rfl rfl 8 (by decide) (hts (.fieldLink RX7 61 "WaxTurns" "latestTrouble" "I") (zm_X7_odds_r1 (List.mem_of_getElem? (i := 3) rfl))) (fun _ h9 => h9) rfl (tyX7_ok 8 (by decide)) rfl rfl (Nat.le_of_ble_eq_true rfl) dX7_odds_76 (fun H locs hP hD hS => ?_)
          refine zs_0 (y := (a0, .inr (7, [a0g_0, .ref a0_1, a0g_2, a0g_3, a0g_4, a0g_5, a0g_6, .ref a0_7, .int 0, a0g_9, a0g_10]))) hP hD rfl (fun hP hD => ?_)
          refine lv_lload hx hb dX7_odds_79 (lv_at hl 2 rfl) ?_
          refine lv_lload hx hb dX7_odds_81 (lv_at hl 3 rfl) ?_
          refine lv_lsub hx hb dX7_odds_83 ?_
          refine lv_topl (fun x83 ex83 => ?_)
          refine lv_lload hx hb dX7_odds_84 (lv_at hl 2 rfl) ?_
          refine lv_iload_n hx hb dX7_odds_86 rfl (lv_at hl 1 rfl) ?_
          refine va_calll (va_runS (As := [.long x83, .long j40l5, .int a3]) (rest := []) ⟨hx, hb, hml, hown, hts⟩ (c_X7_inLowestTerms l dC dI H.size x83 j40l5 a3 ) (va_cwS 3 hts gX7_odds_X7_inLowestTerms rfl rfl rfl zd_X7_inLowestTerms.2 ⟨Nat.le_of_ble_eq_true rfl, Nat.le_of_ble_eq_true rfl⟩) ⟨ax_blind (fun _ _ _ _ _ => trivial), ax_pre (zp_P0 hP) (zp_K hK) (zp_D0 hD) (fun _ _ => trivial)⟩ rfl rfl hl.1 rfl (lv_room (Nat.le_of_ble_eq_true rfl)) dX7_odds_87 ⟨Nat.le_of_ble_eq_true rfl, Nat.le_of_ble_eq_true rfl⟩) hS (fun q _ h => zp_F0 hD hS hA q h) (zp_F0 hD hS hA) (fun r87 u t H locs ht hvm hw hB hz1 hk1 hS1 => zo0 hB ht hP hD hk1 (zp_F0 hD hS hA) hS1 (fun hP hK1 hD hS => ?_))
          exact W.lret (v := r87) hx hb hr (fun t ht hW => ⟨⟨r87, (), rfl, trivial, 0, by rw [ht]; exact hP, va_K.moved hW.alike hK, hD⟩, hS.F ht⟩) hS.2.2 dX7_odds_90
        · have gc44 := ai_nle c44
          have u44f_j40l10 : j40l10.toInt ≤ (2147483646 : Int) := ai_lthi gc44 (ai_max r32)
          have l44f_r32 : (1 : Int) ≤ r32.toInt := ai_ltlo gc44 bj40l10_l
          refine lv_lload hx hb dX7_odds_47 (lv_at hl 2 rfl) ?_
          refine lv_ldc2 (v := 100) hx hb hown (hts (.constantLong RX7 314 (100)) (zm_X7_odds_r1 (List.mem_of_getElem? (i := 0) rfl))) dX7_odds_49 ?_
          refine lv_lmul hx hb dX7_odds_52 ?_
          refine lv_topl (fun x52 ex52 => ?_)
          refine lv_lstore (lv' := [(5, .long x52), (0, .ref a0), (3, .int a3), (7, .long j40l7), (9, .int r32), (10, .int j40l10)]) hx hb dX7_odds_53 hl (by decide) rfl (fun ls hl => ?_)
          refine lv_lload hx hb dX7_odds_55 (lv_at hl 3 rfl) ?_
          refine lv_aload_n hx hb dX7_odds_57 rfl (lv_at hl 1 rfl) ?_
          refine va_get (D := (dC, dI)) (ci := 7) (v := .ref a0_7) (C := RX7) (T := TX7) (N := 11) hx hb hts zi_X7_odds_7 hown hK hP 0 rfl rfl 7 (by decide) (hts (.fieldLink RX7 57 "WaxTurns" "hall" "LWaxTurns$Hall;") (zm_X7_odds_r1 (List.mem_of_getElem? (i := 1) rfl))) (fun _ h9 => h9) rfl dX7_odds_58 ?_
          refine va_get (D := (dC, dI)) (ci := 0) (v := .int a0_7_3) (C := RX0) (T := TX0) (N := 15) hx hb hts zi_X7_odds_0 hown hK hP 1 rfl rfl 3 (by decide) (hts (.fieldLink RX7 316 "WaxTurns$Hall" "shut" "I") (zm_X7_odds_r1 (List.mem_of_getElem? (i := 2) rfl))) (fun _ h9 => h9) rfl dX7_odds_61 ?_
          obtain ⟨x64, ex64⟩ : ∃ y : Int64, y = (a0_7_3 : Int32).toInt64 := ⟨_, rfl⟩
          refine lv_i2l (v := x64) hx hb dX7_odds_64 ex64.symm ?_
          refine lv_lmul hx hb dX7_odds_65 ?_
          refine lv_topl (fun x65 ex65 => ?_)
          refine lv_lstore (lv' := [(7, .long x65), (5, .long x52), (0, .ref a0), (3, .int a3), (9, .int r32), (10, .int j40l10)]) hx hb dX7_odds_66 hl (by decide) rfl (fun ls hl => ?_)
          obtain ⟨x68, ex68⟩ : ∃ y : Int32, y = j40l10 + Int32.ofInt 1 := ⟨_, rfl⟩
          have qx68 : x68.toInt = j40l10.toInt + 1 := ai_inc ex68 (by decide) (by decide) u44f_j40l10 (by decide)
          have bx68 : (1 : Int) ≤ x68.toInt ∧ x68.toInt ≤ 2147483647 := ⟨by rw [qx68]; exact Int.add_le_add bj40l10_l (Int.le_refl _), by rw [qx68]; exact Int.add_le_add u44f_j40l10 (Int.le_refl _)⟩
          refine lv_iinc (v := x68) (lv' := [(10, .int x68), (7, .long x65), (5, .long x52), (0, .ref a0), (3, .int a3), (9, .int r32)]) hx hb dX7_odds_68 hl (k := 5) rfl ex68.symm (by decide) rfl (fun ls hl => ?_)
          refine lv_goto (tgt := 40) hx hb dX7_odds_71 (by decide) ?_
          exact (hK0 _ _ _).mp (ih40 x68 x65 x52 _ _ _ (by first | exact zg_s hm40 qx68 | (have h0 := qx68; omega)) (Int.le_trans zq4 bx68.1) hP hD hS (lv_sub hl [3, 4, 2, 1, 5, 0] rfl))
    exact (hK0 _ _ _).mp (J40 2147483648 0 1 1 _ _ _ (by first | decide +kernel | (have h1 : (0 : Int) ≤ (0 : Int32).toInt := zq5; have h2 : (0 : Int32).toInt ≤ (0 : Int) := zq6; omega)) zq5 hP hD hS (lv_sub hl [5, 8, 3, 2, 1, 0] rfl))
  · subst hw
    refine lv_istore (lv' := [(4, .int 1), (0, .ref a0), (1, .int a1), (2, .int a2), (3, .int a3)]) hx hb dX7_odds_8 hl (by decide) rfl (fun ls hl => ?_)
    refine lv_iload hx hb dX7_odds_10 (lv_at hl 0 rfl) ?_
    refine lv_if_eq (tgt := 23) hx hb dX7_odds_12 (by decide) (fun c12 => absurd c12 (by decide +kernel)) (fun _ => ?_)
    refine lv_aload_n hx hb dX7_odds_15 rfl (lv_at hl 1 rfl) ?_
    refine lv_iload hx hb dX7_odds_16 (lv_at hl 0 rfl) ?_
    refine va_calli (va_runV (As := [.int 1]) (rest := []) ⟨hx, hb, hml, hown, hts⟩ (c_X7_refused l dC dI H.size a0 1 a0g_0 (.ref a0_1) a0g_2 a0g_3 a0g_4 a0g_5 a0g_6 (.ref a0_7) a0g_9 a0g_10 a0_8 ) (cwV 1 hts gX7_odds_X7_refused rfl rfl rfl zd_X7_refused ⟨Nat.le_of_ble_eq_true rfl, Nat.le_of_ble_eq_true rfl⟩) ⟨ax_blind (fun _ _ _ _ _ => trivial), zr_7 (zp_K hK) (zp_P1 hP) (q0 := 0) rfl, ax_pre (zp_P1 hP) (zp_K hK) (zp_D1 hD) (fun _ _ => trivial)⟩ rfl rfl hl.1 rfl (lv_room (Nat.le_of_ble_eq_true rfl)) dX7_odds_18 ⟨Nat.le_of_ble_eq_true rfl, Nat.le_of_ble_eq_true rfl⟩) hS (fun q _ h => zp_F1 hD hS hA q h) (zp_F1 hD hS hA) (fun r18 u t H locs ht hvm hw => zx_1 (fun v18na0_8 hB hz1 hk1 hS1 => zo1 hB ht hP hD hk1 (zp_F1 hD hS hA) hS1 (fun hP hK1 hD hS => ?_)))
    have hw : r18 = (-1) := hw
    have hw := hw.symm
    subst hw
    obtain ⟨x21, ex21⟩ : ∃ y : Int64, y = ((-1) : Int32).toInt64 := ⟨_, rfl⟩
    refine lv_i2l (v := x21) hx hb dX7_odds_21 ex21.symm ?_
    exact W.lret (v := x21) hx hb hr (fun t ht hW => ⟨⟨x21, (), rfl, trivial, v18na0_8, by rw [ht]; exact hP, va_K.moved hW.alike hK, hD⟩, hS.F ht⟩) hS.2.2 dX7_odds_22
  · subst hw
    refine lv_istore (lv' := [(4, .int 2), (0, .ref a0), (1, .int a1), (2, .int a2), (3, .int a3)]) hx hb dX7_odds_8 hl (by decide) rfl (fun ls hl => ?_)
    refine lv_iload hx hb dX7_odds_10 (lv_at hl 0 rfl) ?_
    refine lv_if_eq (tgt := 23) hx hb dX7_odds_12 (by decide) (fun c12 => absurd c12 (by decide +kernel)) (fun _ => ?_)
    refine lv_aload_n hx hb dX7_odds_15 rfl (lv_at hl 1 rfl) ?_
    refine lv_iload hx hb dX7_odds_16 (lv_at hl 0 rfl) ?_
    refine va_calli (va_runV (As := [.int 2]) (rest := []) ⟨hx, hb, hml, hown, hts⟩ (c_X7_refused l dC dI H.size a0 2 a0g_0 (.ref a0_1) a0g_2 a0g_3 a0g_4 a0g_5 a0g_6 (.ref a0_7) a0g_9 a0g_10 a0_8 ) (cwV 1 hts gX7_odds_X7_refused rfl rfl rfl zd_X7_refused ⟨Nat.le_of_ble_eq_true rfl, Nat.le_of_ble_eq_true rfl⟩) ⟨ax_blind (fun _ _ _ _ _ => trivial), zr_7 (zp_K hK) (zp_P1 hP) (q0 := 0) rfl, ax_pre (zp_P1 hP) (zp_K hK) (zp_D1 hD) (fun _ _ => trivial)⟩ rfl rfl hl.1 rfl (lv_room (Nat.le_of_ble_eq_true rfl)) dX7_odds_18 ⟨Nat.le_of_ble_eq_true rfl, Nat.le_of_ble_eq_true rfl⟩) hS (fun q _ h => zp_F1 hD hS hA q h) (zp_F1 hD hS hA) (fun r18 u t H locs ht hvm hw => zx_1 (fun v18na0_8 hB hz1 hk1 hS1 => zo1 hB ht hP hD hk1 (zp_F1 hD hS hA) hS1 (fun hP hK1 hD hS => ?_)))
    have hw : r18 = (-1) := hw
    have hw := hw.symm
    subst hw
    obtain ⟨x21, ex21⟩ : ∃ y : Int64, y = ((-1) : Int32).toInt64 := ⟨_, rfl⟩
    refine lv_i2l (v := x21) hx hb dX7_odds_21 ex21.symm ?_
    exact W.lret (v := x21) hx hb hr (fun t ht hW => ⟨⟨x21, (), rfl, trivial, v18na0_8, by rw [ht]; exact hP, va_K.moved hW.alike hK, hD⟩, hS.F ht⟩) hS.2.2 dX7_odds_22
end P121_safe
section P122_safe
set_option maxHeartbeats 4000000 in
set_option maxRecDepth 100000 in
theorem c_X7_mean (l : Launch) (dC : Nat → ClassId) (dI : Nat → Nat → Nat) (sz : Nat) (a0 : Nat) (a1 : Int32) (a2 : Int32) (a3 : Int32) (a0g_0 a0g_2 a0g_3 a0g_4 a0g_5 a0g_6 a0g_9 a0g_10 : Value) (a0_1 : Nat) (a0_7 : Nat) (a0_8 : Int32) (a0_7_0 : Int32) (a0_7g_1 a0_7g_2 a0_7g_4 a0_7g_7 a0_7g_8 a0_7g_9 a0_7g_10 a0_7g_11 a0_7g_12 a0_7g_13 a0_7g_14 : Value) (a0_7_3 : Int32) (a0_7_5 : Int32) (a0_7_6 : Int32) (a0_1g_0 a0_1g_2 a0_1g_3 a0_1g_4 a0_1g_5 a0_1g_6 : Value) (a0_1_1 : Int32) (ba0_7_0_l : (0 : Int) ≤ a0_7_0.toInt) (ba0_7_0_u : a0_7_0.toInt ≤ (9 : Int)) (ba0_7_5_l : (0 : Int) ≤ a0_7_5.toInt) (ba0_7_5_u : a0_7_5.toInt ≤ (8 : Int)) (ba0_7_6_l : (0 : Int) ≤ a0_7_6.toInt) (ba0_7_6_u : a0_7_6.toInt ≤ (8 : Int)) (ba0_1_1_l : (0 : Int) ≤ a0_1_1.toInt) (ba0_1_1_u : a0_1_1.toInt ≤ (8 : Int)) : zm l yX7_mean wsX7_mean ({ frames := 3, cells := 0, slots := 0, locals := 66 }) [.ref a0, .int a1, .int a2, .int a3] dC dI sz [(a0, .inr (7, [a0g_0, .ref a0_1, a0g_2, a0g_3, a0g_4, a0g_5, a0g_6, .ref a0_7, .int a0_8, a0g_9, a0g_10])), (a0_7, .inr (0, [.int a0_7_0, a0_7g_1, a0_7g_2, .int a0_7_3, a0_7g_4, .int a0_7_5, .int a0_7_6, a0_7g_7, a0_7g_8, a0_7g_9, a0_7g_10, a0_7g_11, a0_7g_12, a0_7g_13, a0_7g_14])), (a0_1, .inr (5, [a0_1g_0, .int a0_1_1, a0_1g_2, a0_1g_3, a0_1g_4, a0_1g_5, a0_1g_6]))] [] (fun A _ => True) (fun A => va_Ql (fun (r : Int64) (_ : Unit) => True) (fun (_ : Unit) (t : State) => ∃ na0_8 : Int32, ax_B dC dI A [(a0, .inr (7, [a0g_0, .ref a0_1, a0g_2, a0g_3, a0g_4, a0g_5, a0g_6, .ref a0_7, .int na0_8, a0g_9, a0g_10])), (a0_7, .inr (0, [.int a0_7_0, a0_7g_1, a0_7g_2, .int a0_7_3, a0_7g_4, .int a0_7_5, .int a0_7_6, a0_7g_7, a0_7g_8, a0_7g_9, a0_7g_10, a0_7g_11, a0_7g_12, a0_7g_13, a0_7g_14])), (a0_1, .inr (5, [a0_1g_0, .int a0_1_1, a0_1g_2, a0_1g_3, a0_1g_4, a0_1g_5, a0_1g_6]))] [] t) A) := by
  refine zh (cc := cX7_mean) (maxL := 5) (ret := (some .long)) zn_RX7 rfl (Nat.le_of_ble_eq_true rfl) (fun p e s m below meth c A ls hx hb hml hr hts (hown : s.vm.findClass RX7 = some m.cls) hlocks hA hS hP hK hD hE (hl : lv_has ls 5 [(0, .ref a0), (1, .int a1), (2, .int a2), (3, .int a3)]) => ?_)
  refine lv_aload_n hx hb dX7_mean_0 rfl (lv_at hl 0 rfl) ?_
  refine lv_iload_n hx hb dX7_mean_1 rfl (lv_at hl 1 rfl) ?_
  refine lv_iload_n hx hb dX7_mean_2 rfl (lv_at hl 2 rfl) ?_
  refine lv_bipush (v := 8) hx hb dX7_mean_3 zk_bipush_8 ?_
  refine va_calli (va_runV (As := [.int a1, .int a2, .int 8]) (rest := []) ⟨hx, hb, hml, hown, hts⟩ (c_X7_troubleOfFigureWithin l dC dI s.heap.size a0 a1 a2 8 a0g_0 (.ref a0_1) a0g_2 a0g_3 a0g_4 a0g_5 a0g_6 (.int a0_8) a0g_9 a0g_10 a0_7 a0_7_0 a0_7g_1 a0_7g_2 (.int a0_7_3) a0_7g_4 (.int a0_7_5) (.int a0_7_6) a0_7g_7 a0_7g_8 a0_7g_9 a0_7g_10 a0_7g_11 a0_7g_12 a0_7g_13 a0_7g_14 ba0_7_0_l ba0_7_0_u) (cwV 3 hts gX7_mean_X7_troubleOfFigureWithin rfl rfl rfl zd_X7_troubleOfFigureWithin ⟨Nat.le_of_ble_eq_true rfl, Nat.le_of_ble_eq_true rfl⟩) ⟨ax_blind (fun _ _ _ _ _ => trivial), zr_7 (zp_K hK) (zp_P2 hP) (q0 := 0) rfl, ax_pre (zp_P2 hP) (zp_K hK) (zp_D2 hD) (fun _ _ => trivial)⟩ rfl rfl hl.1 rfl (lv_room (Nat.le_of_ble_eq_true rfl)) dX7_mean_5 ⟨Nat.le_of_ble_eq_true rfl, Nat.le_of_ble_eq_true rfl⟩) hS (fun q _ h => zp_F2 hD hS hA q h) (zp_F2 hD hS hA) (fun r5 u t H locs ht hvm hw hB hz1 hk1 hS1 => zo2 hB ht hP hD hk1 (zp_F2 hD hS hA) hS1 (fun hP hK1 hD hS => ?_))
  rcases hw with hw | hw | hw
  · obtain ⟨hw, fh5, gh5, kh5, h5⟩ := hw
    subst hw
    have l5k0_a0_7_0 : (1 : Int) ≤ a0_7_0.toInt := fh5
    have l5k0_a1 : (0 : Int) ≤ a1.toInt := gh5
    have u5k0_a1 : a1.toInt ≤ (8 : Int) := kh5
    have l5k0_a2 : (0 : Int) ≤ a2.toInt := Int.le_trans zq5 h5.1
    have u5k0_a2 : a2.toInt ≤ (8 : Int) := Int.le_trans h5.2 zq28
    refine lv_istore (lv' := [(4, .int 0), (0, .ref a0), (1, .int a1), (2, .int a2), (3, .int a3)]) hx hb dX7_mean_8 hl (by decide) rfl (fun ls hl => ?_)
    refine lv_iload hx hb dX7_mean_10 (lv_at hl 0 rfl) ?_
    refine lv_if_eq (tgt := 23) hx hb dX7_mean_12 (by decide) (fun _ => ?_) (fun c12 => absurd (by decide +kernel) c12)
    refine lv_aload_n hx hb dX7_mean_23 rfl (lv_at hl 1 rfl) ?_
    refine lv_iconst (v := 0) hx hb dX7_mean_24 zk_iconst_0 ?_
    refine va_put (D := (dC, dI)) (ci := 7) (v := .int 0) (ty := .int) (C := RX7) (T := TX7) (N := 11) hx hb hts zi_X7_mean_7 tyX7 tyX7_ok nmX7 hown hK hP hD hS 0 rfl rfl 8 (by decide) (hts (.fieldLink RX7 61 "WaxTurns" "latestTrouble" "I") (zm_X7_mean_r1 (List.mem_of_getElem? (i := 0) rfl))) (fun _ h9 => h9) rfl (tyX7_ok 8 (by decide)) rfl rfl (Nat.le_of_ble_eq_true rfl) dX7_mean_25 (fun H locs hP hD hS => ?_)
    refine zs_0 (y := (a0, .inr (7, [a0g_0, .ref a0_1, a0g_2, a0g_3, a0g_4, a0g_5, a0g_6, .ref a0_7, .int 0, a0g_9, a0g_10]))) hP hD rfl (fun hP hD => ?_)
    refine lv_aload_n hx hb dX7_mean_28 rfl (lv_at hl 1 rfl) ?_
    refine lv_iload_n hx hb dX7_mean_29 rfl (lv_at hl 2 rfl) ?_
    refine lv_iload_n hx hb dX7_mean_30 rfl (lv_at hl 3 rfl) ?_
    refine zc_cutc (wc := [(a0, .inr (7, [a0g_0, .ref a0_1, a0g_2, a0g_3, a0g_4, a0g_5, a0g_6, .ref a0_7, .int 0, a0g_9, a0g_10])), (a0_1, .inr (5, [a0_1g_0, .int a0_1_1, a0_1g_2, a0_1g_3, a0_1g_4, a0_1g_5, a0_1g_6])), (a0_7, .inr (0, [.int a0_7_0, a0_7g_1, a0_7g_2, .int a0_7_3, a0_7g_4, .int a0_7_5, .int a0_7_6, a0_7g_7, a0_7g_8, a0_7g_9, a0_7g_10, a0_7g_11, a0_7g_12, a0_7g_13, a0_7g_14]))]) hP hD hS hA [0, 2, 1] (by decide +kernel) rfl (fun hPc hDc hFc hCc => ?_)
    have hKc := zp_K hK
    refine va_calli (va_runV (As := [.int a1, .int a2]) (rest := []) ⟨hx, hb, hml, hown, hts⟩ (c_X7_ownTurns l dC dI H.size a0 a1 a2 a0g_0 a0g_2 a0g_3 a0g_4 a0g_5 a0g_6 (.int 0) a0g_9 a0g_10 a0_1 a0_7 a0_1g_0 a0_1g_2 a0_1g_3 a0_1g_4 a0_1g_5 a0_1g_6 a0_1_1 a0_7_0 a0_7g_1 a0_7g_2 (.int a0_7_3) a0_7g_4 a0_7g_7 a0_7g_8 a0_7g_9 a0_7g_10 a0_7g_11 a0_7g_12 a0_7g_13 a0_7g_14 a0_7_5 a0_7_6 ba0_1_1_l ba0_1_1_u (Int.le_trans zq4 l5k0_a0_7_0) ba0_7_0_u ba0_7_5_l ba0_7_5_u ba0_7_6_l ba0_7_6_u) (cwV 2 hts gX7_mean_X7_ownTurns rfl rfl rfl zd_X7_ownTurns ⟨Nat.le_of_ble_eq_true rfl, Nat.le_of_ble_eq_true rfl⟩) ⟨ax_blind (fun _ _ _ _ _ => trivial), zr_7 hKc hPc (q0 := 0) rfl, ax_pre hPc hKc hDc (fun _ _ => trivial)⟩ rfl rfl hl.1 rfl (lv_room (Nat.le_of_ble_eq_true rfl)) dX7_mean_31 ⟨Nat.le_of_ble_eq_true rfl, Nat.le_of_ble_eq_true rfl⟩) hS (fun q _ h => hFc q h) hFc (fun r31 u t H locs ht hvm hw hB hz1 hk1 hS1 => zo hB ht hS1 (fun hP1 hK1 hD1 hS => ?_))
    refine zc_backc (w := [(a0, .inr (7, [a0g_0, .ref a0_1, a0g_2, a0g_3, a0g_4, a0g_5, a0g_6, .ref a0_7, .int 0, a0g_9, a0g_10])), (a0_7, .inr (0, [.int a0_7_0, a0_7g_1, a0_7g_2, .int a0_7_3, a0_7g_4, .int a0_7_5, .int a0_7_6, a0_7g_7, a0_7g_8, a0_7g_9, a0_7g_10, a0_7g_11, a0_7g_12, a0_7g_13, a0_7g_14])), (a0_1, .inr (5, [a0_1g_0, .int a0_1_1, a0_1g_2, a0_1g_3, a0_1g_4, a0_1g_5, a0_1g_6]))]) hP hD hCc hk1 hFc hP1 hD1 [.inr 0, .inr 2, .inr 1] (by decide +kernel) rfl (fun hP hD => ?_)
    obtain ⟨x34, ex34⟩ : ∃ y : Int64, y = (r31 : Int32).toInt64 := ⟨_, rfl⟩
    refine lv_i2l (v := x34) hx hb dX7_mean_34 ex34.symm ?_
    refine lv_bipush (v := 100) hx hb dX7_mean_35 zk_bipush_100 ?_
    refine lv_aload_n hx hb dX7_mean_37 rfl (lv_at hl 1 rfl) ?_
    refine va_get (D := (dC, dI)) (ci := 7) (v := .ref a0_7) (C := RX7) (T := TX7) (N := 11) hx hb hts zi_X7_mean_7 hown hK hP 0 rfl rfl 7 (by decide) (hts (.fieldLink RX7 57 "WaxTurns" "hall" "LWaxTurns$Hall;") (zm_X7_mean_r1 (List.mem_of_getElem? (i := 1) rfl))) (fun _ h9 => h9) rfl dX7_mean_38 ?_
    refine va_get (D := (dC, dI)) (ci := 0) (v := .int a0_7_3) (C := RX0) (T := TX0) (N := 15) hx hb hts zi_X7_mean_0 hown hK hP 1 rfl rfl 3 (by decide) (hts (.fieldLink RX7 316 "WaxTurns$Hall" "shut" "I") (zm_X7_mean_r1 (List.mem_of_getElem? (i := 2) rfl))) (fun _ h9 => h9) rfl dX7_mean_41 ?_
    refine lv_isub hx hb dX7_mean_44 ?_
    refine lv_topi (fun x44 ex44 => ?_)
    obtain ⟨x45, ex45⟩ : ∃ y : Int64, y = (x44 : Int32).toInt64 := ⟨_, rfl⟩
    refine lv_i2l (v := x45) hx hb dX7_mean_45 ex45.symm ?_
    refine lv_lmul hx hb dX7_mean_46 ?_
    refine lv_topl (fun x46 ex46 => ?_)
    refine lv_ldc2 (v := 100) hx hb hown (hts (.constantLong RX7 314 (100)) (zm_X7_mean_r1 (List.mem_of_getElem? (i := 3) rfl))) dX7_mean_47 ?_
    refine lv_iload_n hx hb dX7_mean_50 rfl (lv_at hl 4 rfl) ?_
    refine va_calll (va_runS (As := [.long x46, .long 100, .int a3]) (rest := []) ⟨hx, hb, hml, hown, hts⟩ (c_X7_inLowestTerms l dC dI H.size x46 100 a3 ) (va_cwS 3 hts gX7_mean_X7_inLowestTerms rfl rfl rfl zd_X7_inLowestTerms.2 ⟨Nat.le_of_ble_eq_true rfl, Nat.le_of_ble_eq_true rfl⟩) ⟨ax_blind (fun _ _ _ _ _ => trivial), ax_pre (zp_P0 hP) (zp_K hK) (zp_D0 hD) (fun _ _ => trivial)⟩ rfl rfl hl.1 rfl (lv_room (Nat.le_of_ble_eq_true rfl)) dX7_mean_51 ⟨Nat.le_of_ble_eq_true rfl, Nat.le_of_ble_eq_true rfl⟩) hS (fun q _ h => zp_F0 hD hS hA q h) (zp_F0 hD hS hA) (fun r51 u t H locs ht hvm hw hB hz1 hk1 hS1 => zo0 hB ht hP hD hk1 (zp_F0 hD hS hA) hS1 (fun hP hK1 hD hS => ?_))
    exact W.lret (v := r51) hx hb hr (fun t ht hW => ⟨⟨r51, (), rfl, trivial, 0, by rw [ht]; exact hP, va_K.moved hW.alike hK, hD⟩, hS.F ht⟩) hS.2.2 dX7_mean_54
  · subst hw
    refine lv_istore (lv' := [(4, .int 1), (0, .ref a0), (1, .int a1), (2, .int a2), (3, .int a3)]) hx hb dX7_mean_8 hl (by decide) rfl (fun ls hl => ?_)
    refine lv_iload hx hb dX7_mean_10 (lv_at hl 0 rfl) ?_
    refine lv_if_eq (tgt := 23) hx hb dX7_mean_12 (by decide) (fun c12 => absurd c12 (by decide +kernel)) (fun _ => ?_)
    refine lv_aload_n hx hb dX7_mean_15 rfl (lv_at hl 1 rfl) ?_
    refine lv_iload hx hb dX7_mean_16 (lv_at hl 0 rfl) ?_
    refine va_calli (va_runV (As := [.int 1]) (rest := []) ⟨hx, hb, hml, hown, hts⟩ (c_X7_refused l dC dI H.size a0 1 a0g_0 (.ref a0_1) a0g_2 a0g_3 a0g_4 a0g_5 a0g_6 (.ref a0_7) a0g_9 a0g_10 a0_8 ) (cwV 1 hts gX7_mean_X7_refused rfl rfl rfl zd_X7_refused ⟨Nat.le_of_ble_eq_true rfl, Nat.le_of_ble_eq_true rfl⟩) ⟨ax_blind (fun _ _ _ _ _ => trivial), zr_7 (zp_K hK) (zp_P1 hP) (q0 := 0) rfl, ax_pre (zp_P1 hP) (zp_K hK) (zp_D1 hD) (fun _ _ => trivial)⟩ rfl rfl hl.1 rfl (lv_room (Nat.le_of_ble_eq_true rfl)) dX7_mean_18 ⟨Nat.le_of_ble_eq_true rfl, Nat.le_of_ble_eq_true rfl⟩) hS (fun q _ h => zp_F1 hD hS hA q h) (zp_F1 hD hS hA) (fun r18 u t H locs ht hvm hw => zx_1 (fun v18na0_8 hB hz1 hk1 hS1 => zo1 hB ht hP hD hk1 (zp_F1 hD hS hA) hS1 (fun hP hK1 hD hS => ?_)))
    have hw : r18 = (-1) := hw
    have hw := hw.symm
    subst hw
    obtain ⟨x21, ex21⟩ : ∃ y : Int64, y = ((-1) : Int32).toInt64 := ⟨_, rfl⟩
    refine lv_i2l (v := x21) hx hb dX7_mean_21 ex21.symm ?_
    exact W.lret (v := x21) hx hb hr (fun t ht hW => ⟨⟨x21, (), rfl, trivial, v18na0_8, by rw [ht]; exact hP, va_K.moved hW.alike hK, hD⟩, hS.F ht⟩) hS.2.2 dX7_mean_22
  · subst hw
    refine lv_istore (lv' := [(4, .int 2), (0, .ref a0), (1, .int a1), (2, .int a2), (3, .int a3)]) hx hb dX7_mean_8 hl (by decide) rfl (fun ls hl => ?_)
    refine lv_iload hx hb dX7_mean_10 (lv_at hl 0 rfl) ?_
    refine lv_if_eq (tgt := 23) hx hb dX7_mean_12 (by decide) (fun c12 => absurd c12 (by decide +kernel)) (fun _ => ?_)
    refine lv_aload_n hx hb dX7_mean_15 rfl (lv_at hl 1 rfl) ?_
    refine lv_iload hx hb dX7_mean_16 (lv_at hl 0 rfl) ?_
    refine va_calli (va_runV (As := [.int 2]) (rest := []) ⟨hx, hb, hml, hown, hts⟩ (c_X7_refused l dC dI H.size a0 2 a0g_0 (.ref a0_1) a0g_2 a0g_3 a0g_4 a0g_5 a0g_6 (.ref a0_7) a0g_9 a0g_10 a0_8 ) (cwV 1 hts gX7_mean_X7_refused rfl rfl rfl zd_X7_refused ⟨Nat.le_of_ble_eq_true rfl, Nat.le_of_ble_eq_true rfl⟩) ⟨ax_blind (fun _ _ _ _ _ => trivial), zr_7 (zp_K hK) (zp_P1 hP) (q0 := 0) rfl, ax_pre (zp_P1 hP) (zp_K hK) (zp_D1 hD) (fun _ _ => trivial)⟩ rfl rfl hl.1 rfl (lv_room (Nat.le_of_ble_eq_true rfl)) dX7_mean_18 ⟨Nat.le_of_ble_eq_true rfl, Nat.le_of_ble_eq_true rfl⟩) hS (fun q _ h => zp_F1 hD hS hA q h) (zp_F1 hD hS hA) (fun r18 u t H locs ht hvm hw => zx_1 (fun v18na0_8 hB hz1 hk1 hS1 => zo1 hB ht hP hD hk1 (zp_F1 hD hS hA) hS1 (fun hP hK1 hD hS => ?_)))
    have hw : r18 = (-1) := hw
    have hw := hw.symm
    subst hw
    obtain ⟨x21, ex21⟩ : ∃ y : Int64, y = ((-1) : Int32).toInt64 := ⟨_, rfl⟩
    refine lv_i2l (v := x21) hx hb dX7_mean_21 ex21.symm ?_
    exact W.lret (v := x21) hx hb hr (fun t ht hW => ⟨⟨x21, (), rfl, trivial, v18na0_8, by rw [ht]; exact hP, va_K.moved hW.alike hK, hD⟩, hS.F ht⟩) hS.2.2 dX7_mean_22

set_option maxHeartbeats 4000000 in
set_option maxRecDepth 100000 in
theorem c_X7_drawn (l : Launch) (dC : Nat → ClassId) (dI : Nat → Nat → Nat) (sz : Nat) (a0 : Nat) (a1 : Int32) (a2 : Int32) (a3 : Int32) (a0g_0 a0g_2 a0g_3 a0g_4 a0g_5 a0g_6 a0g_9 a0g_10 : Value) (a0_1 : Nat) (a0_7 : Nat) (a0_8 : Int32) (a0_7_0 : Int32) (a0_7g_1 a0_7g_2 a0_7g_4 a0_7g_7 a0_7g_8 a0_7g_9 a0_7g_10 a0_7g_11 a0_7g_12 a0_7g_13 a0_7g_14 : Value) (a0_7_3 : Int32) (a0_7_5 : Int32) (a0_7_6 : Int32) (a0_1g_0 a0_1g_2 a0_1g_3 a0_1g_4 a0_1g_5 a0_1g_6 : Value) (a0_1_1 : Int32) (ba0_7_0_l : (0 : Int) ≤ a0_7_0.toInt) (ba0_7_0_u : a0_7_0.toInt ≤ (9 : Int)) (ba0_7_5_l : (0 : Int) ≤ a0_7_5.toInt) (ba0_7_5_u : a0_7_5.toInt ≤ (8 : Int)) (ba0_7_6_l : (0 : Int) ≤ a0_7_6.toInt) (ba0_7_6_u : a0_7_6.toInt ≤ (8 : Int)) (ba0_1_1_l : (0 : Int) ≤ a0_1_1.toInt) (ba0_1_1_u : a0_1_1.toInt ≤ (8 : Int)) : zm l yX7_drawn wsX7_drawn ({ frames := 2, cells := 0, slots := 0, locals := 43 }) [.ref a0, .int a1, .int a2, .int a3] dC dI sz [(a0, .inr (7, [a0g_0, .ref a0_1, a0g_2, a0g_3, a0g_4, a0g_5, a0g_6, .ref a0_7, .int a0_8, a0g_9, a0g_10])), (a0_7, .inr (0, [.int a0_7_0, a0_7g_1, a0_7g_2, .int a0_7_3, a0_7g_4, .int a0_7_5, .int a0_7_6, a0_7g_7, a0_7g_8, a0_7g_9, a0_7g_10, a0_7g_11, a0_7g_12, a0_7g_13, a0_7g_14])), (a0_1, .inr (5, [a0_1g_0, .int a0_1_1, a0_1g_2, a0_1g_3, a0_1g_4, a0_1g_5, a0_1g_6]))] [] (fun A _ => True) (fun A => va_Qi (fun (r : Int32) (_ : Unit) => True) (fun (_ : Unit) (t : State) => ∃ na0_8 : Int32, ax_B dC dI A [(a0, .inr (7, [a0g_0, .ref a0_1, a0g_2, a0g_3, a0g_4, a0g_5, a0g_6, .ref a0_7, .int na0_8, a0g_9, a0g_10])), (a0_7, .inr (0, [.int a0_7_0, a0_7g_1, a0_7g_2, .int a0_7_3, a0_7g_4, .int a0_7_5, .int a0_7_6, a0_7g_7, a0_7g_8, a0_7g_9, a0_7g_10, a0_7g_11, a0_7g_12, a0_7g_13, a0_7g_14])), (a0_1, .inr (5, [a0_1g_0, .int a0_1_1, a0_1g_2, a0_1g_3, a0_1g_4, a0_1g_5, a0_1g_6]))] [] t) A) := by
  refine zh (cc := cX7_drawn) (maxL := 8) (ret := (some .int)) zn_RX7 rfl (Nat.le_of_ble_eq_true rfl) (fun p e s m below meth c A ls hx hb hml hr hts (hown : s.vm.findClass RX7 = some m.cls) hlocks hA hS hP hK hD hE (hl : lv_has ls 8 [(0, .ref a0), (1, .int a1), (2, .int a2), (3, .int a3)]) => ?_)
  refine ai_open (fun K hK0 => ?_)
  refine (hK0 _ _ _).mpr ?_
  refine lv_aload_n hx hb dX7_drawn_0 rfl (lv_at hl 0 rfl) ?_
  refine lv_iload_n hx hb dX7_drawn_1 rfl (lv_at hl 1 rfl) ?_
  refine va_calli (va_runV (As := [.int a1]) (rest := []) ⟨hx, hb, hml, hown, hts⟩ (c_X7_isFigure l dC dI s.heap.size a0 a1 a0g_0 (.ref a0_1) a0g_2 a0g_3 a0g_4 a0g_5 a0g_6 (.int a0_8) a0g_9 a0g_10 a0_7 a0_7_0 a0_7g_1 a0_7g_2 (.int a0_7_3) a0_7g_4 (.int a0_7_5) (.int a0_7_6) a0_7g_7 a0_7g_8 a0_7g_9 a0_7g_10 a0_7g_11 a0_7g_12 a0_7g_13 a0_7g_14 ba0_7_0_l ba0_7_0_u) (cwV 1 hts gX7_drawn_X7_isFigure rfl rfl rfl zd_X7_isFigure ⟨Nat.le_of_ble_eq_true rfl, Nat.le_of_ble_eq_true rfl⟩) ⟨ax_blind (fun _ _ _ _ _ => trivial), zr_7 (zp_K hK) (zp_P2 hP) (q0 := 0) rfl, ax_pre (zp_P2 hP) (zp_K hK) (zp_D2 hD) (fun _ _ => trivial)⟩ rfl rfl hl.1 rfl (lv_room (Nat.le_of_ble_eq_true rfl)) dX7_drawn_2 ⟨Nat.le_of_ble_eq_true rfl, Nat.le_of_ble_eq_true rfl⟩) hS (fun q _ h => zp_F2 hD hS hA q h) (zp_F2 hD hS hA) (fun r2 u t H locs ht hvm hw hB hz1 hk1 hS1 => zo2 hB ht hP hD hk1 (zp_F2 hD hS hA) hS1 (fun hP hK1 hD hS => ?_))
  rcases hw with hw | hw
  · obtain ⟨hw, h2_0, h2_1, h2_2, h2_3⟩ := hw
    subst hw
    have l2k0_a1 : (0 : Int) ≤ a1.toInt := h2_0
    have u2k0_a1 : a1.toInt ≤ (8 : Int) := h2_1
    have l2k0_a0_7_0 : (1 : Int) ≤ a0_7_0.toInt := h2_2
    have u2k0_a0_7_0 : a0_7_0.toInt ≤ (9 : Int) := ba0_7_0_u
    refine lv_if_ne (tgt := 14) hx hb dX7_drawn_5 (by decide) (fun _ => ?_) (fun c5 => absurd c5 (by decide +kernel))
    refine lv_iload_n hx hb dX7_drawn_14 rfl (lv_at hl 2 rfl) ?_
    refine lv_iconst (v := 0) hx hb dX7_drawn_15 zk_iconst_0 ?_
    refine lv_ldcw (v := 65536) hx hb hown (hts (.constant RX7 323 (65536)) (zm_X7_drawn_r1 (List.mem_of_getElem? (i := 0) rfl))) dX7_drawn_16 ?_
    refine va_calli (va_runS (As := [.int a2, .int 0, .int 65536]) (rest := []) ⟨hx, hb, hml, hown, hts⟩ (c_X7_within l dC dI H.size a2 0 65536 ) (va_cwS 3 hts gX7_drawn_X7_within rfl rfl rfl zd_X7_within.2 ⟨Nat.le_of_ble_eq_true rfl, Nat.le_of_ble_eq_true rfl⟩) ⟨ax_blind (fun _ _ _ _ _ => trivial), ax_pre (zp_P0 hP) (zp_K hK) (zp_D0 hD) (fun _ _ => trivial)⟩ rfl rfl hl.1 rfl (lv_room (Nat.le_of_ble_eq_true rfl)) dX7_drawn_19 ⟨Nat.le_of_ble_eq_true rfl, Nat.le_of_ble_eq_true rfl⟩) hS (fun q _ h => zp_F0 hD hS hA q h) (zp_F0 hD hS hA) (fun r19 u t H locs ht hvm hw hB hz1 hk1 hS1 => zo0 hB ht hP hD hk1 (zp_F0 hD hS hA) hS1 (fun hP hK1 hD hS => ?_))
    rcases hw with hw | hw
    · obtain ⟨hw, h19⟩ := hw
      subst hw
      have l19k0_a2 : (0 : Int) ≤ a2.toInt := Int.le_trans zq5 h19.1
      have u19k0_a2 : a2.toInt ≤ (65536 : Int) := Int.le_trans h19.2 zq105
      refine lv_if_eq (tgt := 36) hx hb dX7_drawn_22 (by decide) (fun c22 => absurd c22 (by decide +kernel)) (fun _ => ?_)
      have J36 : ∀ (H : Heap) (locs : List Loc) (ls : Array Slot), va_P (dC, dI) vwCl [(a0, .inr (7, [a0g_0, .ref a0_1, a0g_2, a0g_3, a0g_4, a0g_5, a0g_6, .ref a0_7, .int a0_8, a0g_9, a0g_10])), (a0_7, .inr (0, [.int a0_7_0, a0_7g_1, a0_7g_2, .int a0_7_3, a0_7g_4, .int a0_7_5, .int a0_7_6, a0_7g_7, a0_7g_8, a0_7g_9, a0_7g_10, a0_7g_11, a0_7g_12, a0_7g_13, a0_7g_14])), (a0_1, .inr (5, [a0_1g_0, .int a0_1_1, a0_1g_2, a0_1g_3, a0_1g_4, a0_1g_5, a0_1g_6]))] H → va_D A [(a0, .inr (7, [a0g_0, .ref a0_1, a0g_2, a0g_3, a0g_4, a0g_5, a0g_6, .ref a0_7, .int a0_8, a0g_9, a0g_10])), (a0_7, .inr (0, [.int a0_7_0, a0_7g_1, a0_7g_2, .int a0_7_3, a0_7g_4, .int a0_7_5, .int a0_7_6, a0_7g_7, a0_7g_8, a0_7g_9, a0_7g_10, a0_7g_11, a0_7g_12, a0_7g_13, a0_7g_14])), (a0_1, .inr (5, [a0_1g_0, .int a0_1_1, a0_1g_2, a0_1g_3, a0_1g_4, a0_1g_5, a0_1g_6]))] → va_S A s.heap H locs → lv_has ls 8 [(0, .ref a0)] → K H locs (F0 m 36 ls []) := by
        intro  H locs ls   hP hD hS hl
        refine (hK0 _ _ _).mpr ?_
        refine lv_aload_n hx hb dX7_drawn_36 rfl (lv_at hl 0 rfl) ?_
        refine lv_iconst (v := 2) hx hb dX7_drawn_37 zk_iconst_2 ?_
        refine va_calli (va_runV (As := [.int 2]) (rest := []) ⟨hx, hb, hml, hown, hts⟩ (c_X7_refused l dC dI H.size a0 2 a0g_0 (.ref a0_1) a0g_2 a0g_3 a0g_4 a0g_5 a0g_6 (.ref a0_7) a0g_9 a0g_10 a0_8 ) (cwV 1 hts gX7_drawn_X7_refused rfl rfl rfl zd_X7_refused ⟨Nat.le_of_ble_eq_true rfl, Nat.le_of_ble_eq_true rfl⟩) ⟨ax_blind (fun _ _ _ _ _ => trivial), zr_7 (zp_K hK) (zp_P1 hP) (q0 := 0) rfl, ax_pre (zp_P1 hP) (zp_K hK) (zp_D1 hD) (fun _ _ => trivial)⟩ rfl rfl hl.1 rfl (lv_room (Nat.le_of_ble_eq_true rfl)) dX7_drawn_38 ⟨Nat.le_of_ble_eq_true rfl, Nat.le_of_ble_eq_true rfl⟩) hS (fun q _ h => zp_F1 hD hS hA q h) (zp_F1 hD hS hA) (fun r38 u t H locs ht hvm hw => zx_1 (fun v38na0_8 hB hz1 hk1 hS1 => zo1 hB ht hP hD hk1 (zp_F1 hD hS hA) hS1 (fun hP hK1 hD hS => ?_)))
        have hw : r38 = (-1) := hw
        have hw := hw.symm
        subst hw
        exact W.iret (v := (-1)) hx hb hr (fun t ht hW => ⟨⟨(-1), (), rfl, trivial, v38na0_8, by rw [ht]; exact hP, va_K.moved hW.alike hK, hD⟩, hS.F ht⟩) hS.2.2 dX7_drawn_41
      refine lv_iload_n hx hb dX7_drawn_25 rfl (lv_at hl 3 rfl) ?_
      refine lv_iconst (v := 0) hx hb dX7_drawn_26 zk_iconst_0 ?_
      refine lv_sipush (v := 200) hx hb dX7_drawn_27 zk_sipush_200 ?_
      refine va_calli (va_runS (As := [.int a3, .int 0, .int 200]) (rest := []) ⟨hx, hb, hml, hown, hts⟩ (c_X7_within l dC dI H.size a3 0 200 ) (va_cwS 3 hts gX7_drawn_X7_within rfl rfl rfl zd_X7_within.2 ⟨Nat.le_of_ble_eq_true rfl, Nat.le_of_ble_eq_true rfl⟩) ⟨ax_blind (fun _ _ _ _ _ => trivial), ax_pre (zp_P0 hP) (zp_K hK) (zp_D0 hD) (fun _ _ => trivial)⟩ rfl rfl hl.1 rfl (lv_room (Nat.le_of_ble_eq_true rfl)) dX7_drawn_30 ⟨Nat.le_of_ble_eq_true rfl, Nat.le_of_ble_eq_true rfl⟩) hS (fun q _ h => zp_F0 hD hS hA q h) (zp_F0 hD hS hA) (fun r30 u t H locs ht hvm hw hB hz1 hk1 hS1 => zo0 hB ht hP hD hk1 (zp_F0 hD hS hA) hS1 (fun hP hK1 hD hS => ?_))
      rcases hw with hw | hw
      · obtain ⟨hw, h30⟩ := hw
        subst hw
        have l30k0_a3 : (0 : Int) ≤ a3.toInt := Int.le_trans zq5 h30.1
        have u30k0_a3 : a3.toInt ≤ (200 : Int) := Int.le_trans h30.2 zq65
        refine lv_if_ne (tgt := 42) hx hb dX7_drawn_33 (by decide) (fun _ => ?_) (fun c33 => absurd c33 (by decide +kernel))
        refine lv_iconst (v := 0) hx hb dX7_drawn_42 zk_iconst_0 ?_
        refine lv_istore (lv' := [(4, .int 0), (0, .ref a0), (1, .int a1), (2, .int a2), (3, .int a3)]) hx hb dX7_drawn_43 hl (by decide) rfl (fun ls hl => ?_)
        refine lv_iload_n hx hb dX7_drawn_45 rfl (lv_at hl 3 rfl) ?_
        refine lv_istore (lv' := [(5, .int a2), (4, .int 0), (0, .ref a0), (1, .int a1), (2, .int a2), (3, .int a3)]) hx hb dX7_drawn_46 hl (by decide) rfl (fun ls hl => ?_)
        refine lv_aload_n hx hb dX7_drawn_48 rfl (lv_at hl 2 rfl) ?_
        refine va_get (D := (dC, dI)) (ci := 7) (v := .ref a0_1) (C := RX7) (T := TX7) (N := 11) hx hb hts zi_X7_drawn_7 hown hK hP 0 rfl rfl 1 (by decide) (hts (.fieldLink RX7 19 "WaxTurns" "now" "LWaxTurns$Scene;") (zm_X7_drawn_r1 (List.mem_of_getElem? (i := 1) rfl))) (fun _ h9 => h9) rfl dX7_drawn_49 ?_
        refine va_get (D := (dC, dI)) (ci := 5) (v := .int a0_1_1) (C := RX5) (T := TX5) (N := 7) hx hb hts zi_X7_drawn_5 hown hK hP 2 rfl rfl 1 (by decide) (hts (.fieldLink RX7 158 "WaxTurns$Scene" "turn" "I") (zm_X7_drawn_r1 (List.mem_of_getElem? (i := 2) rfl))) (fun _ h9 => h9) rfl dX7_drawn_52 ?_
        refine lv_istore (lv' := [(6, .int a0_1_1), (5, .int a2), (4, .int 0), (0, .ref a0), (1, .int a1), (2, .int a2), (3, .int a3)]) hx hb dX7_drawn_55 hl (by decide) rfl (fun ls hl => ?_)
        refine lv_iconst (v := 1) hx hb dX7_drawn_57 zk_iconst_1 ?_
        refine lv_istore (lv' := [(7, .int 1), (6, .int a0_1_1), (5, .int a2), (4, .int 0), (0, .ref a0), (1, .int a1), (2, .int a2), (3, .int a3)]) hx hb dX7_drawn_58 hl (by decide) rfl (fun ls hl => ?_)
        have J60 : ∀ (n : Nat) (j60l7 : Int32) (j60l6 : Int32) (j60l5 : Int32) (j60l4 : Int32) (H : Heap) (locs : List Loc) (ls : Array Slot), (202 : Int) - j60l7.toInt ≤ (n : Int) → (1 : Int) ≤ j60l7.toInt → j60l7.toInt ≤ (201 : Int) → (0 : Int) ≤ j60l6.toInt → j60l6.toInt ≤ (8 : Int) → va_P (dC, dI) vwCl [(a0, .inr (7, [a0g_0, .ref a0_1, a0g_2, a0g_3, a0g_4, a0g_5, a0g_6, .ref a0_7, .int a0_8, a0g_9, a0g_10])), (a0_7, .inr (0, [.int a0_7_0, a0_7g_1, a0_7g_2, .int a0_7_3, a0_7g_4, .int a0_7_5, .int a0_7_6, a0_7g_7, a0_7g_8, a0_7g_9, a0_7g_10, a0_7g_11, a0_7g_12, a0_7g_13, a0_7g_14])), (a0_1, .inr (5, [a0_1g_0, .int a0_1_1, a0_1g_2, a0_1g_3, a0_1g_4, a0_1g_5, a0_1g_6]))] H → va_D A [(a0, .inr (7, [a0g_0, .ref a0_1, a0g_2, a0g_3, a0g_4, a0g_5, a0g_6, .ref a0_7, .int a0_8, a0g_9, a0g_10])), (a0_7, .inr (0, [.int a0_7_0, a0_7g_1, a0_7g_2, .int a0_7_3, a0_7g_4, .int a0_7_5, .int a0_7_6, a0_7g_7, a0_7g_8, a0_7g_9, a0_7g_10, a0_7g_11, a0_7g_12, a0_7g_13, a0_7g_14])), (a0_1, .inr (5, [a0_1g_0, .int a0_1_1, a0_1g_2, a0_1g_3, a0_1g_4, a0_1g_5, a0_1g_6]))] → va_S A s.heap H locs → lv_has ls 8 [(0, .ref a0), (1, .int a1), (3, .int a3), (4, .int j60l4), (5, .int j60l5), (6, .int j60l6), (7, .int j60l7)] → K H locs (F0 m 60 ls []) := by
          intro n
          induction n with
          | zero =>
            intro j60l7 j60l6 j60l5 j60l4 H locs ls hm bj60l7_l bj60l7_u bj60l6_l bj60l6_u hP hD hS hl
            first | exact zg_0 hm bj60l7_u (by decide) | (have h8 := ai_min j60l7; have h9 := ai_max j60l7; exact absurd hm (by omega))
          | succ n ih60 =>
            intro j60l7 j60l6 j60l5 j60l4 H locs ls hm bj60l7_l bj60l7_u bj60l6_l bj60l6_u hP hD hS hl
            refine (hK0 _ _ _).mpr ?_
            have hm60 := hm
            refine lv_iload hx hb dX7_drawn_60 (lv_at hl 6 rfl) ?_
            refine lv_iload_n hx hb dX7_drawn_62 rfl (lv_at hl 2 rfl) ?_
            refine lv_icmp_gt (tgt := 108) hx hb dX7_drawn_63 (by decide) (fun c63 => ?_) (fun c63 => ?_)
            · have gc63 := ai_lt c63
              have u63t_a3 : a3.toInt ≤ (200 : Int) := u30k0_a3
              have l63t_j60l7 : (1 : Int) ≤ j60l7.toInt := bj60l7_l
              refine lv_aload_n hx hb dX7_drawn_108 rfl (lv_at hl 0 rfl) ?_
              refine lv_iload hx hb dX7_drawn_109 (lv_at hl 3 rfl) ?_
              refine va_calli (va_runV (As := [.int j60l4]) (rest := []) ⟨hx, hb, hml, hown, hts⟩ (c_X7_answered l dC dI H.size a0 j60l4 a0g_0 (.ref a0_1) a0g_2 a0g_3 a0g_4 a0g_5 a0g_6 (.ref a0_7) a0g_9 a0g_10 a0_8 ) (cwV 1 hts gX7_drawn_X7_answered rfl rfl rfl zd_X7_answered ⟨Nat.le_of_ble_eq_true rfl, Nat.le_of_ble_eq_true rfl⟩) ⟨ax_blind (fun _ _ _ _ _ => trivial), zr_7 (zp_K hK) (zp_P1 hP) (q0 := 0) rfl, ax_pre (zp_P1 hP) (zp_K hK) (zp_D1 hD) (fun _ _ => trivial)⟩ rfl rfl hl.1 rfl (lv_room (Nat.le_of_ble_eq_true rfl)) dX7_drawn_111 ⟨Nat.le_of_ble_eq_true rfl, Nat.le_of_ble_eq_true rfl⟩) hS (fun q _ h => zp_F1 hD hS hA q h) (zp_F1 hD hS hA) (fun r111 u t H locs ht hvm hw => zx_1 (fun v111na0_8 hB hz1 hk1 hS1 => zo1 hB ht hP hD hk1 (zp_F1 hD hS hA) hS1 (fun hP hK1 hD hS => ?_)))
              have hw : r111 = j60l4 := hw
              have hw := hw.symm
              subst hw
              exact W.iret (v := j60l4) hx hb hr (fun t ht hW => ⟨⟨j60l4, (), rfl, trivial, v111na0_8, by rw [ht]; exact hP, va_K.moved hW.alike hK, hD⟩, hS.F ht⟩) hS.2.2 dX7_drawn_114
            · have gc63 := ai_nlt c63
              have u63f_j60l7 : j60l7.toInt ≤ (200 : Int) := Int.le_trans gc63 u30k0_a3
              have l63f_a3 : (1 : Int) ≤ a3.toInt := Int.le_trans bj60l7_l gc63
              refine lv_iload hx hb dX7_drawn_66 (lv_at hl 4 rfl) ?_
              refine va_calli (va_runS (As := [.int j60l5]) (rest := []) ⟨hx, hb, hml, hown, hts⟩ (c_X7_nextDraw l dC dI H.size j60l5 ) (va_cwS 1 hts gX7_drawn_X7_nextDraw rfl rfl rfl zd_X7_nextDraw.2 ⟨Nat.le_of_ble_eq_true rfl, Nat.le_of_ble_eq_true rfl⟩) ⟨ax_blind (fun _ _ _ _ _ => trivial), ax_pre (zp_P0 hP) (zp_K hK) (zp_D0 hD) (fun _ _ => trivial)⟩ rfl rfl hl.1 rfl (lv_room (Nat.le_of_ble_eq_true rfl)) dX7_drawn_68 ⟨Nat.le_of_ble_eq_true rfl, Nat.le_of_ble_eq_true rfl⟩) hS (fun q _ h => zp_F0 hD hS hA q h) (zp_F0 hD hS hA) (fun r68 u t H locs ht hvm hw hB hz1 hk1 hS1 => zo0 hB ht hP hD hk1 (zp_F0 hD hS hA) hS1 (fun hP hK1 hD hS => ?_))
              refine lv_istore (lv' := [(5, .int r68), (0, .ref a0), (1, .int a1), (3, .int a3), (4, .int j60l4), (6, .int j60l6), (7, .int j60l7)]) hx hb dX7_drawn_71 hl (by decide) rfl (fun ls hl => ?_)
              refine lv_aload_n hx hb dX7_drawn_73 rfl (lv_at hl 1 rfl) ?_
              refine va_get (D := (dC, dI)) (ci := 7) (v := .ref a0_7) (C := RX7) (T := TX7) (N := 11) hx hb hts zi_X7_drawn_7 hown hK hP 0 rfl rfl 7 (by decide) (hts (.fieldLink RX7 57 "WaxTurns" "hall" "LWaxTurns$Hall;") (zm_X7_drawn_r1 (List.mem_of_getElem? (i := 3) rfl))) (fun _ h9 => h9) rfl dX7_drawn_74 ?_
              refine lv_iload hx hb dX7_drawn_77 (lv_at hl 5 rfl) ?_
              refine zc_cutc (wc := [(a0_7, .inr (0, [.int a0_7_0, a0_7g_1, a0_7g_2, .int a0_7_3, a0_7g_4, .int a0_7_5, .int a0_7_6, a0_7g_7, a0_7g_8, a0_7g_9, a0_7g_10, a0_7g_11, a0_7g_12, a0_7g_13, a0_7g_14]))]) hP hD hS hA [1] (by decide +kernel) rfl (fun hPc hDc hFc hCc => ?_)
              have hKc := zp_K hK
              refine va_calli (va_runV (As := [.int j60l6]) (rest := []) ⟨hx, hb, hml, hown, hts⟩ (c_X0_next l dC dI H.size a0_7 j60l6 a0_7_0 a0_7g_1 a0_7g_2 (.int a0_7_3) a0_7g_4 a0_7g_7 a0_7g_8 a0_7g_9 a0_7g_10 a0_7g_11 a0_7g_12 a0_7g_13 a0_7g_14 a0_7_5 a0_7_6 bj60l6_l bj60l6_u (Int.le_trans zq4 l2k0_a0_7_0) u2k0_a0_7_0 ba0_7_5_l ba0_7_5_u ba0_7_6_l ba0_7_6_u) (cwV 1 hts gX7_drawn_X0_next rfl rfl rfl zd_X0_next ⟨Nat.le_of_ble_eq_true rfl, Nat.le_of_ble_eq_true rfl⟩) ⟨ax_blind (fun _ _ _ _ _ => trivial), zr_0 hKc hPc (q0 := 0) rfl, ax_pre hPc hKc hDc (fun _ _ => trivial)⟩ rfl rfl hl.1 rfl (lv_room (Nat.le_of_ble_eq_true rfl)) dX7_drawn_79 ⟨Nat.le_of_ble_eq_true rfl, Nat.le_of_ble_eq_true rfl⟩) hS (fun q _ h => hFc q h) hFc (fun r79 u t H locs ht hvm hw hB hz1 hk1 hS1 => zo hB ht hS1 (fun hP1 hK1 hD1 hS => ?_))
              refine zc_backc (w := [(a0, .inr (7, [a0g_0, .ref a0_1, a0g_2, a0g_3, a0g_4, a0g_5, a0g_6, .ref a0_7, .int a0_8, a0g_9, a0g_10])), (a0_7, .inr (0, [.int a0_7_0, a0_7g_1, a0_7g_2, .int a0_7_3, a0_7g_4, .int a0_7_5, .int a0_7_6, a0_7g_7, a0_7g_8, a0_7g_9, a0_7g_10, a0_7g_11, a0_7g_12, a0_7g_13, a0_7g_14])), (a0_1, .inr (5, [a0_1g_0, .int a0_1_1, a0_1g_2, a0_1g_3, a0_1g_4, a0_1g_5, a0_1g_6]))]) hP hD hCc hk1 hFc hP1 hD1 [.inl 0, .inr 0, .inl 2] (by decide +kernel) rfl (fun hP hD => ?_)
              have hw : (0 : Int) ≤ r79.toInt ∧ r79.toInt ≤ (8 : Int) := hw
              obtain ⟨h79_0, h79_1⟩ := hw
              refine lv_istore (lv' := [(6, .int r79), (5, .int r68), (0, .ref a0), (1, .int a1), (3, .int a3), (4, .int j60l4), (7, .int j60l7)]) hx hb dX7_drawn_82 hl (by decide) rfl (fun ls hl => ?_)
              refine lv_iload hx hb dX7_drawn_84 (lv_at hl 0 rfl) ?_
              refine lv_iload_n hx hb dX7_drawn_86 rfl (lv_at hl 3 rfl) ?_
              have J102 : ∀ (j102l4 : Int32) (H : Heap) (locs : List Loc) (ls : Array Slot), va_P (dC, dI) vwCl [(a0, .inr (7, [a0g_0, .ref a0_1, a0g_2, a0g_3, a0g_4, a0g_5, a0g_6, .ref a0_7, .int a0_8, a0g_9, a0g_10])), (a0_7, .inr (0, [.int a0_7_0, a0_7g_1, a0_7g_2, .int a0_7_3, a0_7g_4, .int a0_7_5, .int a0_7_6, a0_7g_7, a0_7g_8, a0_7g_9, a0_7g_10, a0_7g_11, a0_7g_12, a0_7g_13, a0_7g_14])), (a0_1, .inr (5, [a0_1g_0, .int a0_1_1, a0_1g_2, a0_1g_3, a0_1g_4, a0_1g_5, a0_1g_6]))] H → va_D A [(a0, .inr (7, [a0g_0, .ref a0_1, a0g_2, a0g_3, a0g_4, a0g_5, a0g_6, .ref a0_7, .int a0_8, a0g_9, a0g_10])), (a0_7, .inr (0, [.int a0_7_0, a0_7g_1, a0_7g_2, .int a0_7_3, a0_7g_4, .int a0_7_5, .int a0_7_6, a0_7g_7, a0_7g_8, a0_7g_9, a0_7g_10, a0_7g_11, a0_7g_12, a0_7g_13, a0_7g_14])), (a0_1, .inr (5, [a0_1g_0, .int a0_1_1, a0_1g_2, a0_1g_3, a0_1g_4, a0_1g_5, a0_1g_6]))] → va_S A s.heap H locs → lv_has ls 8 [(0, .ref a0), (1, .int a1), (3, .int a3), (4, .int j102l4), (5, .int r68), (6, .int r79), (7, .int j60l7)] → K H locs (F0 m 102 ls []) := by
                intro j102l4 H locs ls   hP hD hS hl
                refine (hK0 _ _ _).mpr ?_
                obtain ⟨x102, ex102⟩ : ∃ y : Int32, y = j60l7 + Int32.ofInt 1 := ⟨_, rfl⟩
                have qx102 : x102.toInt = j60l7.toInt + 1 := ai_inc ex102 (by decide) (by decide) u63f_j60l7 (by decide)
                have bx102 : (2 : Int) ≤ x102.toInt ∧ x102.toInt ≤ 201 := ⟨by rw [qx102]; exact Int.add_le_add bj60l7_l (Int.le_refl _), by rw [qx102]; exact Int.add_le_add u63f_j60l7 (Int.le_refl _)⟩
                refine lv_iinc (v := x102) (lv' := [(7, .int x102), (0, .ref a0), (1, .int a1), (3, .int a3), (4, .int j102l4), (5, .int r68), (6, .int r79)]) hx hb dX7_drawn_102 hl (k := 6) rfl ex102.symm (by decide) rfl (fun ls hl => ?_)
                refine lv_goto (tgt := 60) hx hb dX7_drawn_105 (by decide) ?_
                exact (hK0 _ _ _).mp (ih60 x102 r79 r68 j102l4 _ _ _ (by first | exact zg_s hm60 qx102 | (have h0 := qx102; omega)) (Int.le_trans zq54 bx102.1) bx102.2 h79_0 h79_1 hP hD hS (lv_sub hl [1, 2, 3, 4, 5, 6, 0] rfl))
              refine lv_icmp_ne (tgt := 102) hx hb dX7_drawn_87 (by decide) (fun c87 => ?_) (fun c87 => ?_)
              · have gc87 := ai_ne c87
                exact (hK0 _ _ _).mp (J102 j60l4 _ _ _   hP hD hS (lv_sub hl [2, 3, 4, 5, 1, 0, 6] rfl))
              · have gc87 := ai_eq c87
                have u87f_r79 : r79.toInt ≤ (8 : Int) := h79_1
                have l87f_r79 : (0 : Int) ≤ r79.toInt := h79_0
                have u87f_a1 : a1.toInt ≤ (8 : Int) := u2k0_a1
                have l87f_a1 : (0 : Int) ≤ a1.toInt := l2k0_a1
                refine lv_aload_n hx hb dX7_drawn_90 rfl (lv_at hl 2 rfl) ?_
                refine lv_iload hx hb dX7_drawn_91 (lv_at hl 1 rfl) ?_
                refine va_calli (va_runV (As := [.int r68]) (rest := []) ⟨hx, hb, hml, hown, hts⟩ (c_X7_isShut l dC dI H.size a0 r68 a0g_0 (.ref a0_1) a0g_2 a0g_3 a0g_4 a0g_5 a0g_6 (.int a0_8) a0g_9 a0g_10 a0_7 (.int a0_7_0) a0_7g_1 a0_7g_2 a0_7g_4 (.int a0_7_5) (.int a0_7_6) a0_7g_7 a0_7g_8 a0_7g_9 a0_7g_10 a0_7g_11 a0_7g_12 a0_7g_13 a0_7g_14 a0_7_3 ) (cwV 1 hts gX7_drawn_X7_isShut rfl rfl rfl zd_X7_isShut ⟨Nat.le_of_ble_eq_true rfl, Nat.le_of_ble_eq_true rfl⟩) ⟨ax_blind (fun _ _ _ _ _ => trivial), zr_7 (zp_K hK) (zp_P2 hP) (q0 := 0) rfl, ax_pre (zp_P2 hP) (zp_K hK) (zp_D2 hD) (fun _ _ => trivial)⟩ rfl rfl hl.1 rfl (lv_room (Nat.le_of_ble_eq_true rfl)) dX7_drawn_93 ⟨Nat.le_of_ble_eq_true rfl, Nat.le_of_ble_eq_true rfl⟩) hS (fun q _ h => zp_F2 hD hS hA q h) (zp_F2 hD hS hA) (fun r93 u t H locs ht hvm hw hB hz1 hk1 hS1 => zo2 hB ht hP hD hk1 (zp_F2 hD hS hA) hS1 (fun hP hK1 hD hS => ?_))
                rcases hw with hw | hw
                · obtain ⟨hw, h93_0⟩ := hw
                  subst hw
                  have l93k0_a0_7_3 : (-2147483647 : Int) ≤ a0_7_3.toInt := h93_0
                  refine lv_if_ne (tgt := 102) hx hb dX7_drawn_96 (by decide) (fun _ => ?_) (fun c96 => absurd c96 (by decide +kernel))
                  exact (hK0 _ _ _).mp (J102 j60l4 _ _ _   hP hD hS (lv_sub hl [2, 3, 4, 5, 1, 0, 6] rfl))
                · subst hw
                  refine lv_if_ne (tgt := 102) hx hb dX7_drawn_96 (by decide) (fun c96 => absurd (by decide +kernel) c96) (fun _ => ?_)
                  obtain ⟨x99, ex99⟩ : ∃ y : Int32, y = j60l4 + Int32.ofInt 1 := ⟨_, rfl⟩
                  refine lv_iinc (v := x99) (lv' := [(4, .int x99), (6, .int r79), (5, .int r68), (0, .ref a0), (1, .int a1), (3, .int a3), (7, .int j60l7)]) hx hb dX7_drawn_99 hl (k := 5) rfl ex99.symm (by decide) rfl (fun ls hl => ?_)
                  exact (hK0 _ _ _).mp (J102 x99 _ _ _   hP hD hS (lv_sub hl [3, 4, 5, 0, 2, 1, 6] rfl))
        exact (hK0 _ _ _).mp (J60 201 1 a0_1_1 a2 0 _ _ _ (by first | decide +kernel | (have h1 : (1 : Int) ≤ (1 : Int32).toInt := zq1; have h2 : (1 : Int32).toInt ≤ (1 : Int) := zq0; omega)) zq1 (Int.le_trans zq0 zq106) ba0_1_1_l ba0_1_1_u hP hD hS (lv_sub hl [4, 5, 7, 3, 2, 1, 0] rfl))
      · obtain ⟨hw, h30⟩ := hw
        subst hw
        refine lv_if_ne (tgt := 42) hx hb dX7_drawn_33 (by decide) (fun c33 => absurd (by decide +kernel) c33) (fun _ => ?_)
        exact (hK0 _ _ _).mp (J36  _ _ _   hP hD hS (lv_sub hl [0] rfl))
    · obtain ⟨hw, h19⟩ := hw
      subst hw
      refine lv_if_eq (tgt := 36) hx hb dX7_drawn_22 (by decide) (fun _ => ?_) (fun c22 => absurd (by decide +kernel) c22)
      have J36 : ∀ (H : Heap) (locs : List Loc) (ls : Array Slot), va_P (dC, dI) vwCl [(a0, .inr (7, [a0g_0, .ref a0_1, a0g_2, a0g_3, a0g_4, a0g_5, a0g_6, .ref a0_7, .int a0_8, a0g_9, a0g_10])), (a0_7, .inr (0, [.int a0_7_0, a0_7g_1, a0_7g_2, .int a0_7_3, a0_7g_4, .int a0_7_5, .int a0_7_6, a0_7g_7, a0_7g_8, a0_7g_9, a0_7g_10, a0_7g_11, a0_7g_12, a0_7g_13, a0_7g_14])), (a0_1, .inr (5, [a0_1g_0, .int a0_1_1, a0_1g_2, a0_1g_3, a0_1g_4, a0_1g_5, a0_1g_6]))] H → va_D A [(a0, .inr (7, [a0g_0, .ref a0_1, a0g_2, a0g_3, a0g_4, a0g_5, a0g_6, .ref a0_7, .int a0_8, a0g_9, a0g_10])), (a0_7, .inr (0, [.int a0_7_0, a0_7g_1, a0_7g_2, .int a0_7_3, a0_7g_4, .int a0_7_5, .int a0_7_6, a0_7g_7, a0_7g_8, a0_7g_9, a0_7g_10, a0_7g_11, a0_7g_12, a0_7g_13, a0_7g_14])), (a0_1, .inr (5, [a0_1g_0, .int a0_1_1, a0_1g_2, a0_1g_3, a0_1g_4, a0_1g_5, a0_1g_6]))] → va_S A s.heap H locs → lv_has ls 8 [(0, .ref a0)] → K H locs (F0 m 36 ls []) := by
        intro  H locs ls   hP hD hS hl
        refine (hK0 _ _ _).mpr ?_
        refine lv_aload_n hx hb dX7_drawn_36 rfl (lv_at hl 0 rfl) ?_
        refine lv_iconst (v := 2) hx hb dX7_drawn_37 zk_iconst_2 ?_
        refine va_calli (va_runV (As := [.int 2]) (rest := []) ⟨hx, hb, hml, hown, hts⟩ (c_X7_refused l dC dI H.size a0 2 a0g_0 (.ref a0_1) a0g_2 a0g_3 a0g_4 a0g_5 a0g_6 (.ref a0_7) a0g_9 a0g_10 a0_8 ) (cwV 1 hts gX7_drawn_X7_refused rfl rfl rfl zd_X7_refused ⟨Nat.le_of_ble_eq_true rfl, Nat.le_of_ble_eq_true rfl⟩) ⟨ax_blind (fun _ _ _ _ _ => trivial), zr_7 (zp_K hK) (zp_P1 hP) (q0 := 0) rfl, ax_pre (zp_P1 hP) (zp_K hK) (zp_D1 hD) (fun _ _ => trivial)⟩ rfl rfl hl.1 rfl (lv_room (Nat.le_of_ble_eq_true rfl)) dX7_drawn_38 ⟨Nat.le_of_ble_eq_true rfl, Nat.le_of_ble_eq_true rfl⟩) hS (fun q _ h => zp_F1 hD hS hA q h) (zp_F1 hD hS hA) (fun r38 u t H locs ht hvm hw => zx_1 (fun v38na0_8 hB hz1 hk1 hS1 => zo1 hB ht hP hD hk1 (zp_F1 hD hS hA) hS1 (fun hP hK1 hD hS => ?_)))
        have hw : r38 = (-1) := hw
        have hw := hw.symm
        subst hw
        exact W.iret (v := (-1)) hx hb hr (fun t ht hW => ⟨⟨(-1), (), rfl, trivial, v38na0_8, by rw [ht]; exact hP, va_K.moved hW.alike hK, hD⟩, hS.F ht⟩) hS.2.2 dX7_drawn_41
      exact (hK0 _ _ _).mp (J36  _ _ _   hP hD hS (lv_sub hl [0] rfl))
  · subst hw
    refine lv_if_ne (tgt := 14) hx hb dX7_drawn_5 (by decide) (fun c5 => absurd (by decide +kernel) c5) (fun _ => ?_)
    refine lv_aload_n hx hb dX7_drawn_8 rfl (lv_at hl 0 rfl) ?_
    refine lv_iconst (v := 1) hx hb dX7_drawn_9 zk_iconst_1 ?_
    refine va_calli (va_runV (As := [.int 1]) (rest := []) ⟨hx, hb, hml, hown, hts⟩ (c_X7_refused l dC dI H.size a0 1 a0g_0 (.ref a0_1) a0g_2 a0g_3 a0g_4 a0g_5 a0g_6 (.ref a0_7) a0g_9 a0g_10 a0_8 ) (cwV 1 hts gX7_drawn_X7_refused rfl rfl rfl zd_X7_refused ⟨Nat.le_of_ble_eq_true rfl, Nat.le_of_ble_eq_true rfl⟩) ⟨ax_blind (fun _ _ _ _ _ => trivial), zr_7 (zp_K hK) (zp_P1 hP) (q0 := 0) rfl, ax_pre (zp_P1 hP) (zp_K hK) (zp_D1 hD) (fun _ _ => trivial)⟩ rfl rfl hl.1 rfl (lv_room (Nat.le_of_ble_eq_true rfl)) dX7_drawn_10 ⟨Nat.le_of_ble_eq_true rfl, Nat.le_of_ble_eq_true rfl⟩) hS (fun q _ h => zp_F1 hD hS hA q h) (zp_F1 hD hS hA) (fun r10 u t H locs ht hvm hw => zx_1 (fun v10na0_8 hB hz1 hk1 hS1 => zo1 hB ht hP hD hk1 (zp_F1 hD hS hA) hS1 (fun hP hK1 hD hS => ?_)))
    have hw : r10 = (-1) := hw
    have hw := hw.symm
    subst hw
    exact W.iret (v := (-1)) hx hb hr (fun t ht hW => ⟨⟨(-1), (), rfl, trivial, v10na0_8, by rw [ht]; exact hP, va_K.moved hW.alike hK, hD⟩, hS.F ht⟩) hS.2.2 dX7_drawn_13

set_option maxHeartbeats 4000000 in
set_option maxRecDepth 100000 in
theorem c_X7_firstShut (l : Launch) (dC : Nat → ClassId) (dI : Nat → Nat → Nat) (sz : Nat) (a0 : Nat) (a1 : Int32) (a2 : Int32) (a0g_0 a0g_1 a0g_2 a0g_3 a0g_4 a0g_5 a0g_6 a0g_9 a0g_10 : Value) (a0_7 : Nat) (a0_8 : Int32) (a0_7_0 : Int32) (a0_7g_1 a0_7g_2 a0_7g_4 a0_7g_5 a0_7g_6 a0_7g_7 a0_7g_8 a0_7g_9 a0_7g_10 a0_7g_11 a0_7g_12 a0_7g_13 a0_7g_14 : Value) (a0_7_3 : Int32) (ba0_7_0_l : (0 : Int) ≤ a0_7_0.toInt) (ba0_7_0_u : a0_7_0.toInt ≤ (9 : Int)) : zm l yX7_firstShut wsX7_firstShut ({ frames := 1, cells := 0, slots := 0, locals := 22 }) [.ref a0, .int a1, .int a2] dC dI sz [(a0, .inr (7, [a0g_0, a0g_1, a0g_2, a0g_3, a0g_4, a0g_5, a0g_6, .ref a0_7, .int a0_8, a0g_9, a0g_10])), (a0_7, .inr (0, [.int a0_7_0, a0_7g_1, a0_7g_2, .int a0_7_3, a0_7g_4, a0_7g_5, a0_7g_6, a0_7g_7, a0_7g_8, a0_7g_9, a0_7g_10, a0_7g_11, a0_7g_12, a0_7g_13, a0_7g_14]))] [] (fun A _ => True) (fun A => va_Qi (fun (r : Int32) (_ : Unit) => (-2 : Int) ≤ r.toInt ∧ r.toInt ≤ (200 : Int)) (fun (_ : Unit) (t : State) => ∃ na0_8 : Int32, ax_B dC dI A [(a0, .inr (7, [a0g_0, a0g_1, a0g_2, a0g_3, a0g_4, a0g_5, a0g_6, .ref a0_7, .int na0_8, a0g_9, a0g_10])), (a0_7, .inr (0, [.int a0_7_0, a0_7g_1, a0_7g_2, .int a0_7_3, a0_7g_4, a0_7g_5, a0_7g_6, a0_7g_7, a0_7g_8, a0_7g_9, a0_7g_10, a0_7g_11, a0_7g_12, a0_7g_13, a0_7g_14]))] [] t) A) := by
  refine zh (cc := cX7_firstShut) (maxL := 5) (ret := (some .int)) zn_RX7 rfl (Nat.le_of_ble_eq_true rfl) (fun p e s m below meth c A ls hx hb hml hr hts (hown : s.vm.findClass RX7 = some m.cls) hlocks hA hS hP hK hD hE (hl : lv_has ls 5 [(0, .ref a0), (1, .int a1), (2, .int a2)]) => ?_)
  refine ai_open (fun K hK0 => ?_)
  refine (hK0 _ _ _).mpr ?_
  refine lv_aload_n hx hb dX7_firstShut_0 rfl (lv_at hl 0 rfl) ?_
  refine va_calli (va_runV (As := []) (rest := []) ⟨hx, hb, hml, hown, hts⟩ (c_X7_hasGallery l dC dI s.heap.size a0 a0g_0 a0g_1 a0g_2 a0g_3 a0g_4 a0g_5 a0g_6 (.int a0_8) a0g_9 a0g_10 a0_7 a0_7_0 a0_7g_1 a0_7g_2 (.int a0_7_3) a0_7g_4 a0_7g_5 a0_7g_6 a0_7g_7 a0_7g_8 a0_7g_9 a0_7g_10 a0_7g_11 a0_7g_12 a0_7g_13 a0_7g_14 ba0_7_0_l ba0_7_0_u) (cwV 0 hts gX7_firstShut_X7_hasGallery rfl rfl rfl zd_X7_hasGallery ⟨Nat.le_of_ble_eq_true rfl, Nat.le_of_ble_eq_true rfl⟩) ⟨ax_blind (fun _ _ _ _ _ => trivial), zr_7 (zp_K hK) (zp_P2 hP) (q0 := 0) rfl, ax_pre (zp_P2 hP) (zp_K hK) (zp_D2 hD) (fun _ _ => trivial)⟩ rfl rfl hl.1 rfl (lv_room (Nat.le_of_ble_eq_true rfl)) dX7_firstShut_1 ⟨Nat.le_of_ble_eq_true rfl, Nat.le_of_ble_eq_true rfl⟩) hS (fun q _ h => zp_F2 hD hS hA q h) (zp_F2 hD hS hA) (fun r1 u t H locs ht hvm hw hB hz1 hk1 hS1 => zo2 hB ht hP hD hk1 (zp_F2 hD hS hA) hS1 (fun hP hK1 hD hS => ?_))
  rcases hw with hw | hw
  · obtain ⟨hw, h1_0, h1_1⟩ := hw
    subst hw
    have l1k0_a0_7_0 : (1 : Int) ≤ a0_7_0.toInt := h1_0
    have u1k0_a0_7_0 : a0_7_0.toInt ≤ (9 : Int) := ba0_7_0_u
    refine lv_if_ne (tgt := 13) hx hb dX7_firstShut_4 (by decide) (fun _ => ?_) (fun c4 => absurd c4 (by decide +kernel))
    refine lv_iload_n hx hb dX7_firstShut_13 rfl (lv_at hl 1 rfl) ?_
    refine lv_iconst (v := 0) hx hb dX7_firstShut_14 zk_iconst_0 ?_
    refine lv_ldcw (v := 65536) hx hb hown (hts (.constant RX7 323 (65536)) (zm_X7_firstShut_r1 (List.mem_of_getElem? (i := 0) rfl))) dX7_firstShut_15 ?_
    refine va_calli (va_runS (As := [.int a1, .int 0, .int 65536]) (rest := []) ⟨hx, hb, hml, hown, hts⟩ (c_X7_within l dC dI H.size a1 0 65536 ) (va_cwS 3 hts gX7_firstShut_X7_within rfl rfl rfl zd_X7_within.2 ⟨Nat.le_of_ble_eq_true rfl, Nat.le_of_ble_eq_true rfl⟩) ⟨ax_blind (fun _ _ _ _ _ => trivial), ax_pre (zp_P0 hP) (zp_K hK) (zp_D0 hD) (fun _ _ => trivial)⟩ rfl rfl hl.1 rfl (lv_room (Nat.le_of_ble_eq_true rfl)) dX7_firstShut_18 ⟨Nat.le_of_ble_eq_true rfl, Nat.le_of_ble_eq_true rfl⟩) hS (fun q _ h => zp_F0 hD hS hA q h) (zp_F0 hD hS hA) (fun r18 u t H locs ht hvm hw hB hz1 hk1 hS1 => zo0 hB ht hP hD hk1 (zp_F0 hD hS hA) hS1 (fun hP hK1 hD hS => ?_))
    rcases hw with hw | hw
    · obtain ⟨hw, h18⟩ := hw
      subst hw
      have l18k0_a1 : (0 : Int) ≤ a1.toInt := Int.le_trans zq5 h18.1
      have u18k0_a1 : a1.toInt ≤ (65536 : Int) := Int.le_trans h18.2 zq105
      refine lv_if_eq (tgt := 35) hx hb dX7_firstShut_21 (by decide) (fun c21 => absurd c21 (by decide +kernel)) (fun _ => ?_)
      have J35 : ∀ (H : Heap) (locs : List Loc) (ls : Array Slot), va_P (dC, dI) vwCl [(a0, .inr (7, [a0g_0, a0g_1, a0g_2, a0g_3, a0g_4, a0g_5, a0g_6, .ref a0_7, .int a0_8, a0g_9, a0g_10])), (a0_7, .inr (0, [.int a0_7_0, a0_7g_1, a0_7g_2, .int a0_7_3, a0_7g_4, a0_7g_5, a0_7g_6, a0_7g_7, a0_7g_8, a0_7g_9, a0_7g_10, a0_7g_11, a0_7g_12, a0_7g_13, a0_7g_14]))] H → va_D A [(a0, .inr (7, [a0g_0, a0g_1, a0g_2, a0g_3, a0g_4, a0g_5, a0g_6, .ref a0_7, .int a0_8, a0g_9, a0g_10])), (a0_7, .inr (0, [.int a0_7_0, a0_7g_1, a0_7g_2, .int a0_7_3, a0_7g_4, a0_7g_5, a0_7g_6, a0_7g_7, a0_7g_8, a0_7g_9, a0_7g_10, a0_7g_11, a0_7g_12, a0_7g_13, a0_7g_14]))] → va_S A s.heap H locs → lv_has ls 5 [(0, .ref a0)] → K H locs (F0 m 35 ls []) := by
        intro  H locs ls   hP hD hS hl
        refine (hK0 _ _ _).mpr ?_
        refine lv_aload_n hx hb dX7_firstShut_35 rfl (lv_at hl 0 rfl) ?_
        refine lv_iconst (v := 2) hx hb dX7_firstShut_36 zk_iconst_2 ?_
        refine va_calli (va_runV (As := [.int 2]) (rest := []) ⟨hx, hb, hml, hown, hts⟩ (c_X7_refused l dC dI H.size a0 2 a0g_0 a0g_1 a0g_2 a0g_3 a0g_4 a0g_5 a0g_6 (.ref a0_7) a0g_9 a0g_10 a0_8 ) (cwV 1 hts gX7_firstShut_X7_refused rfl rfl rfl zd_X7_refused ⟨Nat.le_of_ble_eq_true rfl, Nat.le_of_ble_eq_true rfl⟩) ⟨ax_blind (fun _ _ _ _ _ => trivial), zr_7 (zp_K hK) (zp_P1 hP) (q0 := 0) rfl, ax_pre (zp_P1 hP) (zp_K hK) (zp_D1 hD) (fun _ _ => trivial)⟩ rfl rfl hl.1 rfl (lv_room (Nat.le_of_ble_eq_true rfl)) dX7_firstShut_37 ⟨Nat.le_of_ble_eq_true rfl, Nat.le_of_ble_eq_true rfl⟩) hS (fun q _ h => zp_F1 hD hS hA q h) (zp_F1 hD hS hA) (fun r37 u t H locs ht hvm hw => zx_1 (fun v37na0_8 hB hz1 hk1 hS1 => zo1 hB ht hP hD hk1 (zp_F1 hD hS hA) hS1 (fun hP hK1 hD hS => ?_)))
        have hw : r37 = (-1) := hw
        have hw := hw.symm
        subst hw
        exact W.iret (v := (-1)) hx hb hr (fun t ht hW => ⟨⟨(-1), (), rfl, ⟨(Int.le_trans zq76 zq70), (Int.le_trans zq71 zq107)⟩, v37na0_8, by rw [ht]; exact hP, va_K.moved hW.alike hK, hD⟩, hS.F ht⟩) hS.2.2 dX7_firstShut_40
      refine lv_iload_n hx hb dX7_firstShut_24 rfl (lv_at hl 2 rfl) ?_
      refine lv_iconst (v := 0) hx hb dX7_firstShut_25 zk_iconst_0 ?_
      refine lv_sipush (v := 200) hx hb dX7_firstShut_26 zk_sipush_200 ?_
      refine va_calli (va_runS (As := [.int a2, .int 0, .int 200]) (rest := []) ⟨hx, hb, hml, hown, hts⟩ (c_X7_within l dC dI H.size a2 0 200 ) (va_cwS 3 hts gX7_firstShut_X7_within rfl rfl rfl zd_X7_within.2 ⟨Nat.le_of_ble_eq_true rfl, Nat.le_of_ble_eq_true rfl⟩) ⟨ax_blind (fun _ _ _ _ _ => trivial), ax_pre (zp_P0 hP) (zp_K hK) (zp_D0 hD) (fun _ _ => trivial)⟩ rfl rfl hl.1 rfl (lv_room (Nat.le_of_ble_eq_true rfl)) dX7_firstShut_29 ⟨Nat.le_of_ble_eq_true rfl, Nat.le_of_ble_eq_true rfl⟩) hS (fun q _ h => zp_F0 hD hS hA q h) (zp_F0 hD hS hA) (fun r29 u t H locs ht hvm hw hB hz1 hk1 hS1 => zo0 hB ht hP hD hk1 (zp_F0 hD hS hA) hS1 (fun hP hK1 hD hS => ?_))
      rcases hw with hw | hw
      · obtain ⟨hw, h29⟩ := hw
        subst hw
        have l29k0_a2 : (0 : Int) ≤ a2.toInt := Int.le_trans zq5 h29.1
        have u29k0_a2 : a2.toInt ≤ (200 : Int) := Int.le_trans h29.2 zq65
        refine lv_if_ne (tgt := 41) hx hb dX7_firstShut_32 (by decide) (fun _ => ?_) (fun c32 => absurd c32 (by decide +kernel))
        refine lv_iload_n hx hb dX7_firstShut_41 rfl (lv_at hl 1 rfl) ?_
        refine lv_istore_n (lv' := [(3, .int a1), (0, .ref a0), (1, .int a1), (2, .int a2)]) hx hb dX7_firstShut_42 rfl hl (by decide) rfl (fun ls hl => ?_)
        refine lv_iconst (v := 1) hx hb dX7_firstShut_43 zk_iconst_1 ?_
        refine lv_istore (lv' := [(4, .int 1), (3, .int a1), (0, .ref a0), (1, .int a1), (2, .int a2)]) hx hb dX7_firstShut_44 hl (by decide) rfl (fun ls hl => ?_)
        have J46 : ∀ (n : Nat) (j46l4 : Int32) (j46l3 : Int32) (H : Heap) (locs : List Loc) (ls : Array Slot), (202 : Int) - j46l4.toInt ≤ (n : Int) → (1 : Int) ≤ j46l4.toInt → j46l4.toInt ≤ (201 : Int) → va_P (dC, dI) vwCl [(a0, .inr (7, [a0g_0, a0g_1, a0g_2, a0g_3, a0g_4, a0g_5, a0g_6, .ref a0_7, .int a0_8, a0g_9, a0g_10])), (a0_7, .inr (0, [.int a0_7_0, a0_7g_1, a0_7g_2, .int a0_7_3, a0_7g_4, a0_7g_5, a0_7g_6, a0_7g_7, a0_7g_8, a0_7g_9, a0_7g_10, a0_7g_11, a0_7g_12, a0_7g_13, a0_7g_14]))] H → va_D A [(a0, .inr (7, [a0g_0, a0g_1, a0g_2, a0g_3, a0g_4, a0g_5, a0g_6, .ref a0_7, .int a0_8, a0g_9, a0g_10])), (a0_7, .inr (0, [.int a0_7_0, a0_7g_1, a0_7g_2, .int a0_7_3, a0_7g_4, a0_7g_5, a0_7g_6, a0_7g_7, a0_7g_8, a0_7g_9, a0_7g_10, a0_7g_11, a0_7g_12, a0_7g_13, a0_7g_14]))] → va_S A s.heap H locs → lv_has ls 5 [(0, .ref a0), (2, .int a2), (3, .int j46l3), (4, .int j46l4)] → K H locs (F0 m 46 ls []) := by
          intro n
          induction n with
          | zero =>
            intro j46l4 j46l3 H locs ls hm bj46l4_l bj46l4_u hP hD hS hl
            first | exact zg_0 hm bj46l4_u (by decide) | (have h8 := ai_min j46l4; have h9 := ai_max j46l4; exact absurd hm (by omega))
          | succ n ih46 =>
            intro j46l4 j46l3 H locs ls hm bj46l4_l bj46l4_u hP hD hS hl
            refine (hK0 _ _ _).mpr ?_
            have hm46 := hm
            refine lv_iload hx hb dX7_firstShut_46 (lv_at hl 3 rfl) ?_
            refine lv_iload_n hx hb dX7_firstShut_48 rfl (lv_at hl 1 rfl) ?_
            refine lv_icmp_gt (tgt := 78) hx hb dX7_firstShut_49 (by decide) (fun c49 => ?_) (fun c49 => ?_)
            · have gc49 := ai_lt c49
              have u49t_a2 : a2.toInt ≤ (200 : Int) := u29k0_a2
              have l49t_j46l4 : (1 : Int) ≤ j46l4.toInt := bj46l4_l
              refine lv_aload_n hx hb dX7_firstShut_78 rfl (lv_at hl 0 rfl) ?_
              refine lv_bipush (v := (-2)) hx hb dX7_firstShut_79 zk_bipush_n2 ?_
              refine va_calli (va_runV (As := [.int (-2)]) (rest := []) ⟨hx, hb, hml, hown, hts⟩ (c_X7_answered l dC dI H.size a0 (-2) a0g_0 a0g_1 a0g_2 a0g_3 a0g_4 a0g_5 a0g_6 (.ref a0_7) a0g_9 a0g_10 a0_8 ) (cwV 1 hts gX7_firstShut_X7_answered rfl rfl rfl zd_X7_answered ⟨Nat.le_of_ble_eq_true rfl, Nat.le_of_ble_eq_true rfl⟩) ⟨ax_blind (fun _ _ _ _ _ => trivial), zr_7 (zp_K hK) (zp_P1 hP) (q0 := 0) rfl, ax_pre (zp_P1 hP) (zp_K hK) (zp_D1 hD) (fun _ _ => trivial)⟩ rfl rfl hl.1 rfl (lv_room (Nat.le_of_ble_eq_true rfl)) dX7_firstShut_81 ⟨Nat.le_of_ble_eq_true rfl, Nat.le_of_ble_eq_true rfl⟩) hS (fun q _ h => zp_F1 hD hS hA q h) (zp_F1 hD hS hA) (fun r81 u t H locs ht hvm hw => zx_1 (fun v81na0_8 hB hz1 hk1 hS1 => zo1 hB ht hP hD hk1 (zp_F1 hD hS hA) hS1 (fun hP hK1 hD hS => ?_)))
              have hw : r81 = (-2) := hw
              have hw := hw.symm
              subst hw
              exact W.iret (v := (-2)) hx hb hr (fun t ht hW => ⟨⟨(-2), (), rfl, ⟨zq45, (Int.le_trans zq44 zq108)⟩, v81na0_8, by rw [ht]; exact hP, va_K.moved hW.alike hK, hD⟩, hS.F ht⟩) hS.2.2 dX7_firstShut_84
            · have gc49 := ai_nlt c49
              have u49f_j46l4 : j46l4.toInt ≤ (200 : Int) := Int.le_trans gc49 u29k0_a2
              have l49f_a2 : (1 : Int) ≤ a2.toInt := Int.le_trans bj46l4_l gc49
              refine lv_iload_n hx hb dX7_firstShut_52 rfl (lv_at hl 2 rfl) ?_
              refine va_calli (va_runS (As := [.int j46l3]) (rest := []) ⟨hx, hb, hml, hown, hts⟩ (c_X7_nextDraw l dC dI H.size j46l3 ) (va_cwS 1 hts gX7_firstShut_X7_nextDraw rfl rfl rfl zd_X7_nextDraw.2 ⟨Nat.le_of_ble_eq_true rfl, Nat.le_of_ble_eq_true rfl⟩) ⟨ax_blind (fun _ _ _ _ _ => trivial), ax_pre (zp_P0 hP) (zp_K hK) (zp_D0 hD) (fun _ _ => trivial)⟩ rfl rfl hl.1 rfl (lv_room (Nat.le_of_ble_eq_true rfl)) dX7_firstShut_53 ⟨Nat.le_of_ble_eq_true rfl, Nat.le_of_ble_eq_true rfl⟩) hS (fun q _ h => zp_F0 hD hS hA q h) (zp_F0 hD hS hA) (fun r53 u t H locs ht hvm hw hB hz1 hk1 hS1 => zo0 hB ht hP hD hk1 (zp_F0 hD hS hA) hS1 (fun hP hK1 hD hS => ?_))
              refine lv_istore_n (lv' := [(3, .int r53), (0, .ref a0), (2, .int a2), (4, .int j46l4)]) hx hb dX7_firstShut_56 rfl hl (by decide) rfl (fun ls hl => ?_)
              refine lv_aload_n hx hb dX7_firstShut_57 rfl (lv_at hl 1 rfl) ?_
              refine lv_iload_n hx hb dX7_firstShut_58 rfl (lv_at hl 0 rfl) ?_
              refine va_calli (va_runV (As := [.int r53]) (rest := []) ⟨hx, hb, hml, hown, hts⟩ (c_X7_isShut l dC dI H.size a0 r53 a0g_0 a0g_1 a0g_2 a0g_3 a0g_4 a0g_5 a0g_6 (.int a0_8) a0g_9 a0g_10 a0_7 (.int a0_7_0) a0_7g_1 a0_7g_2 a0_7g_4 a0_7g_5 a0_7g_6 a0_7g_7 a0_7g_8 a0_7g_9 a0_7g_10 a0_7g_11 a0_7g_12 a0_7g_13 a0_7g_14 a0_7_3 ) (cwV 1 hts gX7_firstShut_X7_isShut rfl rfl rfl zd_X7_isShut ⟨Nat.le_of_ble_eq_true rfl, Nat.le_of_ble_eq_true rfl⟩) ⟨ax_blind (fun _ _ _ _ _ => trivial), zr_7 (zp_K hK) (zp_P2 hP) (q0 := 0) rfl, ax_pre (zp_P2 hP) (zp_K hK) (zp_D2 hD) (fun _ _ => trivial)⟩ rfl rfl hl.1 rfl (lv_room (Nat.le_of_ble_eq_true rfl)) dX7_firstShut_59 ⟨Nat.le_of_ble_eq_true rfl, Nat.le_of_ble_eq_true rfl⟩) hS (fun q _ h => zp_F2 hD hS hA q h) (zp_F2 hD hS hA) (fun r59 u t H locs ht hvm hw hB hz1 hk1 hS1 => zo2 hB ht hP hD hk1 (zp_F2 hD hS hA) hS1 (fun hP hK1 hD hS => ?_))
              rcases hw with hw | hw
              · obtain ⟨hw, h59_0⟩ := hw
                subst hw
                have l59k0_a0_7_3 : (-2147483647 : Int) ≤ a0_7_3.toInt := h59_0
                refine lv_if_eq (tgt := 72) hx hb dX7_firstShut_62 (by decide) (fun c62 => absurd c62 (by decide +kernel)) (fun _ => ?_)
                refine lv_aload_n hx hb dX7_firstShut_65 rfl (lv_at hl 1 rfl) ?_
                refine lv_iload hx hb dX7_firstShut_66 (lv_at hl 3 rfl) ?_
                refine va_calli (va_runV (As := [.int j46l4]) (rest := []) ⟨hx, hb, hml, hown, hts⟩ (c_X7_answered l dC dI H.size a0 j46l4 a0g_0 a0g_1 a0g_2 a0g_3 a0g_4 a0g_5 a0g_6 (.ref a0_7) a0g_9 a0g_10 a0_8 ) (cwV 1 hts gX7_firstShut_X7_answered rfl rfl rfl zd_X7_answered ⟨Nat.le_of_ble_eq_true rfl, Nat.le_of_ble_eq_true rfl⟩) ⟨ax_blind (fun _ _ _ _ _ => trivial), zr_7 (zp_K hK) (zp_P1 hP) (q0 := 0) rfl, ax_pre (zp_P1 hP) (zp_K hK) (zp_D1 hD) (fun _ _ => trivial)⟩ rfl rfl hl.1 rfl (lv_room (Nat.le_of_ble_eq_true rfl)) dX7_firstShut_68 ⟨Nat.le_of_ble_eq_true rfl, Nat.le_of_ble_eq_true rfl⟩) hS (fun q _ h => zp_F1 hD hS hA q h) (zp_F1 hD hS hA) (fun r68 u t H locs ht hvm hw => zx_1 (fun v68na0_8 hB hz1 hk1 hS1 => zo1 hB ht hP hD hk1 (zp_F1 hD hS hA) hS1 (fun hP hK1 hD hS => ?_)))
                have hw : r68 = j46l4 := hw
                have hw := hw.symm
                subst hw
                exact W.iret (v := j46l4) hx hb hr (fun t ht hW => ⟨⟨j46l4, (), rfl, ⟨(Int.le_trans zq59 bj46l4_l), u49f_j46l4⟩, v68na0_8, by rw [ht]; exact hP, va_K.moved hW.alike hK, hD⟩, hS.F ht⟩) hS.2.2 dX7_firstShut_71
              · subst hw
                refine lv_if_eq (tgt := 72) hx hb dX7_firstShut_62 (by decide) (fun _ => ?_) (fun c62 => absurd (by decide +kernel) c62)
                obtain ⟨x72, ex72⟩ : ∃ y : Int32, y = j46l4 + Int32.ofInt 1 := ⟨_, rfl⟩
                have qx72 : x72.toInt = j46l4.toInt + 1 := ai_inc ex72 (by decide) (by decide) u49f_j46l4 (by decide)
                have bx72 : (2 : Int) ≤ x72.toInt ∧ x72.toInt ≤ 201 := ⟨by rw [qx72]; exact Int.add_le_add bj46l4_l (Int.le_refl _), by rw [qx72]; exact Int.add_le_add u49f_j46l4 (Int.le_refl _)⟩
                refine lv_iinc (v := x72) (lv' := [(4, .int x72), (3, .int r53), (0, .ref a0), (2, .int a2)]) hx hb dX7_firstShut_72 hl (k := 3) rfl ex72.symm (by decide) rfl (fun ls hl => ?_)
                refine lv_goto (tgt := 46) hx hb dX7_firstShut_75 (by decide) ?_
                exact (hK0 _ _ _).mp (ih46 x72 r53 _ _ _ (by first | exact zg_s hm46 qx72 | (have h0 := qx72; omega)) (Int.le_trans zq54 bx72.1) bx72.2 hP hD hS (lv_sub hl [2, 3, 1, 0] rfl))
        exact (hK0 _ _ _).mp (J46 201 1 a1 _ _ _ (by first | decide +kernel | (have h1 : (1 : Int) ≤ (1 : Int32).toInt := zq1; have h2 : (1 : Int32).toInt ≤ (1 : Int) := zq0; omega)) zq1 (Int.le_trans zq0 zq106) hP hD hS (lv_sub hl [2, 4, 1, 0] rfl))
      · obtain ⟨hw, h29⟩ := hw
        subst hw
        refine lv_if_ne (tgt := 41) hx hb dX7_firstShut_32 (by decide) (fun c32 => absurd (by decide +kernel) c32) (fun _ => ?_)
        exact (hK0 _ _ _).mp (J35  _ _ _   hP hD hS (lv_sub hl [0] rfl))
    · obtain ⟨hw, h18⟩ := hw
      subst hw
      refine lv_if_eq (tgt := 35) hx hb dX7_firstShut_21 (by decide) (fun _ => ?_) (fun c21 => absurd (by decide +kernel) c21)
      have J35 : ∀ (H : Heap) (locs : List Loc) (ls : Array Slot), va_P (dC, dI) vwCl [(a0, .inr (7, [a0g_0, a0g_1, a0g_2, a0g_3, a0g_4, a0g_5, a0g_6, .ref a0_7, .int a0_8, a0g_9, a0g_10])), (a0_7, .inr (0, [.int a0_7_0, a0_7g_1, a0_7g_2, .int a0_7_3, a0_7g_4, a0_7g_5, a0_7g_6, a0_7g_7, a0_7g_8, a0_7g_9, a0_7g_10, a0_7g_11, a0_7g_12, a0_7g_13, a0_7g_14]))] H → va_D A [(a0, .inr (7, [a0g_0, a0g_1, a0g_2, a0g_3, a0g_4, a0g_5, a0g_6, .ref a0_7, .int a0_8, a0g_9, a0g_10])), (a0_7, .inr (0, [.int a0_7_0, a0_7g_1, a0_7g_2, .int a0_7_3, a0_7g_4, a0_7g_5, a0_7g_6, a0_7g_7, a0_7g_8, a0_7g_9, a0_7g_10, a0_7g_11, a0_7g_12, a0_7g_13, a0_7g_14]))] → va_S A s.heap H locs → lv_has ls 5 [(0, .ref a0)] → K H locs (F0 m 35 ls []) := by
        intro  H locs ls   hP hD hS hl
        refine (hK0 _ _ _).mpr ?_
        refine lv_aload_n hx hb dX7_firstShut_35 rfl (lv_at hl 0 rfl) ?_
        refine lv_iconst (v := 2) hx hb dX7_firstShut_36 zk_iconst_2 ?_
        refine va_calli (va_runV (As := [.int 2]) (rest := []) ⟨hx, hb, hml, hown, hts⟩ (c_X7_refused l dC dI H.size a0 2 a0g_0 a0g_1 a0g_2 a0g_3 a0g_4 a0g_5 a0g_6 (.ref a0_7) a0g_9 a0g_10 a0_8 ) (cwV 1 hts gX7_firstShut_X7_refused rfl rfl rfl zd_X7_refused ⟨Nat.le_of_ble_eq_true rfl, Nat.le_of_ble_eq_true rfl⟩) ⟨ax_blind (fun _ _ _ _ _ => trivial), zr_7 (zp_K hK) (zp_P1 hP) (q0 := 0) rfl, ax_pre (zp_P1 hP) (zp_K hK) (zp_D1 hD) (fun _ _ => trivial)⟩ rfl rfl hl.1 rfl (lv_room (Nat.le_of_ble_eq_true rfl)) dX7_firstShut_37 ⟨Nat.le_of_ble_eq_true rfl, Nat.le_of_ble_eq_true rfl⟩) hS (fun q _ h => zp_F1 hD hS hA q h) (zp_F1 hD hS hA) (fun r37 u t H locs ht hvm hw => zx_1 (fun v37na0_8 hB hz1 hk1 hS1 => zo1 hB ht hP hD hk1 (zp_F1 hD hS hA) hS1 (fun hP hK1 hD hS => ?_)))
        have hw : r37 = (-1) := hw
        have hw := hw.symm
        subst hw
        exact W.iret (v := (-1)) hx hb hr (fun t ht hW => ⟨⟨(-1), (), rfl, ⟨(Int.le_trans zq76 zq70), (Int.le_trans zq71 zq107)⟩, v37na0_8, by rw [ht]; exact hP, va_K.moved hW.alike hK, hD⟩, hS.F ht⟩) hS.2.2 dX7_firstShut_40
      exact (hK0 _ _ _).mp (J35  _ _ _   hP hD hS (lv_sub hl [0] rfl))
  · obtain ⟨hw, h1_0, h1_1⟩ := hw
    subst hw
    have l1k1_a0_7_0 : (0 : Int) ≤ a0_7_0.toInt := ba0_7_0_l
    have u1k1_a0_7_0 : a0_7_0.toInt ≤ (0 : Int) := h1_1
    refine lv_if_ne (tgt := 13) hx hb dX7_firstShut_4 (by decide) (fun c4 => absurd (by decide +kernel) c4) (fun _ => ?_)
    refine lv_aload_n hx hb dX7_firstShut_7 rfl (lv_at hl 0 rfl) ?_
    refine lv_iconst (v := 1) hx hb dX7_firstShut_8 zk_iconst_1 ?_
    refine va_calli (va_runV (As := [.int 1]) (rest := []) ⟨hx, hb, hml, hown, hts⟩ (c_X7_refused l dC dI H.size a0 1 a0g_0 a0g_1 a0g_2 a0g_3 a0g_4 a0g_5 a0g_6 (.ref a0_7) a0g_9 a0g_10 a0_8 ) (cwV 1 hts gX7_firstShut_X7_refused rfl rfl rfl zd_X7_refused ⟨Nat.le_of_ble_eq_true rfl, Nat.le_of_ble_eq_true rfl⟩) ⟨ax_blind (fun _ _ _ _ _ => trivial), zr_7 (zp_K hK) (zp_P1 hP) (q0 := 0) rfl, ax_pre (zp_P1 hP) (zp_K hK) (zp_D1 hD) (fun _ _ => trivial)⟩ rfl rfl hl.1 rfl (lv_room (Nat.le_of_ble_eq_true rfl)) dX7_firstShut_9 ⟨Nat.le_of_ble_eq_true rfl, Nat.le_of_ble_eq_true rfl⟩) hS (fun q _ h => zp_F1 hD hS hA q h) (zp_F1 hD hS hA) (fun r9 u t H locs ht hvm hw => zx_1 (fun v9na0_8 hB hz1 hk1 hS1 => zo1 hB ht hP hD hk1 (zp_F1 hD hS hA) hS1 (fun hP hK1 hD hS => ?_)))
    have hw : r9 = (-1) := hw
    have hw := hw.symm
    subst hw
    exact W.iret (v := (-1)) hx hb hr (fun t ht hW => ⟨⟨(-1), (), rfl, ⟨(Int.le_trans zq76 zq70), (Int.le_trans zq71 zq107)⟩, v9na0_8, by rw [ht]; exact hP, va_K.moved hW.alike hK, hD⟩, hS.F ht⟩) hS.2.2 dX7_firstShut_12
end P122_safe
section P129_safe
set_option maxHeartbeats 4000000 in
set_option maxRecDepth 100000 in
theorem c_X7_size (l : Launch) (dC : Nat → ClassId) (dI : Nat → Nat → Nat) (sz : Nat) (a0 : Nat) (a1 : Int32) (a0_0 : Nat) (a0_1 : Nat) (a0g_2 a0g_3 a0g_5 a0g_6 a0g_8 a0g_9 a0g_10 : Value) (a0_4 : Nat) (a0_7 : Nat) (a0_1_0 : Int32) (a0_1g_1 a0_1g_2 a0_1g_3 a0_1g_4 a0_1g_5 a0_1g_6 : Value) (a0_4_0 : Int32) (a0_4_1 : Int32) (a0_4g_2 a0_4g_3 a0_4g_4 : Value) (a0_0_0 : Int32) (a0_0g_1 a0_0g_2 a0_0g_3 a0_0g_4 a0_0g_5 a0_0g_6 a0_0g_7 a0_0g_8 a0_0g_9 a0_0g_10 a0_0g_11 a0_0g_12 a0_0g_13 : Value) (a0_7_0 : Int32) (a0_7_1 : Int32) (a0_7_2 : Int32) (a0_7_3 : Int32) (a0_7g_4 a0_7g_10 a0_7g_11 a0_7g_12 a0_7g_13 : Value) (a0_7_5 : Int32) (a0_7_6 : Int32) (a0_7_7 : Int32) (a0_7_8 : Int32) (a0_7_9 : Int32) (a0_7_14 : Nat) (a0_7_14_0 : Int32) (a0_7_14g_1 a0_7_14g_2 a0_7_14g_3 : Value) (ba0_4_0_l : (0 : Int) ≤ a0_4_0.toInt) (ba0_4_0_u : a0_4_0.toInt ≤ (16 : Int)) (ba0_4_1_l : (0 : Int) ≤ a0_4_1.toInt) (ba0_4_1_u : a0_4_1.toInt ≤ (3 : Int)) (ba0_0_0_l : (0 : Int) ≤ a0_0_0.toInt) (ba0_0_0_u : a0_0_0.toInt ≤ (900 : Int)) (ba0_7_0_l : (0 : Int) ≤ a0_7_0.toInt) (ba0_7_0_u : a0_7_0.toInt ≤ (9 : Int)) (ba0_7_5_l : (0 : Int) ≤ a0_7_5.toInt) (ba0_7_5_u : a0_7_5.toInt ≤ (8 : Int)) (ba0_7_6_l : (0 : Int) ≤ a0_7_6.toInt) (ba0_7_6_u : a0_7_6.toInt ≤ (8 : Int)) (ba0_7_7_l : (0 : Int) ≤ a0_7_7.toInt) (ba0_7_7_u : a0_7_7.toInt ≤ (8 : Int)) (ba0_7_9_l : (0 : Int) ≤ a0_7_9.toInt) (ba0_7_9_u : a0_7_9.toInt ≤ (6 : Int)) (ba0_7_14_0_l : (0 : Int) ≤ a0_7_14_0.toInt) (ba0_7_14_0_u : a0_7_14_0.toInt ≤ (3 : Int)) : zm l yX7_size wsX7_size ({ frames := 2, cells := 0, slots := 0, locals := 41 }) [.ref a0, .int a1] dC dI sz [(a0, .inr (7, [.ref a0_0, .ref a0_1, a0g_2, a0g_3, .ref a0_4, a0g_5, a0g_6, .ref a0_7, a0g_8, a0g_9, a0g_10])), (a0_1, .inr (5, [.int a0_1_0, a0_1g_1, a0_1g_2, a0_1g_3, a0_1g_4, a0_1g_5, a0_1g_6])), (a0_4, .inr (1, [.int a0_4_0, .int a0_4_1, a0_4g_2, a0_4g_3, a0_4g_4])), (a0_0, .inr (3, [.int a0_0_0, a0_0g_1, a0_0g_2, a0_0g_3, a0_0g_4, a0_0g_5, a0_0g_6, a0_0g_7, a0_0g_8, a0_0g_9, a0_0g_10, a0_0g_11, a0_0g_12, a0_0g_13])), (a0_7, .inr (0, [.int a0_7_0, .int a0_7_1, .int a0_7_2, .int a0_7_3, a0_7g_4, .int a0_7_5, .int a0_7_6, .int a0_7_7, .int a0_7_8, .int a0_7_9, a0_7g_10, a0_7g_11, a0_7g_12, a0_7g_13, .ref a0_7_14])), (a0_7_14, .inr (6, [.int a0_7_14_0, a0_7_14g_1, a0_7_14g_2, a0_7_14g_3]))] [] (fun A _ => True) (fun A => va_Qi (fun (r : Int32) (_ : Unit) => True) (fun (_ : Unit) (t : State) => ax_B dC dI A [(a0, .inr (7, [.ref a0_0, .ref a0_1, a0g_2, a0g_3, .ref a0_4, a0g_5, a0g_6, .ref a0_7, a0g_8, a0g_9, a0g_10])), (a0_1, .inr (5, [.int a0_1_0, a0_1g_1, a0_1g_2, a0_1g_3, a0_1g_4, a0_1g_5, a0_1g_6])), (a0_4, .inr (1, [.int a0_4_0, .int a0_4_1, a0_4g_2, a0_4g_3, a0_4g_4])), (a0_0, .inr (3, [.int a0_0_0, a0_0g_1, a0_0g_2, a0_0g_3, a0_0g_4, a0_0g_5, a0_0g_6, a0_0g_7, a0_0g_8, a0_0g_9, a0_0g_10, a0_0g_11, a0_0g_12, a0_0g_13])), (a0_7, .inr (0, [.int a0_7_0, .int a0_7_1, .int a0_7_2, .int a0_7_3, a0_7g_4, .int a0_7_5, .int a0_7_6, .int a0_7_7, .int a0_7_8, .int a0_7_9, a0_7g_10, a0_7g_11, a0_7g_12, a0_7g_13, .ref a0_7_14])), (a0_7_14, .inr (6, [.int a0_7_14_0, a0_7_14g_1, a0_7_14g_2, a0_7_14g_3]))] [] t) A) := by
  refine zh (cc := cX7_size) (maxL := 2) (ret := (some .int)) zn_RX7 rfl (Nat.le_of_ble_eq_true rfl) (fun p e s m below meth c A ls hx hb hml hr hts (hown : s.vm.findClass RX7 = some m.cls) hlocks hA hS hP hK hD hE (hl : lv_has ls 2 [(0, .ref a0), (1, .int a1)]) => ?_)
  refine lv_iload_n hx hb dX7_size_0 rfl (lv_at hl 1 rfl) ?_
  by_cases n_1 : a1 = 10
  · subst n_1
    refine lv_tableIn (off := 31) (tgt := 32) hx hb dX7_size_1 (by decide) (by decide) (by decide +kernel) (by decide) ?_
    refine lv_aload_n hx hb dX7_size_32 rfl (lv_at hl 0 rfl) ?_
    refine va_get (D := (dC, dI)) (ci := 7) (v := .ref a0_1) (C := RX7) (T := TX7) (N := 11) hx hb hts zi_X7_size_7 hown hK hP 0 rfl rfl 1 (by decide) (hts (.fieldLink RX7 19 "WaxTurns" "now" "LWaxTurns$Scene;") (zm_X7_size_r1 (List.mem_of_getElem? (i := 0) rfl))) (fun _ h9 => h9) rfl dX7_size_33 ?_
    refine va_get (D := (dC, dI)) (ci := 5) (v := .int a0_1_0) (C := RX5) (T := TX5) (N := 7) hx hb hts zi_X7_size_5 hown hK hP 1 rfl rfl 0 (by decide) (hts (.fieldLink RX7 147 "WaxTurns$Scene" "minute" "I") (zm_X7_size_r1 (List.mem_of_getElem? (i := 1) rfl))) (fun _ h9 => h9) rfl dX7_size_36 ?_
    exact W.iret (v := a0_1_0) hx hb hr (fun t ht hW => ⟨⟨a0_1_0, (), rfl, trivial, by rw [ht]; exact hP, va_K.moved hW.alike hK, hD⟩, hS.F ht⟩) hS.2.2 dX7_size_39
  by_cases n_2 : a1 = 11
  · subst n_2
    refine lv_tableIn (off := 39) (tgt := 40) hx hb dX7_size_1 (by decide) (by decide) (by decide +kernel) (by decide) ?_
    refine lv_aload_n hx hb dX7_size_40 rfl (lv_at hl 0 rfl) ?_
    refine va_get (D := (dC, dI)) (ci := 7) (v := .ref a0_4) (C := RX7) (T := TX7) (N := 11) hx hb hts zi_X7_size_7 hown hK hP 0 rfl rfl 4 (by decide) (hts (.fieldLink RX7 36 "WaxTurns" "history" "LWaxTurns$History;") (zm_X7_size_r1 (List.mem_of_getElem? (i := 2) rfl))) (fun _ h9 => h9) rfl dX7_size_41 ?_
    refine va_get (D := (dC, dI)) (ci := 1) (v := .int a0_4_0) (C := RX1) (T := TX1) (N := 5) hx hb hts zi_X7_size_1 hown hK hP 2 rfl rfl 0 (by decide) (hts (.fieldLink RX7 355 "WaxTurns$History" "keptCount" "I") (zm_X7_size_r1 (List.mem_of_getElem? (i := 3) rfl))) (fun _ h9 => h9) rfl dX7_size_44 ?_
    exact W.iret (v := a0_4_0) hx hb hr (fun t ht hW => ⟨⟨a0_4_0, (), rfl, trivial, by rw [ht]; exact hP, va_K.moved hW.alike hK, hD⟩, hS.F ht⟩) hS.2.2 dX7_size_47
  by_cases n_3 : a1 = 12
  · subst n_3
    refine lv_tableIn (off := 47) (tgt := 48) hx hb dX7_size_1 (by decide) (by decide) (by decide +kernel) (by decide) ?_
    refine lv_aload_n hx hb dX7_size_48 rfl (lv_at hl 0 rfl) ?_
    refine va_get (D := (dC, dI)) (ci := 7) (v := .ref a0_4) (C := RX7) (T := TX7) (N := 11) hx hb hts zi_X7_size_7 hown hK hP 0 rfl rfl 4 (by decide) (hts (.fieldLink RX7 36 "WaxTurns" "history" "LWaxTurns$History;") (zm_X7_size_r1 (List.mem_of_getElem? (i := 2) rfl))) (fun _ h9 => h9) rfl dX7_size_49 ?_
    refine va_get (D := (dC, dI)) (ci := 1) (v := .int a0_4_1) (C := RX1) (T := TX1) (N := 5) hx hb hts zi_X7_size_1 hown hK hP 2 rfl rfl 1 (by decide) (hts (.fieldLink RX7 337 "WaxTurns$History" "imageCount" "I") (zm_X7_size_r1 (List.mem_of_getElem? (i := 4) rfl))) (fun _ h9 => h9) rfl dX7_size_52 ?_
    exact W.iret (v := a0_4_1) hx hb hr (fun t ht hW => ⟨⟨a0_4_1, (), rfl, trivial, by rw [ht]; exact hP, va_K.moved hW.alike hK, hD⟩, hS.F ht⟩) hS.2.2 dX7_size_55
  by_cases n_4 : a1 = 13
  · subst n_4
    refine lv_tableIn (off := 55) (tgt := 56) hx hb dX7_size_1 (by decide) (by decide) (by decide +kernel) (by decide) ?_
    refine lv_aload_n hx hb dX7_size_56 rfl (lv_at hl 0 rfl) ?_
    refine va_get (D := (dC, dI)) (ci := 7) (v := .ref a0_0) (C := RX7) (T := TX7) (N := 11) hx hb hts zi_X7_size_7 hown hK hP 0 rfl rfl 0 (by decide) (hts (.fieldLink RX7 12 "WaxTurns" "reade\x72" "LWaxTurns$Reader;") (zm_X7_size_r1 (List.mem_of_getElem? (i := 5) rfl))) (fun _ h9 => h9) rfl dX7_size_57 ?_
    refine va_get (D := (dC, dI)) (ci := 3) (v := .int a0_0_0) (C := RX3) (T := TX3) (N := 14) hx hb hts zi_X7_size_3 hown hK hP 3 rfl rfl 0 (by decide) (hts (.fieldLink RX7 71 "WaxTurns$Reade\x72" "tapeSize" "I") (zm_X7_size_r1 (List.mem_of_getElem? (i := 6) rfl))) (fun _ h9 => h9) rfl dX7_size_60 ?_
    exact W.iret (v := a0_0_0) hx hb hr (fun t ht hW => ⟨⟨a0_0_0, (), rfl, trivial, by rw [ht]; exact hP, va_K.moved hW.alike hK, hD⟩, hS.F ht⟩) hS.2.2 dX7_size_63
  have o_5 : a1.toInt < 10 ∨ 13 < a1.toInt := by
    have en_1 : a1.toInt ≠ 10 := fun h9 => n_1 (Int32.toInt_inj.mp (h9.trans (by decide)))
    have en_2 : a1.toInt ≠ 11 := fun h9 => n_2 (Int32.toInt_inj.mp (h9.trans (by decide)))
    have en_3 : a1.toInt ≠ 12 := fun h9 => n_3 (Int32.toInt_inj.mp (h9.trans (by decide)))
    have en_4 : a1.toInt ≠ 13 := fun h9 => n_4 (Int32.toInt_inj.mp (h9.trans (by decide)))
    omega
  refine lv_tableOut (tgt := 64) hx hb dX7_size_1 o_5 (by decide) ?_
  refine lv_aload_n hx hb dX7_size_64 rfl (lv_at hl 0 rfl) ?_
  refine va_get (D := (dC, dI)) (ci := 7) (v := .ref a0_7) (C := RX7) (T := TX7) (N := 11) hx hb hts zi_X7_size_7 hown hK hP 0 rfl rfl 7 (by decide) (hts (.fieldLink RX7 57 "WaxTurns" "hall" "LWaxTurns$Hall;") (zm_X7_size_r1 (List.mem_of_getElem? (i := 7) rfl))) (fun _ h9 => h9) rfl dX7_size_65 ?_
  refine lv_iload_n hx hb dX7_size_68 rfl (lv_at hl 1 rfl) ?_
  refine zc_cutc (wc := [(a0_7, .inr (0, [.int a0_7_0, .int a0_7_1, .int a0_7_2, .int a0_7_3, a0_7g_4, .int a0_7_5, .int a0_7_6, .int a0_7_7, .int a0_7_8, .int a0_7_9, a0_7g_10, a0_7g_11, a0_7g_12, a0_7g_13, .ref a0_7_14])), (a0_7_14, .inr (6, [.int a0_7_14_0, a0_7_14g_1, a0_7_14g_2, a0_7_14g_3]))]) hP hD hS hA [4, 5] (by decide +kernel) rfl (fun hPc hDc hFc hCc => ?_)
  have hKc := zp_K hK
  refine va_calli (va_runV (As := [.int a1]) (rest := []) ⟨hx, hb, hml, hown, hts⟩ (c_X0_sizeTold l dC dI s.heap.size a0_7 a1 a0_7_0 a0_7_1 a0_7_2 a0_7_3 a0_7g_4 a0_7g_10 a0_7g_11 a0_7g_12 a0_7g_13 a0_7_5 a0_7_6 a0_7_7 a0_7_8 a0_7_9 a0_7_14 a0_7_14_0 a0_7_14g_1 a0_7_14g_2 a0_7_14g_3 ba0_7_0_l ba0_7_0_u ba0_7_5_l ba0_7_5_u ba0_7_6_l ba0_7_6_u ba0_7_7_l ba0_7_7_u ba0_7_9_l ba0_7_9_u ba0_7_14_0_l ba0_7_14_0_u) (cwV 1 hts gX7_size_X0_sizeTold rfl rfl rfl zd_X0_sizeTold ⟨Nat.le_of_ble_eq_true rfl, Nat.le_of_ble_eq_true rfl⟩) ⟨ax_blind (fun _ _ _ _ _ => trivial), zr_0 hKc hPc (q0 := 0) rfl, ax_pre hPc hKc hDc (fun _ _ => trivial)⟩ rfl rfl hl.1 rfl (lv_room (Nat.le_of_ble_eq_true rfl)) dX7_size_69 ⟨Nat.le_of_ble_eq_true rfl, Nat.le_of_ble_eq_true rfl⟩) hS (fun q _ h => hFc q h) hFc (fun r69 u t H locs ht hvm hw hB hz1 hk1 hS1 => zo hB ht hS1 (fun hP1 hK1 hD1 hS => ?_))
  refine zc_backc (w := [(a0, .inr (7, [.ref a0_0, .ref a0_1, a0g_2, a0g_3, .ref a0_4, a0g_5, a0g_6, .ref a0_7, a0g_8, a0g_9, a0g_10])), (a0_1, .inr (5, [.int a0_1_0, a0_1g_1, a0_1g_2, a0_1g_3, a0_1g_4, a0_1g_5, a0_1g_6])), (a0_4, .inr (1, [.int a0_4_0, .int a0_4_1, a0_4g_2, a0_4g_3, a0_4g_4])), (a0_0, .inr (3, [.int a0_0_0, a0_0g_1, a0_0g_2, a0_0g_3, a0_0g_4, a0_0g_5, a0_0g_6, a0_0g_7, a0_0g_8, a0_0g_9, a0_0g_10, a0_0g_11, a0_0g_12, a0_0g_13])), (a0_7, .inr (0, [.int a0_7_0, .int a0_7_1, .int a0_7_2, .int a0_7_3, a0_7g_4, .int a0_7_5, .int a0_7_6, .int a0_7_7, .int a0_7_8, .int a0_7_9, a0_7g_10, a0_7g_11, a0_7g_12, a0_7g_13, .ref a0_7_14])), (a0_7_14, .inr (6, [.int a0_7_14_0, a0_7_14g_1, a0_7_14g_2, a0_7_14g_3]))]) hP hD hCc hk1 hFc hP1 hD1 [.inl 0, .inl 1, .inl 2, .inl 3, .inr 0, .inr 1] (by decide +kernel) rfl (fun hP hD => ?_)
  exact W.iret (v := r69) hx hb hr (fun t ht hW => ⟨⟨r69, (), rfl, trivial, by rw [ht]; exact hP, va_K.moved hW.alike hK, hD⟩, hS.F ht⟩) hS.2.2 dX7_size_72
end P129_safe
section P130_safe
set_option maxHeartbeats 4000000 in
set_option maxRecDepth 100000 in
theorem c_X8_good (l : Launch) (dC : Nat → ClassId) (dI : Nat → Nat → Nat) (sz : Nat) (a0 : Nat) (a0_0 : Int32) (a0g_1 a0g_2 a0g_3 a0g_4 a0g_5 a0g_6 a0g_7 a0g_8 a0g_9 a0g_10 a0g_12 a0g_13 a0g_14 a0g_15 a0g_16 a0g_17 a0g_18 a0g_19 a0g_20 a0g_21 a0g_22 a0g_23 a0g_24 a0g_25 a0g_26 a0g_27 a0g_28 a0g_29 a0g_30 a0g_31 a0g_32 a0g_33 a0g_34 a0g_35 a0g_36 a0g_37 a0g_38 a0g_39 : Value) (a0_11 : Int32)  : zm l yX8_good wsX8_good ({ frames := 0, cells := 0, slots := 0, locals := 0 }) [.ref a0] dC dI sz [(a0, .inr (8, [Value.int a0_0, a0g_1, a0g_2, a0g_3, a0g_4, a0g_5, a0g_6, a0g_7, a0g_8, a0g_9, a0g_10, Value.int a0_11, a0g_12, a0g_13, a0g_14, a0g_15, a0g_16, a0g_17, a0g_18, a0g_19, a0g_20, a0g_21, a0g_22, a0g_23, a0g_24, a0g_25, a0g_26, a0g_27, a0g_28, a0g_29, a0g_30, a0g_31, a0g_32, a0g_33, a0g_34, a0g_35, a0g_36, a0g_37, a0g_38, a0g_39]))] [] (fun A _ => True) (fun A => va_Qv (fun (_ : Unit) => True) (fun (_ : Unit) (t : State) => ∃ na0_0 : Int32, ∃ na0_11 : Int32, ax_B dC dI A [(a0, .inr (8, [Value.int na0_0, a0g_1, a0g_2, a0g_3, a0g_4, a0g_5, a0g_6, a0g_7, a0g_8, a0g_9, a0g_10, Value.int na0_11, a0g_12, a0g_13, a0g_14, a0g_15, a0g_16, a0g_17, a0g_18, a0g_19, a0g_20, a0g_21, a0g_22, a0g_23, a0g_24, a0g_25, a0g_26, a0g_27, a0g_28, a0g_29, a0g_30, a0g_31, a0g_32, a0g_33, a0g_34, a0g_35, a0g_36, a0g_37, a0g_38, a0g_39]))] [] t) A) := by
  refine zh (cc := cX8_good) (maxL := 1) (ret := none) zn_RX8 rfl (Nat.le_of_ble_eq_true rfl) (fun p e s m below meth c A ls hx hb hml hr hts (hown : s.vm.findClass RX8 = some m.cls) hlocks hA hS hP hK hD hE (hl : lv_has ls 1 [(0, .ref a0)]) => ?_)
  refine lv_aload_n hx hb dX8_good_0 rfl (lv_at hl 0 rfl) ?_
  refine lv_iconst (v := 0) hx hb dX8_good_1 zk_iconst_0 ?_
  refine va_put (D := (dC, dI)) (ci := 8) (v := .int 0) (ty := .int) (C := RX8) (T := TX8) (N := 40) hx hb hts zi_X8_good_8 tyX8 tyX8_ok nmX8 hown hK hP hD hS 0 rfl rfl 0 (by decide) (hts (.fieldLink RX8 59 "WaxTurnsModel" "thrown" "I") (List.mem_cons_of_mem _ (List.mem_append_left _ (List.mem_of_getElem? (i := 0) rfl)))) (fun _ h9 => h9) rfl (tyX8_ok 0 (by decide)) rfl rfl (Nat.le_of_ble_eq_true rfl) dX8_good_2 (fun H locs hP hD hS => ?_)
  refine zs_0 (y := (a0, .inr (8, [Value.int 0, a0g_1, a0g_2, a0g_3, a0g_4, a0g_5, a0g_6, a0g_7, a0g_8, a0g_9, a0g_10, Value.int a0_11, a0g_12, a0g_13, a0g_14, a0g_15, a0g_16, a0g_17, a0g_18, a0g_19, a0g_20, a0g_21, a0g_22, a0g_23, a0g_24, a0g_25, a0g_26, a0g_27, a0g_28, a0g_29, a0g_30, a0g_31, a0g_32, a0g_33, a0g_34, a0g_35, a0g_36, a0g_37, a0g_38, a0g_39]))) hP hD rfl (fun hP hD => ?_)
  refine lv_aload_n hx hb dX8_good_5 rfl (lv_at hl 0 rfl) ?_
  refine lv_iconst (v := 0) hx hb dX8_good_6 zk_iconst_0 ?_
  refine va_put (D := (dC, dI)) (ci := 8) (v := .int 0) (ty := .int) (C := RX8) (T := TX8) (N := 40) hx hb hts zi_X8_good_8 tyX8 tyX8_ok nmX8 hown hK hP hD hS 0 rfl rfl 11 (by decide) (hts (.fieldLink RX8 62 "WaxTurnsModel" "trouble" "I") (List.mem_cons_of_mem _ (List.mem_append_left _ (List.mem_of_getElem? (i := 1) rfl)))) (fun _ h9 => h9) rfl (tyX8_ok 11 (by decide)) rfl rfl (Nat.le_of_ble_eq_true rfl) dX8_good_7 (fun H locs hP hD hS => ?_)
  refine zs_0 (y := (a0, .inr (8, [Value.int 0, a0g_1, a0g_2, a0g_3, a0g_4, a0g_5, a0g_6, a0g_7, a0g_8, a0g_9, a0g_10, Value.int 0, a0g_12, a0g_13, a0g_14, a0g_15, a0g_16, a0g_17, a0g_18, a0g_19, a0g_20, a0g_21, a0g_22, a0g_23, a0g_24, a0g_25, a0g_26, a0g_27, a0g_28, a0g_29, a0g_30, a0g_31, a0g_32, a0g_33, a0g_34, a0g_35, a0g_36, a0g_37, a0g_38, a0g_39]))) hP hD rfl (fun hP hD => ?_)
  exact W.vret hx hb hr (fun t ht hW => ⟨⟨(), rfl, trivial, 0, 0, by rw [ht]; exact hP, va_K.moved hW.alike hK, hD⟩, hS.F ht⟩) hS.2.2 dX8_good_10

set_option maxHeartbeats 4000000 in
set_option maxRecDepth 100000 in
theorem c_X8_no (l : Launch) (dC : Nat → ClassId) (dI : Nat → Nat → Nat) (sz : Nat) (a0 : Nat) (a1 : Int32) (a0g_0 a0g_1 a0g_2 a0g_3 a0g_4 a0g_5 a0g_6 a0g_7 a0g_8 a0g_9 a0g_10 a0g_12 a0g_13 a0g_14 a0g_15 a0g_16 a0g_17 a0g_18 a0g_19 a0g_20 a0g_21 a0g_22 a0g_23 a0g_24 a0g_25 a0g_26 a0g_27 a0g_28 a0g_29 a0g_30 a0g_31 a0g_32 a0g_33 a0g_34 a0g_35 a0g_36 a0g_37 a0g_38 a0g_39 : Value) (a0_11 : Int32)  : zm l yX8_no wsX8_no ({ frames := 0, cells := 0, slots := 0, locals := 0 }) [.ref a0, .int a1] dC dI sz [(a0, .inr (8, [a0g_0, a0g_1, a0g_2, a0g_3, a0g_4, a0g_5, a0g_6, a0g_7, a0g_8, a0g_9, a0g_10, Value.int a0_11, a0g_12, a0g_13, a0g_14, a0g_15, a0g_16, a0g_17, a0g_18, a0g_19, a0g_20, a0g_21, a0g_22, a0g_23, a0g_24, a0g_25, a0g_26, a0g_27, a0g_28, a0g_29, a0g_30, a0g_31, a0g_32, a0g_33, a0g_34, a0g_35, a0g_36, a0g_37, a0g_38, a0g_39]))] [] (fun A _ => True) (fun A => va_Qi (fun (r : Int32) (_ : Unit) => r = (-1)) (fun (_ : Unit) (t : State) => ∃ na0_11 : Int32, ax_B dC dI A [(a0, .inr (8, [a0g_0, a0g_1, a0g_2, a0g_3, a0g_4, a0g_5, a0g_6, a0g_7, a0g_8, a0g_9, a0g_10, Value.int na0_11, a0g_12, a0g_13, a0g_14, a0g_15, a0g_16, a0g_17, a0g_18, a0g_19, a0g_20, a0g_21, a0g_22, a0g_23, a0g_24, a0g_25, a0g_26, a0g_27, a0g_28, a0g_29, a0g_30, a0g_31, a0g_32, a0g_33, a0g_34, a0g_35, a0g_36, a0g_37, a0g_38, a0g_39]))] [] t) A) := by
  refine zh (cc := cX8_no) (maxL := 2) (ret := (some .int)) zn_RX8 rfl (Nat.le_of_ble_eq_true rfl) (fun p e s m below meth c A ls hx hb hml hr hts (hown : s.vm.findClass RX8 = some m.cls) hlocks hA hS hP hK hD hE (hl : lv_has ls 2 [(0, .ref a0), (1, .int a1)]) => ?_)
  refine lv_aload_n hx hb dX8_no_0 rfl (lv_at hl 0 rfl) ?_
  refine lv_iload_n hx hb dX8_no_1 rfl (lv_at hl 1 rfl) ?_
  refine va_put (D := (dC, dI)) (ci := 8) (v := .int a1) (ty := .int) (C := RX8) (T := TX8) (N := 40) hx hb hts zi_X8_no_8 tyX8 tyX8_ok nmX8 hown hK hP hD hS 0 rfl rfl 11 (by decide) (hts (.fieldLink RX8 62 "WaxTurnsModel" "trouble" "I") (List.mem_cons_of_mem _ (List.mem_append_left _ (List.mem_of_getElem? (i := 0) rfl)))) (fun _ h9 => h9) rfl (tyX8_ok 11 (by decide)) rfl rfl (Nat.le_of_ble_eq_true rfl) dX8_no_2 (fun H locs hP hD hS => ?_)
  refine zs_0 (y := (a0, .inr (8, [a0g_0, a0g_1, a0g_2, a0g_3, a0g_4, a0g_5, a0g_6, a0g_7, a0g_8, a0g_9, a0g_10, Value.int a1, a0g_12, a0g_13, a0g_14, a0g_15, a0g_16, a0g_17, a0g_18, a0g_19, a0g_20, a0g_21, a0g_22, a0g_23, a0g_24, a0g_25, a0g_26, a0g_27, a0g_28, a0g_29, a0g_30, a0g_31, a0g_32, a0g_33, a0g_34, a0g_35, a0g_36, a0g_37, a0g_38, a0g_39]))) hP hD rfl (fun hP hD => ?_)
  refine lv_iconst (v := (-1)) hx hb dX8_no_5 zk_iconst_n1 ?_
  exact W.iret (v := (-1)) hx hb hr (fun t ht hW => ⟨⟨(-1), (), rfl, rfl, a1, by rw [ht]; exact hP, va_K.moved hW.alike hK, hD⟩, hS.F ht⟩) hS.2.2 dX8_no_6

set_option maxHeartbeats 4000000 in
set_option maxRecDepth 100000 in
theorem c_X8_in (l : Launch) (dC : Nat → ClassId) (dI : Nat → Nat → Nat) (sz : Nat) (a1 : Int32) (a2 : Int32) (a3 : Int32)  : zm l yX8_in wsX8_in ({ frames := 0, cells := 0, slots := 0, locals := 0 }) [.int a1, .int a2, .int a3] dC dI sz [] [] (fun A _ => True) (fun A => va_Qi (fun (r : Int32) (_ : Unit) => (r = 1 ∧ a2.toInt ≤ a1.toInt ∧ a1.toInt ≤ a3.toInt) ∨ (r = 0 ∧ (a1.toInt < a2.toInt ∨ a3.toInt < a1.toInt))) (fun (_ : Unit) (t : State) => ax_B dC dI A [] [] t) A) := by
  refine zh (cc := cX8_in) (maxL := 3) (ret := (some .boolean)) zn_RX8 rfl (Nat.le_of_ble_eq_true rfl) (fun p e s m below meth c A ls hx hb hml hr hts (hown : s.vm.findClass RX8 = some m.cls) hlocks hA hS hP hK hD hE (hl : lv_has ls 3 [(0, .int a1), (1, .int a2), (2, .int a3)]) => ?_)
  refine lv_iload_n hx hb dX8_in_0 rfl (lv_at hl 0 rfl) ?_
  refine lv_iload_n hx hb dX8_in_1 rfl (lv_at hl 1 rfl) ?_
  refine lv_icmp_lt (tgt := 14) hx hb dX8_in_2 (by decide) (fun c2 => ?_) (fun c2 => ?_)
  · have gc2 := ai_lt c2
    have u2t_a1 : a1.toInt ≤ (2147483646 : Int) := ai_lthi gc2 (ai_max a2)
    have l2t_a2 : (-2147483647 : Int) ≤ a2.toInt := ai_ltlo gc2 (ai_min a1)
    refine lv_iconst (v := 0) hx hb dX8_in_14 zk_iconst_0 ?_
    exact W.zret (v := 0) hx hb hr rfl (fun t ht hW => ⟨⟨0, (), rfl, (Or.inr ⟨rfl, Or.inl gc2⟩), by rw [ht]; exact hP, va_K.moved hW.alike hK, hD⟩, hS.F ht⟩) hS.2.2 dX8_in_15
  · have gc2 := ai_nlt c2
    refine lv_iload_n hx hb dX8_in_5 rfl (lv_at hl 0 rfl) ?_
    refine lv_iload_n hx hb dX8_in_6 rfl (lv_at hl 2 rfl) ?_
    refine lv_icmp_gt (tgt := 14) hx hb dX8_in_7 (by decide) (fun c7 => ?_) (fun c7 => ?_)
    · have gc7 := ai_lt c7
      have u7t_a3 : a3.toInt ≤ (2147483646 : Int) := ai_lthi gc7 (ai_max a1)
      have l7t_a1 : (-2147483647 : Int) ≤ a1.toInt := ai_ltlo gc7 (ai_min a3)
      refine lv_iconst (v := 0) hx hb dX8_in_14 zk_iconst_0 ?_
      exact W.zret (v := 0) hx hb hr rfl (fun t ht hW => ⟨⟨0, (), rfl, (Or.inr ⟨rfl, Or.inr gc7⟩), by rw [ht]; exact hP, va_K.moved hW.alike hK, hD⟩, hS.F ht⟩) hS.2.2 dX8_in_15
    · have gc7 := ai_nlt c7
      refine lv_iconst (v := 1) hx hb dX8_in_10 zk_iconst_1 ?_
      refine lv_goto (tgt := 15) hx hb dX8_in_11 (by decide) ?_
      exact W.zret (v := 1) hx hb hr rfl (fun t ht hW => ⟨⟨1, (), rfl, (Or.inl ⟨rfl, gc2, gc7⟩), by rw [ht]; exact hP, va_K.moved hW.alike hK, hD⟩, hS.F ht⟩) hS.2.2 dX8_in_15

set_option maxHeartbeats 4000000 in
set_option maxRecDepth 100000 in
theorem c_X8_hasBit (l : Launch) (dC : Nat → ClassId) (dI : Nat → Nat → Nat) (sz : Nat) (a1 : Int32) (a2 : Int32)  : zm l yX8_hasBit wsX8_hasBit ({ frames := 0, cells := 0, slots := 0, locals := 0 }) [.int a1, .int a2] dC dI sz [] [] (fun A _ => True) (fun A => va_Qi (fun (r : Int32) (_ : Unit) => (r = 1) ∨ (r = 0)) (fun (_ : Unit) (t : State) => ax_B dC dI A [] [] t) A) := by
  refine zh (cc := cX8_hasBit) (maxL := 2) (ret := (some .boolean)) zn_RX8 rfl (Nat.le_of_ble_eq_true rfl) (fun p e s m below meth c A ls hx hb hml hr hts (hown : s.vm.findClass RX8 = some m.cls) hlocks hA hS hP hK hD hE (hl : lv_has ls 2 [(0, .int a1), (1, .int a2)]) => ?_)
  refine lv_iload_n hx hb dX8_hasBit_0 rfl (lv_at hl 0 rfl) ?_
  refine lv_iload_n hx hb dX8_hasBit_1 rfl (lv_at hl 1 rfl) ?_
  refine lv_ishr hx hb dX8_hasBit_2 ?_
  refine lv_topi (fun x2 ex2 => ?_)
  refine lv_iconst (v := 1) hx hb dX8_hasBit_3 zk_iconst_1 ?_
  refine lv_iand hx hb dX8_hasBit_4 ?_
  refine lv_topi (fun x4 ex4 => ?_)
  refine lv_iconst (v := 1) hx hb dX8_hasBit_5 zk_iconst_1 ?_
  refine lv_icmp_ne (tgt := 13) hx hb dX8_hasBit_6 (by decide) (fun c6 => ?_) (fun c6 => ?_)
  · have gc6 := ai_ne c6
    refine lv_iconst (v := 0) hx hb dX8_hasBit_13 zk_iconst_0 ?_
    exact W.zret (v := 0) hx hb hr rfl (fun t ht hW => ⟨⟨0, (), rfl, (Or.inr (rfl)), by rw [ht]; exact hP, va_K.moved hW.alike hK, hD⟩, hS.F ht⟩) hS.2.2 dX8_hasBit_14
  · have gc6 := ai_eq c6
    have u6f_x4 : x4.toInt ≤ (1 : Int) := Int.le_trans (Int.le_of_eq gc6) zq0
    have l6f_x4 : (1 : Int) ≤ x4.toInt := Int.le_trans zq1 (Int.le_of_eq gc6.symm)
    refine lv_iconst (v := 1) hx hb dX8_hasBit_9 zk_iconst_1 ?_
    refine lv_goto (tgt := 14) hx hb dX8_hasBit_10 (by decide) ?_
    exact W.zret (v := 1) hx hb hr rfl (fun t ht hW => ⟨⟨1, (), rfl, (Or.inl (rfl)), by rw [ht]; exact hP, va_K.moved hW.alike hK, hD⟩, hS.F ht⟩) hS.2.2 dX8_hasBit_14

set_option maxHeartbeats 4000000 in
set_option maxRecDepth 100000 in
theorem c_X8_ones (l : Launch) (dC : Nat → ClassId) (dI : Nat → Nat → Nat) (sz : Nat) (a1 : Int32)  : zm l yX8_ones wsX8_ones ({ frames := 0, cells := 0, slots := 0, locals := 0 }) [.int a1] dC dI sz [] [] (fun A _ => True) (fun A => va_Qi (fun (r : Int32) (_ : Unit) => True) (fun (_ : Unit) (t : State) => ax_B dC dI A [] [] t) A) := by
  refine zh (cc := cX8_ones) (maxL := 3) (ret := (some .int)) zn_RX8 rfl (Nat.le_of_ble_eq_true rfl) (fun p e s m below meth c A ls hx hb hml hr hts (hown : s.vm.findClass RX8 = some m.cls) hlocks hA hS hP hK hD hE (hl : lv_has ls 3 [(0, .int a1)]) => ?_)
  refine ai_open (fun K hK0 => ?_)
  refine (hK0 _ _ _).mpr ?_
  refine lv_iconst (v := 0) hx hb dX8_ones_0 zk_iconst_0 ?_
  refine lv_istore_n (lv' := [(1, .int 0), (0, .int a1)]) hx hb dX8_ones_1 rfl hl (by decide) rfl (fun ls hl => ?_)
  refine lv_iconst (v := 0) hx hb dX8_ones_2 zk_iconst_0 ?_
  refine lv_istore_n (lv' := [(2, .int 0), (1, .int 0), (0, .int a1)]) hx hb dX8_ones_3 rfl hl (by decide) rfl (fun ls hl => ?_)
  have J4 : ∀ (n : Nat) (j4l2 : Int32) (j4l1 : Int32) (H : Heap) (locs : List Loc) (ls : Array Slot), (10 : Int) - j4l2.toInt ≤ (n : Int) → (0 : Int) ≤ j4l2.toInt → j4l2.toInt ≤ (9 : Int) → va_P (dC, dI) vwCl [] H → va_D A [] → va_S A s.heap H locs → lv_has ls 3 [(0, .int a1), (1, .int j4l1), (2, .int j4l2)] → K H locs (F0 m 4 ls []) := by
    intro n
    induction n with
    | zero =>
      intro j4l2 j4l1 H locs ls hm bj4l2_l bj4l2_u hP hD hS hl
      first | exact zg_0 hm bj4l2_u (by decide) | (have h8 := ai_min j4l2; have h9 := ai_max j4l2; exact absurd hm (by omega))
    | succ n ih4 =>
      intro j4l2 j4l1 H locs ls hm bj4l2_l bj4l2_u hP hD hS hl
      refine (hK0 _ _ _).mpr ?_
      have hm4 := hm
      refine lv_iload_n hx hb dX8_ones_4 rfl (lv_at hl 2 rfl) ?_
      refine lv_bipush (v := 9) hx hb dX8_ones_5 zk_bipush_9 ?_
      refine lv_icmp_ge (tgt := 24) hx hb dX8_ones_7 (by decide) (fun c7 => ?_) (fun c7 => ?_)
      · have gc7 := ai_le c7
        have l7t_j4l2 : (9 : Int) ≤ j4l2.toInt := Int.le_trans zq2 gc7
        refine lv_iload_n hx hb dX8_ones_24 rfl (lv_at hl 1 rfl) ?_
        exact W.iret (v := j4l1) hx hb hr (fun t ht hW => ⟨⟨j4l1, (), rfl, trivial, by rw [ht]; exact hP, va_K.moved hW.alike hK, hD⟩, hS.F ht⟩) hS.2.2 dX8_ones_25
      · have gc7 := ai_nle c7
        have u7f_j4l2 : j4l2.toInt ≤ (8 : Int) := ai_lthi gc7 zq3
        refine lv_iload_n hx hb dX8_ones_10 rfl (lv_at hl 1 rfl) ?_
        refine lv_iload_n hx hb dX8_ones_11 rfl (lv_at hl 0 rfl) ?_
        refine lv_iload_n hx hb dX8_ones_12 rfl (lv_at hl 2 rfl) ?_
        refine lv_ishr hx hb dX8_ones_13 ?_
        refine lv_topi (fun x13 ex13 => ?_)
        refine lv_iconst (v := 1) hx hb dX8_ones_14 zk_iconst_1 ?_
        refine lv_iand hx hb dX8_ones_15 ?_
        refine lv_topi (fun x15 ex15 => ?_)
        refine lv_iadd hx hb dX8_ones_16 ?_
        refine lv_topi (fun x16 ex16 => ?_)
        refine lv_istore_n (lv' := [(1, .int x16), (0, .int a1), (2, .int j4l2)]) hx hb dX8_ones_17 rfl hl (by decide) rfl (fun ls hl => ?_)
        obtain ⟨x18, ex18⟩ : ∃ y : Int32, y = j4l2 + Int32.ofInt 1 := ⟨_, rfl⟩
        have qx18 : x18.toInt = j4l2.toInt + 1 := ai_inc ex18 (by decide) (by decide) u7f_j4l2 (by decide)
        have bx18 : (1 : Int) ≤ x18.toInt ∧ x18.toInt ≤ 9 := ⟨by rw [qx18]; exact Int.add_le_add bj4l2_l (Int.le_refl _), by rw [qx18]; exact Int.add_le_add u7f_j4l2 (Int.le_refl _)⟩
        refine lv_iinc (v := x18) (lv' := [(2, .int x18), (1, .int x16), (0, .int a1)]) hx hb dX8_ones_18 hl (k := 2) rfl ex18.symm (by decide) rfl (fun ls hl => ?_)
        refine lv_goto (tgt := 4) hx hb dX8_ones_21 (by decide) ?_
        exact (hK0 _ _ _).mp (ih4 x18 x16 _ _ _ (by first | exact zg_s hm4 qx18 | (have h0 := qx18; omega)) (Int.le_trans zq4 bx18.1) bx18.2 hP hD hS (lv_sub hl [2, 1, 0] rfl))
  exact (hK0 _ _ _).mp (J4 10 0 0 _ _ _ (by first | decide +kernel | (have h1 : (0 : Int) ≤ (0 : Int32).toInt := zq5; have h2 : (0 : Int32).toInt ≤ (0 : Int) := zq6; omega)) zq5 (Int.le_trans zq6 zq7) hP hD hS (lv_sub hl [2, 1, 0] rfl))

set_option maxHeartbeats 4000000 in
set_option maxRecDepth 100000 in
theorem c_X8_isFigure (l : Launch) (dC : Nat → ClassId) (dI : Nat → Nat → Nat) (sz : Nat) (a0 : Nat) (a1 : Int32) (a0g_0 a0g_1 a0g_2 a0g_3 a0g_4 a0g_5 a0g_6 a0g_7 a0g_8 a0g_9 a0g_10 a0g_11 a0g_12 a0g_13 a0g_16 a0g_17 a0g_18 a0g_19 a0g_20 a0g_21 a0g_22 a0g_23 a0g_24 a0g_25 a0g_26 a0g_27 a0g_28 a0g_29 a0g_30 a0g_31 a0g_32 a0g_33 a0g_34 a0g_35 a0g_36 a0g_37 a0g_38 a0g_39 : Value) (a0_14 : Int32) (a0_15 : Nat) (ka0_15 : ClassId) (fa0_15 : Nat → Int32) (ba0_14_l : (1 : Int) ≤ a0_14.toInt) (ba0_14_u : a0_14.toInt ≤ (1 : Int)) (bfa0_15 : ((∀ k : Nat, 0 ≤ k → k ≤ 0 → (2 : Int) ≤ (fa0_15 k).toInt ∧ (fa0_15 k).toInt ≤ 9) ∧ (∀ k : Nat, 1 ≤ k → k ≤ 1 → (1 : Int) ≤ (fa0_15 k).toInt ∧ (fa0_15 k).toInt ≤ 20) ∧ (∀ k : Nat, 2 ≤ k → k ≤ 2 → (0 : Int) ≤ (fa0_15 k).toInt ∧ (fa0_15 k).toInt ≤ 8) ∧ (∀ k : Nat, 3 ≤ k → k ≤ 3 → (0 : Int) ≤ (fa0_15 k).toInt ∧ (fa0_15 k).toInt ≤ 100) ∧ (∀ k : Nat, 4 ≤ k → k ≤ 4 → (0 : Int) ≤ (fa0_15 k).toInt ∧ (fa0_15 k).toInt ≤ 9) ∧ (∀ k : Nat, 5 ≤ k → k ≤ 5 → (0 : Int) ≤ (fa0_15 k).toInt ∧ (fa0_15 k).toInt ≤ 3) ∧ (∀ k : Nat, 6 ≤ k → k ≤ 6 → (0 : Int) ≤ (fa0_15 k).toInt ∧ (fa0_15 k).toInt ≤ 6) ∧ (∀ k : Nat, 7 ≤ k → k ≤ 9 → (0 : Int) ≤ (fa0_15 k).toInt ∧ (fa0_15 k).toInt ≤ 8) ∧ (∀ k : Nat, 12 ≤ k → k ≤ 29 → (0 : Int) ≤ (fa0_15 k).toInt ∧ (fa0_15 k).toInt ≤ 20) ∧ (∀ k : Nat, 30 ≤ k → k ≤ 35 → (0 : Int) ≤ (fa0_15 k).toInt ∧ (fa0_15 k).toInt ≤ 8) ∧ (∀ k : Nat, 36 ≤ k → k ≤ 47 → (0 : Int) ≤ (fa0_15 k).toInt ∧ (fa0_15 k).toInt ≤ 999))) : zm l yX8_isFigure wsX8_isFigure ({ frames := 1, cells := 0, slots := 0, locals := 22 }) [.ref a0, .int a1] dC dI sz [(a0, .inr (8, [a0g_0, a0g_1, a0g_2, a0g_3, a0g_4, a0g_5, a0g_6, a0g_7, a0g_8, a0g_9, a0g_10, a0g_11, a0g_12, a0g_13, Value.int a0_14, Value.ref a0_15, a0g_16, a0g_17, a0g_18, a0g_19, a0g_20, a0g_21, a0g_22, a0g_23, a0g_24, a0g_25, a0g_26, a0g_27, a0g_28, a0g_29, a0g_30, a0g_31, a0g_32, a0g_33, a0g_34, a0g_35, a0g_36, a0g_37, a0g_38, a0g_39])), (a0_15, .inl (ka0_15, 156, .inl (fa0_15)))] [(ka0_15, .int)] (fun A _ => True) (fun A => va_Qi (fun (r : Int32) (_ : Unit) => (r = 1 ∧ (0 : Int) ≤ a1.toInt ∧ a1.toInt ≤ (8 : Int)) ∨ (r = 0)) (fun (_ : Unit) (t : State) => ax_B dC dI A [(a0, .inr (8, [a0g_0, a0g_1, a0g_2, a0g_3, a0g_4, a0g_5, a0g_6, a0g_7, a0g_8, a0g_9, a0g_10, a0g_11, a0g_12, a0g_13, Value.int a0_14, Value.ref a0_15, a0g_16, a0g_17, a0g_18, a0g_19, a0g_20, a0g_21, a0g_22, a0g_23, a0g_24, a0g_25, a0g_26, a0g_27, a0g_28, a0g_29, a0g_30, a0g_31, a0g_32, a0g_33, a0g_34, a0g_35, a0g_36, a0g_37, a0g_38, a0g_39])), (a0_15, .inl (ka0_15, 156, .inl (fa0_15)))] [(ka0_15, .int)] t) A) := by
  refine zh (cc := cX8_isFigure) (maxL := 2) (ret := (some .boolean)) zn_RX8 rfl (Nat.le_of_ble_eq_true rfl) (fun p e s m below meth c A ls hx hb hml hr hts (hown : s.vm.findClass RX8 = some m.cls) hlocks hA hS hP hK hD hE (hl : lv_has ls 2 [(0, .ref a0), (1, .int a1)]) => ?_)
  refine lv_aload_n hx hb dX8_isFigure_0 rfl (lv_at hl 0 rfl) ?_
  refine va_get (D := (dC, dI)) (ci := 8) (v := .int a0_14) (C := RX8) (T := TX8) (N := 40) hx hb hts zi_X8_isFigure_8 hown hK hP 0 rfl rfl 14 (by decide) (hts (.fieldLink RX8 173 "WaxTurnsModel" "hasGallery" "Z") (List.mem_cons_of_mem _ (List.mem_append_left _ (List.mem_of_getElem? (i := 0) rfl)))) (fun _ h9 => h9) rfl dX8_isFigure_1 ?_
  refine lv_if_eq (tgt := 27) hx hb dX8_isFigure_4 (by decide) (fun c4 => ?_) (fun c4 => ?_)
  · have gc4 := ai_eq c4
    have u4t_a0_14 : a0_14.toInt ≤ (0 : Int) := Int.le_trans (Int.le_of_eq gc4) zq6
    have l4t_a0_14 : (1 : Int) ≤ a0_14.toInt := ba0_14_l
    exact absurd (Int.le_trans l4t_a0_14 u4t_a0_14) (by decide)
  · have gc4 := ai_ne c4
    refine lv_iload_n hx hb dX8_isFigure_7 rfl (lv_at hl 1 rfl) ?_
    refine lv_iconst (v := 0) hx hb dX8_isFigure_8 zk_iconst_0 ?_
    refine lv_aload_n hx hb dX8_isFigure_9 rfl (lv_at hl 0 rfl) ?_
    refine va_get (D := (dC, dI)) (ci := 8) (v := .ref a0_15) (C := RX8) (T := TX8) (N := 40) hx hb hts zi_X8_isFigure_8 hown hK hP 0 rfl rfl 15 (by decide) (hts (.fieldLink RX8 20 "WaxTurnsModel" "\x72" "[I") (List.mem_cons_of_mem _ (List.mem_append_left _ (List.mem_of_getElem? (i := 1) rfl)))) (fun _ h9 => h9) rfl dX8_isFigure_10 ?_
    refine lv_iconst (v := 0) hx hb dX8_isFigure_13 zk_iconst_0 ?_
    refine va_iald hx hb hK hP 1 0 rfl rfl (by unfold vp_in; decide +kernel) dX8_isFigure_14 ?_
    refine lv_topi (fun x14 ex14 => ?_)
    have bx14 : (2 : Int) ≤ x14.toInt ∧ x14.toInt ≤ 9 := by rw [ex14]; exact ai_rd bfa0_15.1 zq5 zq6 (by decide) (by decide) (by decide)
    refine lv_iconst (v := 1) hx hb dX8_isFigure_15 zk_iconst_1 ?_
    refine lv_isub hx hb dX8_isFigure_16 ?_
    refine lv_topi (fun x16 ex16 => ?_)
    have qx16 : x16.toInt = x14.toInt - (1 : Int32).toInt := ai_sub ex16 ⟨bx14.1, bx14.2⟩ ⟨zq1, zq0⟩ (by decide) (by decide)
    have bx16 : (1 : Int) ≤ x16.toInt ∧ x16.toInt ≤ 8 := ⟨by rw [qx16]; exact Int.sub_le_sub bx14.1 zq0, by rw [qx16]; exact Int.sub_le_sub bx14.2 zq1⟩
    have wx16 : x16.toInt = x14.toInt - 1 := qx16
    refine va_calli (va_runS (As := [.int a1, .int 0, .int x16]) (rest := []) ⟨hx, hb, hml, hown, hts⟩ (c_X8_in l dC dI s.heap.size a1 0 x16 ) (va_cwS 3 hts gX8_isFigure_X8_in rfl rfl rfl zd_X8_in.2 ⟨Nat.le_of_ble_eq_true rfl, Nat.le_of_ble_eq_true rfl⟩) ⟨ax_blind (fun _ _ _ _ _ => trivial), ax_pre (zp_P0 hP) (zp_K hK) (zp_D0 hD) (fun _ _ => trivial)⟩ rfl rfl hl.1 rfl (lv_room (Nat.le_of_ble_eq_true rfl)) dX8_isFigure_17 ⟨Nat.le_of_ble_eq_true rfl, Nat.le_of_ble_eq_true rfl⟩) hS (fun q _ h => zp_F0 hD hS hA q h) (zp_F0 hD hS hA) (fun r17 u t H locs ht hvm hw hB hz1 hk1 hS1 => zo0 hB ht hP hD hk1 (zp_F0 hD hS hA) hS1 (fun hP hK1 hD hS => ?_))
    rcases hw with hw | hw
    · obtain ⟨hw, h17⟩ := hw
      subst hw
      have l17k0_a1 : (0 : Int) ≤ a1.toInt := Int.le_trans zq5 h17.1
      have u17k0_a1 : a1.toInt ≤ (8 : Int) := Int.le_trans h17.2 bx16.2
      have l17k0_x16 : (1 : Int) ≤ x16.toInt := bx16.1
      refine lv_if_eq (tgt := 27) hx hb dX8_isFigure_20 (by decide) (fun c20 => absurd c20 (by decide +kernel)) (fun _ => ?_)
      refine lv_iconst (v := 1) hx hb dX8_isFigure_23 zk_iconst_1 ?_
      refine lv_goto (tgt := 28) hx hb dX8_isFigure_24 (by decide) ?_
      exact W.zret (v := 1) hx hb hr rfl (fun t ht hW => ⟨⟨1, (), rfl, (Or.inl ⟨rfl, l17k0_a1, u17k0_a1⟩), by rw [ht]; exact hP, va_K.moved hW.alike hK, hD⟩, hS.F ht⟩) hS.2.2 dX8_isFigure_28
    · obtain ⟨hw, h17⟩ := hw
      subst hw
      refine lv_if_eq (tgt := 27) hx hb dX8_isFigure_20 (by decide) (fun _ => ?_) (fun c20 => absurd (by decide +kernel) c20)
      refine lv_iconst (v := 0) hx hb dX8_isFigure_27 zk_iconst_0 ?_
      exact W.zret (v := 0) hx hb hr rfl (fun t ht hW => ⟨⟨0, (), rfl, (Or.inr (rfl)), by rw [ht]; exact hP, va_K.moved hW.alike hK, hD⟩, hS.F ht⟩) hS.2.2 dX8_isFigure_28

set_option maxHeartbeats 4000000 in
set_option maxRecDepth 100000 in
theorem c_X8_isWatcher (l : Launch) (dC : Nat → ClassId) (dI : Nat → Nat → Nat) (sz : Nat) (a0 : Nat) (a1 : Int32) (a0g_0 a0g_1 a0g_2 a0g_3 a0g_4 a0g_5 a0g_6 a0g_7 a0g_8 a0g_9 a0g_10 a0g_11 a0g_12 a0g_13 a0g_16 a0g_17 a0g_18 a0g_19 a0g_20 a0g_21 a0g_22 a0g_23 a0g_24 a0g_25 a0g_26 a0g_27 a0g_28 a0g_29 a0g_30 a0g_31 a0g_32 a0g_33 a0g_34 a0g_35 a0g_36 a0g_37 a0g_38 a0g_39 : Value) (a0_14 : Int32) (a0_15 : Nat) (ka0_15 : ClassId) (fa0_15 : Nat → Int32) (ba0_14_l : (1 : Int) ≤ a0_14.toInt) (ba0_14_u : a0_14.toInt ≤ (1 : Int)) (bfa0_15 : ((∀ k : Nat, 0 ≤ k → k ≤ 0 → (2 : Int) ≤ (fa0_15 k).toInt ∧ (fa0_15 k).toInt ≤ 9) ∧ (∀ k : Nat, 1 ≤ k → k ≤ 1 → (1 : Int) ≤ (fa0_15 k).toInt ∧ (fa0_15 k).toInt ≤ 20) ∧ (∀ k : Nat, 2 ≤ k → k ≤ 2 → (0 : Int) ≤ (fa0_15 k).toInt ∧ (fa0_15 k).toInt ≤ 8) ∧ (∀ k : Nat, 3 ≤ k → k ≤ 3 → (0 : Int) ≤ (fa0_15 k).toInt ∧ (fa0_15 k).toInt ≤ 100) ∧ (∀ k : Nat, 4 ≤ k → k ≤ 4 → (0 : Int) ≤ (fa0_15 k).toInt ∧ (fa0_15 k).toInt ≤ 9) ∧ (∀ k : Nat, 5 ≤ k → k ≤ 5 → (0 : Int) ≤ (fa0_15 k).toInt ∧ (fa0_15 k).toInt ≤ 3) ∧ (∀ k : Nat, 6 ≤ k → k ≤ 6 → (0 : Int) ≤ (fa0_15 k).toInt ∧ (fa0_15 k).toInt ≤ 6) ∧ (∀ k : Nat, 7 ≤ k → k ≤ 9 → (0 : Int) ≤ (fa0_15 k).toInt ∧ (fa0_15 k).toInt ≤ 8) ∧ (∀ k : Nat, 12 ≤ k → k ≤ 29 → (0 : Int) ≤ (fa0_15 k).toInt ∧ (fa0_15 k).toInt ≤ 20) ∧ (∀ k : Nat, 30 ≤ k → k ≤ 35 → (0 : Int) ≤ (fa0_15 k).toInt ∧ (fa0_15 k).toInt ≤ 8) ∧ (∀ k : Nat, 36 ≤ k → k ≤ 47 → (0 : Int) ≤ (fa0_15 k).toInt ∧ (fa0_15 k).toInt ≤ 999))) : zm l yX8_isWatcher wsX8_isWatcher ({ frames := 1, cells := 0, slots := 0, locals := 22 }) [.ref a0, .int a1] dC dI sz [(a0, .inr (8, [a0g_0, a0g_1, a0g_2, a0g_3, a0g_4, a0g_5, a0g_6, a0g_7, a0g_8, a0g_9, a0g_10, a0g_11, a0g_12, a0g_13, Value.int a0_14, Value.ref a0_15, a0g_16, a0g_17, a0g_18, a0g_19, a0g_20, a0g_21, a0g_22, a0g_23, a0g_24, a0g_25, a0g_26, a0g_27, a0g_28, a0g_29, a0g_30, a0g_31, a0g_32, a0g_33, a0g_34, a0g_35, a0g_36, a0g_37, a0g_38, a0g_39])), (a0_15, .inl (ka0_15, 156, .inl (fa0_15)))] [(ka0_15, .int)] (fun A _ => True) (fun A => va_Qi (fun (r : Int32) (_ : Unit) => (r = 1 ∧ (0 : Int) ≤ a1.toInt ∧ a1.toInt ≤ (2 : Int)) ∨ (r = 0)) (fun (_ : Unit) (t : State) => ax_B dC dI A [(a0, .inr (8, [a0g_0, a0g_1, a0g_2, a0g_3, a0g_4, a0g_5, a0g_6, a0g_7, a0g_8, a0g_9, a0g_10, a0g_11, a0g_12, a0g_13, Value.int a0_14, Value.ref a0_15, a0g_16, a0g_17, a0g_18, a0g_19, a0g_20, a0g_21, a0g_22, a0g_23, a0g_24, a0g_25, a0g_26, a0g_27, a0g_28, a0g_29, a0g_30, a0g_31, a0g_32, a0g_33, a0g_34, a0g_35, a0g_36, a0g_37, a0g_38, a0g_39])), (a0_15, .inl (ka0_15, 156, .inl (fa0_15)))] [(ka0_15, .int)] t) A) := by
  refine zh (cc := cX8_isWatcher) (maxL := 2) (ret := (some .boolean)) zn_RX8 rfl (Nat.le_of_ble_eq_true rfl) (fun p e s m below meth c A ls hx hb hml hr hts (hown : s.vm.findClass RX8 = some m.cls) hlocks hA hS hP hK hD hE (hl : lv_has ls 2 [(0, .ref a0), (1, .int a1)]) => ?_)
  refine lv_aload_n hx hb dX8_isWatcher_0 rfl (lv_at hl 0 rfl) ?_
  refine va_get (D := (dC, dI)) (ci := 8) (v := .int a0_14) (C := RX8) (T := TX8) (N := 40) hx hb hts zi_X8_isWatcher_8 hown hK hP 0 rfl rfl 14 (by decide) (hts (.fieldLink RX8 173 "WaxTurnsModel" "hasGallery" "Z") (List.mem_cons_of_mem _ (List.mem_append_left _ (List.mem_of_getElem? (i := 0) rfl)))) (fun _ h9 => h9) rfl dX8_isWatcher_1 ?_
  refine lv_if_eq (tgt := 27) hx hb dX8_isWatcher_4 (by decide) (fun c4 => ?_) (fun c4 => ?_)
  · have gc4 := ai_eq c4
    have u4t_a0_14 : a0_14.toInt ≤ (0 : Int) := Int.le_trans (Int.le_of_eq gc4) zq6
    have l4t_a0_14 : (1 : Int) ≤ a0_14.toInt := ba0_14_l
    exact absurd (Int.le_trans l4t_a0_14 u4t_a0_14) (by decide)
  · have gc4 := ai_ne c4
    refine lv_iload_n hx hb dX8_isWatcher_7 rfl (lv_at hl 1 rfl) ?_
    refine lv_iconst (v := 0) hx hb dX8_isWatcher_8 zk_iconst_0 ?_
    refine lv_aload_n hx hb dX8_isWatcher_9 rfl (lv_at hl 0 rfl) ?_
    refine va_get (D := (dC, dI)) (ci := 8) (v := .ref a0_15) (C := RX8) (T := TX8) (N := 40) hx hb hts zi_X8_isWatcher_8 hown hK hP 0 rfl rfl 15 (by decide) (hts (.fieldLink RX8 20 "WaxTurnsModel" "\x72" "[I") (List.mem_cons_of_mem _ (List.mem_append_left _ (List.mem_of_getElem? (i := 1) rfl)))) (fun _ h9 => h9) rfl dX8_isWatcher_10 ?_
    refine lv_iconst (v := 5) hx hb dX8_isWatcher_13 zk_iconst_5 ?_
    refine va_iald hx hb hK hP 1 0 rfl rfl (by unfold vp_in; decide +kernel) dX8_isWatcher_14 ?_
    refine lv_topi (fun x14 ex14 => ?_)
    have bx14 : (0 : Int) ≤ x14.toInt ∧ x14.toInt ≤ 3 := by rw [ex14]; exact ai_rd bfa0_15.2.2.2.2.2.1 zq112 zq113 (by decide) (by decide) (by decide)
    refine lv_iconst (v := 1) hx hb dX8_isWatcher_15 zk_iconst_1 ?_
    refine lv_isub hx hb dX8_isWatcher_16 ?_
    refine lv_topi (fun x16 ex16 => ?_)
    have qx16 : x16.toInt = x14.toInt - (1 : Int32).toInt := ai_sub ex16 ⟨bx14.1, bx14.2⟩ ⟨zq1, zq0⟩ (by decide) (by decide)
    have bx16 : (-1 : Int) ≤ x16.toInt ∧ x16.toInt ≤ 2 := ⟨by rw [qx16]; exact Int.sub_le_sub bx14.1 zq0, by rw [qx16]; exact Int.sub_le_sub bx14.2 zq1⟩
    have wx16 : x16.toInt = x14.toInt - 1 := qx16
    refine va_calli (va_runS (As := [.int a1, .int 0, .int x16]) (rest := []) ⟨hx, hb, hml, hown, hts⟩ (c_X8_in l dC dI s.heap.size a1 0 x16 ) (va_cwS 3 hts gX8_isWatcher_X8_in rfl rfl rfl zd_X8_in.2 ⟨Nat.le_of_ble_eq_true rfl, Nat.le_of_ble_eq_true rfl⟩) ⟨ax_blind (fun _ _ _ _ _ => trivial), ax_pre (zp_P0 hP) (zp_K hK) (zp_D0 hD) (fun _ _ => trivial)⟩ rfl rfl hl.1 rfl (lv_room (Nat.le_of_ble_eq_true rfl)) dX8_isWatcher_17 ⟨Nat.le_of_ble_eq_true rfl, Nat.le_of_ble_eq_true rfl⟩) hS (fun q _ h => zp_F0 hD hS hA q h) (zp_F0 hD hS hA) (fun r17 u t H locs ht hvm hw hB hz1 hk1 hS1 => zo0 hB ht hP hD hk1 (zp_F0 hD hS hA) hS1 (fun hP hK1 hD hS => ?_))
    rcases hw with hw | hw
    · obtain ⟨hw, h17⟩ := hw
      subst hw
      have l17k0_a1 : (0 : Int) ≤ a1.toInt := Int.le_trans zq5 h17.1
      have u17k0_a1 : a1.toInt ≤ (2 : Int) := Int.le_trans h17.2 bx16.2
      have l17k0_x16 : (0 : Int) ≤ x16.toInt := Int.le_trans zq5 (Int.le_trans h17.1 h17.2)
      have l17k0_x14 : (1 : Int) ≤ x14.toInt := by have h1 := wx16; have h2 := l17k0_x16; omega
      refine lv_if_eq (tgt := 27) hx hb dX8_isWatcher_20 (by decide) (fun c20 => absurd c20 (by decide +kernel)) (fun _ => ?_)
      refine lv_iconst (v := 1) hx hb dX8_isWatcher_23 zk_iconst_1 ?_
      refine lv_goto (tgt := 28) hx hb dX8_isWatcher_24 (by decide) ?_
      exact W.zret (v := 1) hx hb hr rfl (fun t ht hW => ⟨⟨1, (), rfl, (Or.inl ⟨rfl, l17k0_a1, u17k0_a1⟩), by rw [ht]; exact hP, va_K.moved hW.alike hK, hD⟩, hS.F ht⟩) hS.2.2 dX8_isWatcher_28
    · obtain ⟨hw, h17⟩ := hw
      subst hw
      refine lv_if_eq (tgt := 27) hx hb dX8_isWatcher_20 (by decide) (fun _ => ?_) (fun c20 => absurd (by decide +kernel) c20)
      refine lv_iconst (v := 0) hx hb dX8_isWatcher_27 zk_iconst_0 ?_
      exact W.zret (v := 0) hx hb hr rfl (fun t ht hW => ⟨⟨0, (), rfl, (Or.inr (rfl)), by rw [ht]; exact hP, va_K.moved hW.alike hK, hD⟩, hS.F ht⟩) hS.2.2 dX8_isWatcher_28

set_option maxHeartbeats 4000000 in
set_option maxRecDepth 100000 in
theorem c_X8_watchAsTold (l : Launch) (dC : Nat → ClassId) (dI : Nat → Nat → Nat) (sz : Nat) (a0 : Nat) (a0g_0 a0g_1 a0g_2 a0g_3 a0g_4 a0g_5 a0g_6 a0g_7 a0g_8 a0g_9 a0g_10 a0g_11 a0g_12 a0g_13 a0g_14 a0g_16 a0g_17 a0g_18 a0g_19 a0g_20 a0g_21 a0g_22 a0g_26 a0g_27 a0g_28 a0g_29 a0g_30 a0g_31 a0g_32 a0g_33 a0g_34 a0g_35 a0g_36 a0g_37 a0g_38 a0g_39 : Value) (a0_15 : Nat) (a0_23 : Nat) (a0_24 : Nat) (a0_25 : Int32) (ka0_15 : ClassId) (fa0_15 : Nat → Int32) (ka0_23 : ClassId) (fa0_23 : Nat → Int32) (ka0_24 : ClassId) (fa0_24 : Nat → Int32) (bfa0_15 : ((∀ k : Nat, 0 ≤ k → k ≤ 0 → (2 : Int) ≤ (fa0_15 k).toInt ∧ (fa0_15 k).toInt ≤ 9) ∧ (∀ k : Nat, 1 ≤ k → k ≤ 1 → (1 : Int) ≤ (fa0_15 k).toInt ∧ (fa0_15 k).toInt ≤ 20) ∧ (∀ k : Nat, 2 ≤ k → k ≤ 2 → (0 : Int) ≤ (fa0_15 k).toInt ∧ (fa0_15 k).toInt ≤ 8) ∧ (∀ k : Nat, 3 ≤ k → k ≤ 3 → (0 : Int) ≤ (fa0_15 k).toInt ∧ (fa0_15 k).toInt ≤ 100) ∧ (∀ k : Nat, 4 ≤ k → k ≤ 4 → (0 : Int) ≤ (fa0_15 k).toInt ∧ (fa0_15 k).toInt ≤ 9) ∧ (∀ k : Nat, 5 ≤ k → k ≤ 5 → (0 : Int) ≤ (fa0_15 k).toInt ∧ (fa0_15 k).toInt ≤ 3) ∧ (∀ k : Nat, 6 ≤ k → k ≤ 6 → (0 : Int) ≤ (fa0_15 k).toInt ∧ (fa0_15 k).toInt ≤ 6) ∧ (∀ k : Nat, 7 ≤ k → k ≤ 9 → (0 : Int) ≤ (fa0_15 k).toInt ∧ (fa0_15 k).toInt ≤ 8) ∧ (∀ k : Nat, 12 ≤ k → k ≤ 29 → (0 : Int) ≤ (fa0_15 k).toInt ∧ (fa0_15 k).toInt ≤ 20) ∧ (∀ k : Nat, 30 ≤ k → k ≤ 35 → (0 : Int) ≤ (fa0_15 k).toInt ∧ (fa0_15 k).toInt ≤ 8) ∧ (∀ k : Nat, 36 ≤ k → k ≤ 47 → (0 : Int) ≤ (fa0_15 k).toInt ∧ (fa0_15 k).toInt ≤ 999))) (bfa0_23 : (∀ k, (0 : Int) ≤ (fa0_23 k).toInt ∧ (fa0_23 k).toInt ≤ 80)) (bfa0_24 : (∀ k, (0 : Int) ≤ (fa0_24 k).toInt ∧ (fa0_24 k).toInt ≤ 80)) : zm l yX8_watchAsTold wsX8_watchAsTold ({ frames := 0, cells := 0, slots := 0, locals := 0 }) [.ref a0] dC dI sz [(a0, .inr (8, [a0g_0, a0g_1, a0g_2, a0g_3, a0g_4, a0g_5, a0g_6, a0g_7, a0g_8, a0g_9, a0g_10, a0g_11, a0g_12, a0g_13, a0g_14, Value.ref a0_15, a0g_16, a0g_17, a0g_18, a0g_19, a0g_20, a0g_21, a0g_22, Value.ref a0_23, Value.ref a0_24, Value.int a0_25, a0g_26, a0g_27, a0g_28, a0g_29, a0g_30, a0g_31, a0g_32, a0g_33, a0g_34, a0g_35, a0g_36, a0g_37, a0g_38, a0g_39])), (a0_15, .inl (ka0_15, 156, .inl (fa0_15))), (a0_23, .inl (ka0_23, 3, .inl (fa0_23))), (a0_24, .inl (ka0_24, 3, .inl (fa0_24)))] [(ka0_15, .int), (ka0_23, .int), (ka0_24, .int)] (fun A _ => True) (fun A => va_Qv (fun (_ : Unit) => True) (fun (_ : Unit) (t : State) => ∃ na0_25 : Int32, ∃ nfa0_23 : Nat → Int32, ∃ nfa0_24 : Nat → Int32, (∀ k, (0 : Int) ≤ (nfa0_23 k).toInt ∧ (nfa0_23 k).toInt ≤ 80) ∧ (∀ k, (0 : Int) ≤ (nfa0_24 k).toInt ∧ (nfa0_24 k).toInt ≤ 80) ∧ ax_B dC dI A [(a0, .inr (8, [a0g_0, a0g_1, a0g_2, a0g_3, a0g_4, a0g_5, a0g_6, a0g_7, a0g_8, a0g_9, a0g_10, a0g_11, a0g_12, a0g_13, a0g_14, Value.ref a0_15, a0g_16, a0g_17, a0g_18, a0g_19, a0g_20, a0g_21, a0g_22, Value.ref a0_23, Value.ref a0_24, Value.int na0_25, a0g_26, a0g_27, a0g_28, a0g_29, a0g_30, a0g_31, a0g_32, a0g_33, a0g_34, a0g_35, a0g_36, a0g_37, a0g_38, a0g_39])), (a0_15, .inl (ka0_15, 156, .inl (fa0_15))), (a0_23, .inl (ka0_23, 3, .inl (nfa0_23))), (a0_24, .inl (ka0_24, 3, .inl (nfa0_24)))] [(ka0_15, .int), (ka0_23, .int), (ka0_24, .int)] t) A) := by
  refine zh (cc := cX8_watchAsTold) (maxL := 2) (ret := none) zn_RX8 rfl (Nat.le_of_ble_eq_true rfl) (fun p e s m below meth c A ls hx hb hml hr hts (hown : s.vm.findClass RX8 = some m.cls) hlocks hA hS hP hK hD hE (hl : lv_has ls 2 [(0, .ref a0)]) => ?_)
  refine ai_open (fun K hK0 => ?_)
  refine (hK0 _ _ _).mpr ?_
  refine lv_iconst (v := 0) hx hb dX8_watchAsTold_0 zk_iconst_0 ?_
  refine lv_istore_n (lv' := [(1, .int 0), (0, .ref a0)]) hx hb dX8_watchAsTold_1 rfl hl (by decide) rfl (fun ls hl => ?_)
  have J2 : ∀ (n : Nat) (j2l1 : Int32) (j2a0_23_a : Nat → Int32) (j2a0_24_a : Nat → Int32) (H : Heap) (locs : List Loc) (ls : Array Slot), (4 : Int) - j2l1.toInt ≤ (n : Int) → (0 : Int) ≤ j2l1.toInt → j2l1.toInt ≤ (3 : Int) → (∀ k, (0 : Int) ≤ (j2a0_23_a k).toInt ∧ (j2a0_23_a k).toInt ≤ 80) → (∀ k, (0 : Int) ≤ (j2a0_24_a k).toInt ∧ (j2a0_24_a k).toInt ≤ 80) → va_P (dC, dI) vwCl [(a0, .inr (8, [a0g_0, a0g_1, a0g_2, a0g_3, a0g_4, a0g_5, a0g_6, a0g_7, a0g_8, a0g_9, a0g_10, a0g_11, a0g_12, a0g_13, a0g_14, Value.ref a0_15, a0g_16, a0g_17, a0g_18, a0g_19, a0g_20, a0g_21, a0g_22, Value.ref a0_23, Value.ref a0_24, Value.int a0_25, a0g_26, a0g_27, a0g_28, a0g_29, a0g_30, a0g_31, a0g_32, a0g_33, a0g_34, a0g_35, a0g_36, a0g_37, a0g_38, a0g_39])), (a0_15, .inl (ka0_15, 156, .inl (fa0_15))), (a0_23, .inl (ka0_23, 3, .inl (j2a0_23_a))), (a0_24, .inl (ka0_24, 3, .inl (j2a0_24_a)))] H → va_D A [(a0, .inr (8, [a0g_0, a0g_1, a0g_2, a0g_3, a0g_4, a0g_5, a0g_6, a0g_7, a0g_8, a0g_9, a0g_10, a0g_11, a0g_12, a0g_13, a0g_14, Value.ref a0_15, a0g_16, a0g_17, a0g_18, a0g_19, a0g_20, a0g_21, a0g_22, Value.ref a0_23, Value.ref a0_24, Value.int a0_25, a0g_26, a0g_27, a0g_28, a0g_29, a0g_30, a0g_31, a0g_32, a0g_33, a0g_34, a0g_35, a0g_36, a0g_37, a0g_38, a0g_39])), (a0_15, .inl (ka0_15, 156, .inl (fa0_15))), (a0_23, .inl (ka0_23, 3, .inl (j2a0_23_a))), (a0_24, .inl (ka0_24, 3, .inl (j2a0_24_a)))] → va_S A s.heap H locs → lv_has ls 2 [(0, .ref a0), (1, .int j2l1)] → K H locs (F0 m 2 ls []) := by
    intro n
    induction n with
    | zero =>
      intro j2l1 j2a0_23_a j2a0_24_a H locs ls hm bj2l1_l bj2l1_u bj2a0_23_a bj2a0_24_a hP hD hS hl
      first | exact zg_0 hm bj2l1_u (by decide) | (have h8 := ai_min j2l1; have h9 := ai_max j2l1; exact absurd hm (by omega))
    | succ n ih2 =>
      intro j2l1 j2a0_23_a j2a0_24_a H locs ls hm bj2l1_l bj2l1_u bj2a0_23_a bj2a0_24_a hP hD hS hl
      refine (hK0 _ _ _).mpr ?_
      have hm2 := hm
      refine lv_iload_n hx hb dX8_watchAsTold_2 rfl (lv_at hl 1 rfl) ?_
      refine lv_aload_n hx hb dX8_watchAsTold_3 rfl (lv_at hl 0 rfl) ?_
      refine va_get (D := (dC, dI)) (ci := 8) (v := .ref a0_15) (C := RX8) (T := TX8) (N := 40) hx hb hts zi_X8_watchAsTold_8 hown hK hP 0 rfl rfl 15 (by decide) (hts (.fieldLink RX8 20 "WaxTurnsModel" "\x72" "[I") (List.mem_cons_of_mem _ (List.mem_append_left _ (List.mem_of_getElem? (i := 0) rfl)))) (fun _ h9 => h9) rfl dX8_watchAsTold_4 ?_
      refine lv_iconst (v := 5) hx hb dX8_watchAsTold_7 zk_iconst_5 ?_
      refine va_iald hx hb hK hP 1 0 rfl rfl (by unfold vp_in; decide +kernel) dX8_watchAsTold_8 ?_
      refine lv_topi (fun x8 ex8 => ?_)
      have bx8 : (0 : Int) ≤ x8.toInt ∧ x8.toInt ≤ 3 := by rw [ex8]; exact ai_rd bfa0_15.2.2.2.2.2.1 zq112 zq113 (by decide) (by decide) (by decide)
      refine lv_icmp_ge (tgt := 54) hx hb dX8_watchAsTold_9 (by decide) (fun c9 => ?_) (fun c9 => ?_)
      · have gc9 := ai_le c9
        have u9t_x8 : x8.toInt ≤ (3 : Int) := bx8.2
        have l9t_j2l1 : (0 : Int) ≤ j2l1.toInt := bj2l1_l
        refine lv_aload_n hx hb dX8_watchAsTold_54 rfl (lv_at hl 0 rfl) ?_
        refine lv_iconst (v := 0) hx hb dX8_watchAsTold_55 zk_iconst_0 ?_
        refine va_put (D := (dC, dI)) (ci := 8) (v := .int 0) (ty := .int) (C := RX8) (T := TX8) (N := 40) hx hb hts zi_X8_watchAsTold_8 tyX8 tyX8_ok nmX8 hown hK hP hD hS 0 rfl rfl 25 (by decide) (hts (.fieldLink RX8 235 "WaxTurnsModel" "stood" "I") (List.mem_cons_of_mem _ (List.mem_append_left _ (List.mem_of_getElem? (i := 3) rfl)))) (fun _ h9 => h9) rfl (tyX8_ok 25 (by decide)) rfl rfl (Nat.le_of_ble_eq_true rfl) dX8_watchAsTold_56 (fun H locs hP hD hS => ?_)
        refine zs_0 (y := (a0, .inr (8, [a0g_0, a0g_1, a0g_2, a0g_3, a0g_4, a0g_5, a0g_6, a0g_7, a0g_8, a0g_9, a0g_10, a0g_11, a0g_12, a0g_13, a0g_14, Value.ref a0_15, a0g_16, a0g_17, a0g_18, a0g_19, a0g_20, a0g_21, a0g_22, Value.ref a0_23, Value.ref a0_24, Value.int 0, a0g_26, a0g_27, a0g_28, a0g_29, a0g_30, a0g_31, a0g_32, a0g_33, a0g_34, a0g_35, a0g_36, a0g_37, a0g_38, a0g_39]))) hP hD rfl (fun hP hD => ?_)
        exact W.vret hx hb hr (fun t ht hW => ⟨⟨(), rfl, trivial, 0, j2a0_23_a, j2a0_24_a, bj2a0_23_a, bj2a0_24_a, by rw [ht]; exact hP, va_K.moved hW.alike hK, hD⟩, hS.F ht⟩) hS.2.2 dX8_watchAsTold_59
      · have gc9 := ai_nle c9
        have u9f_j2l1 : j2l1.toInt ≤ (2 : Int) := ai_lthi gc9 bx8.2
        have l9f_x8 : (1 : Int) ≤ x8.toInt := ai_ltlo gc9 bj2l1_l
        refine lv_aload_n hx hb dX8_watchAsTold_12 rfl (lv_at hl 0 rfl) ?_
        refine va_get (D := (dC, dI)) (ci := 8) (v := .ref a0_23) (C := RX8) (T := TX8) (N := 40) hx hb hts zi_X8_watchAsTold_8 hown hK hP 0 rfl rfl 23 (by decide) (hts (.fieldLink RX8 38 "WaxTurnsModel" "from" "[I") (List.mem_cons_of_mem _ (List.mem_append_left _ (List.mem_of_getElem? (i := 1) rfl)))) (fun _ h9 => h9) rfl dX8_watchAsTold_13 ?_
        refine lv_iload_n hx hb dX8_watchAsTold_16 rfl (lv_at hl 1 rfl) ?_
        refine lv_aload_n hx hb dX8_watchAsTold_17 rfl (lv_at hl 0 rfl) ?_
        refine va_get (D := (dC, dI)) (ci := 8) (v := .ref a0_15) (C := RX8) (T := TX8) (N := 40) hx hb hts zi_X8_watchAsTold_8 hown hK hP 0 rfl rfl 15 (by decide) (hts (.fieldLink RX8 20 "WaxTurnsModel" "\x72" "[I") (List.mem_cons_of_mem _ (List.mem_append_left _ (List.mem_of_getElem? (i := 0) rfl)))) (fun _ h9 => h9) rfl dX8_watchAsTold_18 ?_
        refine lv_bipush (v := 30) hx hb dX8_watchAsTold_21 zk_bipush_30 ?_
        refine lv_iconst (v := 2) hx hb dX8_watchAsTold_23 zk_iconst_2 ?_
        refine lv_iload_n hx hb dX8_watchAsTold_24 rfl (lv_at hl 1 rfl) ?_
        refine lv_imul hx hb dX8_watchAsTold_25 ?_
        refine lv_topi (fun x25 ex25 => ?_)
        have qx25 : x25.toInt = (2 : Int32).toInt * j2l1.toInt ∧ (0 : Int) ≤ x25.toInt ∧ x25.toInt ≤ 4 := ai_mul ex25 ⟨zq12, zq13⟩ ⟨bj2l1_l, u9f_j2l1⟩ (by decide) (by decide) zq150
        have wx25 : x25.toInt = 2 * j2l1.toInt := qx25.1
        refine lv_iadd hx hb dX8_watchAsTold_26 ?_
        refine lv_topi (fun x26 ex26 => ?_)
        have qx26 : x26.toInt = (30 : Int32).toInt + x25.toInt := ai_add ex26 ⟨zq151, zq152⟩ ⟨qx25.2.1, qx25.2.2⟩ (by decide) (by decide)
        have bx26 : (30 : Int) ≤ x26.toInt ∧ x26.toInt ≤ 34 := ⟨by rw [qx26]; exact Int.add_le_add zq151 qx25.2.1, by rw [qx26]; exact Int.add_le_add zq152 qx25.2.2⟩
        have wx26 : x26.toInt = 30 + x25.toInt := qx26
        refine va_iald hx hb hK hP 1 0 rfl rfl (ai_in bx26.1 bx26.2 (by decide) (by decide)) dX8_watchAsTold_27 ?_
        refine lv_topi (fun x27 ex27 => ?_)
        have bx27 : (0 : Int) ≤ x27.toInt ∧ x27.toInt ≤ 8 := by rw [ex27]; exact ai_rd bfa0_15.2.2.2.2.2.2.2.2.2.1 bx26.1 bx26.2 (by decide) (by decide) (by decide)
        refine va_iast hx hb hK hP hD hS 2 1 rfl rfl (ai_in bj2l1_l u9f_j2l1 (by decide) (by decide)) dX8_watchAsTold_28 (fun H locs hP hD hS => ?_)
        obtain ⟨f28, ef28⟩ : ∃ g9 : Nat → Int32, g9 = upd j2a0_23_a (j2l1 : Int32).toNatClampNeg x27 := ⟨_, rfl⟩
        refine zs_2 (y := (a0_23, .inl (ka0_23, 3, .inl (f28)))) hP hD (by rw [ef28]) (fun hP hD => ?_)
        have bf28 : (∀ k, (0 : Int) ≤ (f28 k).toInt ∧ (f28 k).toInt ≤ 80) := by rw [ef28]; exact ai_upd bj2a0_23_a _ ⟨bx27.1, (Int.le_trans bx27.2 zq10)⟩
        refine lv_aload_n hx hb dX8_watchAsTold_29 rfl (lv_at hl 0 rfl) ?_
        refine va_get (D := (dC, dI)) (ci := 8) (v := .ref a0_24) (C := RX8) (T := TX8) (N := 40) hx hb hts zi_X8_watchAsTold_8 hown hK hP 0 rfl rfl 24 (by decide) (hts (.fieldLink RX8 41 "WaxTurnsModel" "to" "[I") (List.mem_cons_of_mem _ (List.mem_append_left _ (List.mem_of_getElem? (i := 2) rfl)))) (fun _ h9 => h9) rfl dX8_watchAsTold_30 ?_
        refine lv_iload_n hx hb dX8_watchAsTold_33 rfl (lv_at hl 1 rfl) ?_
        refine lv_aload_n hx hb dX8_watchAsTold_34 rfl (lv_at hl 0 rfl) ?_
        refine va_get (D := (dC, dI)) (ci := 8) (v := .ref a0_15) (C := RX8) (T := TX8) (N := 40) hx hb hts zi_X8_watchAsTold_8 hown hK hP 0 rfl rfl 15 (by decide) (hts (.fieldLink RX8 20 "WaxTurnsModel" "\x72" "[I") (List.mem_cons_of_mem _ (List.mem_append_left _ (List.mem_of_getElem? (i := 0) rfl)))) (fun _ h9 => h9) rfl dX8_watchAsTold_35 ?_
        refine lv_bipush (v := 30) hx hb dX8_watchAsTold_38 zk_bipush_30 ?_
        refine lv_iconst (v := 2) hx hb dX8_watchAsTold_40 zk_iconst_2 ?_
        refine lv_iload_n hx hb dX8_watchAsTold_41 rfl (lv_at hl 1 rfl) ?_
        refine lv_imul hx hb dX8_watchAsTold_42 ?_
        refine ax_ti x25 ex25.symm ?_
        refine lv_iadd hx hb dX8_watchAsTold_43 ?_
        refine ax_ti x26 ex26.symm ?_
        refine lv_iconst (v := 1) hx hb dX8_watchAsTold_44 zk_iconst_1 ?_
        refine lv_iadd hx hb dX8_watchAsTold_45 ?_
        refine lv_topi (fun x45 ex45 => ?_)
        have qx45 : x45.toInt = x26.toInt + (1 : Int32).toInt := ai_add ex45 ⟨bx26.1, bx26.2⟩ ⟨zq1, zq0⟩ (by decide) (by decide)
        have bx45 : (31 : Int) ≤ x45.toInt ∧ x45.toInt ≤ 35 := ⟨by rw [qx45]; exact Int.add_le_add bx26.1 zq1, by rw [qx45]; exact Int.add_le_add bx26.2 zq0⟩
        have wx45 : x45.toInt = x26.toInt + 1 := qx45
        refine va_iald hx hb hK hP 1 0 rfl rfl (ai_in bx45.1 bx45.2 (by decide) (by decide)) dX8_watchAsTold_46 ?_
        refine lv_topi (fun x46 ex46 => ?_)
        have bx46 : (0 : Int) ≤ x46.toInt ∧ x46.toInt ≤ 8 := by rw [ex46]; exact ai_rd bfa0_15.2.2.2.2.2.2.2.2.2.1 bx45.1 bx45.2 (by decide) (by decide) (by decide)
        refine va_iast hx hb hK hP hD hS 3 2 rfl rfl (ai_in bj2l1_l u9f_j2l1 (by decide) (by decide)) dX8_watchAsTold_47 (fun H locs hP hD hS => ?_)
        obtain ⟨f47, ef47⟩ : ∃ g9 : Nat → Int32, g9 = upd j2a0_24_a (j2l1 : Int32).toNatClampNeg x46 := ⟨_, rfl⟩
        refine zs_3 (y := (a0_24, .inl (ka0_24, 3, .inl (f47)))) hP hD (by rw [ef47]) (fun hP hD => ?_)
        have bf47 : (∀ k, (0 : Int) ≤ (f47 k).toInt ∧ (f47 k).toInt ≤ 80) := by rw [ef47]; exact ai_upd bj2a0_24_a _ ⟨bx46.1, (Int.le_trans bx46.2 zq10)⟩
        obtain ⟨x48, ex48⟩ : ∃ y : Int32, y = j2l1 + Int32.ofInt 1 := ⟨_, rfl⟩
        have qx48 : x48.toInt = j2l1.toInt + 1 := ai_inc ex48 (by decide) (by decide) u9f_j2l1 (by decide)
        have bx48 : (1 : Int) ≤ x48.toInt ∧ x48.toInt ≤ 3 := ⟨by rw [qx48]; exact Int.add_le_add bj2l1_l (Int.le_refl _), by rw [qx48]; exact Int.add_le_add u9f_j2l1 (Int.le_refl _)⟩
        refine lv_iinc (v := x48) (lv' := [(1, .int x48), (0, .ref a0)]) hx hb dX8_watchAsTold_48 hl (k := 1) rfl ex48.symm (by decide) rfl (fun ls hl => ?_)
        refine lv_goto (tgt := 2) hx hb dX8_watchAsTold_51 (by decide) ?_
        exact (hK0 _ _ _).mp (ih2 x48 f28 f47 _ _ _ (by first | exact zg_s hm2 qx48 | (have h0 := qx48; omega)) (Int.le_trans zq4 bx48.1) bx48.2 bf28 bf47 hP hD hS (lv_sub hl [1, 0] rfl))
  exact (hK0 _ _ _).mp (J2 4 0 fa0_23 fa0_24 _ _ _ (by first | decide +kernel | (have h1 : (0 : Int) ≤ (0 : Int32).toInt := zq5; have h2 : (0 : Int32).toInt ≤ (0 : Int) := zq6; omega)) zq5 (Int.le_trans zq6 zq11) bfa0_23 bfa0_24 hP hD hS (lv_sub hl [1, 0] rfl))

set_option maxHeartbeats 4000000 in
set_option maxRecDepth 100000 in
theorem c_X8_watcherAt (l : Launch) (dC : Nat → ClassId) (dI : Nat → Nat → Nat) (sz : Nat) (a0 : Nat) (a1 : Int32) (a2 : Int32) (a0g_0 a0g_1 a0g_2 a0g_3 a0g_4 a0g_5 a0g_6 a0g_7 a0g_8 a0g_9 a0g_10 a0g_11 a0g_12 a0g_13 a0g_14 a0g_15 a0g_16 a0g_17 a0g_18 a0g_19 a0g_20 a0g_21 a0g_22 a0g_25 a0g_26 a0g_27 a0g_28 a0g_29 a0g_30 a0g_31 a0g_32 a0g_33 a0g_34 a0g_35 a0g_36 a0g_37 a0g_38 a0g_39 : Value) (a0_23 : Nat) (a0_24 : Nat) (ka0_24 : ClassId) (fa0_24 : Nat → Int32) (ka0_23 : ClassId) (fa0_23 : Nat → Int32) (ba1_l : (0 : Int) ≤ a1.toInt) (ba1_u : a1.toInt ≤ (2 : Int)) (bfa0_24 : (∀ k, (0 : Int) ≤ (fa0_24 k).toInt ∧ (fa0_24 k).toInt ≤ 80)) (bfa0_23 : (∀ k, (0 : Int) ≤ (fa0_23 k).toInt ∧ (fa0_23 k).toInt ≤ 80)) : zm l yX8_watcherAt wsX8_watcherAt ({ frames := 0, cells := 0, slots := 0, locals := 0 }) [.ref a0, .int a1, .int a2] dC dI sz [(a0, .inr (8, [a0g_0, a0g_1, a0g_2, a0g_3, a0g_4, a0g_5, a0g_6, a0g_7, a0g_8, a0g_9, a0g_10, a0g_11, a0g_12, a0g_13, a0g_14, a0g_15, a0g_16, a0g_17, a0g_18, a0g_19, a0g_20, a0g_21, a0g_22, Value.ref a0_23, Value.ref a0_24, a0g_25, a0g_26, a0g_27, a0g_28, a0g_29, a0g_30, a0g_31, a0g_32, a0g_33, a0g_34, a0g_35, a0g_36, a0g_37, a0g_38, a0g_39])), (a0_24, .inl (ka0_24, 3, .inl (fa0_24))), (a0_23, .inl (ka0_23, 3, .inl (fa0_23)))] [(ka0_24, .int), (ka0_23, .int)] (fun A _ => True) (fun A => va_Qi (fun (r : Int32) (_ : Unit) => True) (fun (_ : Unit) (t : State) => ax_B dC dI A [(a0, .inr (8, [a0g_0, a0g_1, a0g_2, a0g_3, a0g_4, a0g_5, a0g_6, a0g_7, a0g_8, a0g_9, a0g_10, a0g_11, a0g_12, a0g_13, a0g_14, a0g_15, a0g_16, a0g_17, a0g_18, a0g_19, a0g_20, a0g_21, a0g_22, Value.ref a0_23, Value.ref a0_24, a0g_25, a0g_26, a0g_27, a0g_28, a0g_29, a0g_30, a0g_31, a0g_32, a0g_33, a0g_34, a0g_35, a0g_36, a0g_37, a0g_38, a0g_39])), (a0_24, .inl (ka0_24, 3, .inl (fa0_24))), (a0_23, .inl (ka0_23, 3, .inl (fa0_23)))] [(ka0_24, .int), (ka0_23, .int)] t) A) := by
  refine zh (cc := cX8_watcherAt) (maxL := 6) (ret := (some .int)) zn_RX8 rfl (Nat.le_of_ble_eq_true rfl) (fun p e s m below meth c A ls hx hb hml hr hts (hown : s.vm.findClass RX8 = some m.cls) hlocks hA hS hP hK hD hE (hl : lv_has ls 6 [(0, .ref a0), (1, .int a1), (2, .int a2)]) => ?_)
  refine lv_aload_n hx hb dX8_watcherAt_0 rfl (lv_at hl 0 rfl) ?_
  refine va_get (D := (dC, dI)) (ci := 8) (v := .ref a0_24) (C := RX8) (T := TX8) (N := 40) hx hb hts zi_X8_watcherAt_8 hown hK hP 0 rfl rfl 24 (by decide) (hts (.fieldLink RX8 41 "WaxTurnsModel" "to" "[I") (List.mem_cons_of_mem _ (List.mem_append_left _ (List.mem_of_getElem? (i := 0) rfl)))) (fun _ h9 => h9) rfl dX8_watcherAt_1 ?_
  refine lv_iload_n hx hb dX8_watcherAt_4 rfl (lv_at hl 1 rfl) ?_
  refine va_iald hx hb hK hP 1 0 rfl rfl (ai_in ba1_l ba1_u (by decide) (by decide)) dX8_watcherAt_5 ?_
  refine lv_topi (fun x5 ex5 => ?_)
  have bx5 : (0 : Int) ≤ x5.toInt ∧ x5.toInt ≤ 80 := by rw [ex5]; exact bfa0_24 _
  refine lv_aload_n hx hb dX8_watcherAt_6 rfl (lv_at hl 0 rfl) ?_
  refine va_get (D := (dC, dI)) (ci := 8) (v := .ref a0_23) (C := RX8) (T := TX8) (N := 40) hx hb hts zi_X8_watcherAt_8 hown hK hP 0 rfl rfl 23 (by decide) (hts (.fieldLink RX8 38 "WaxTurnsModel" "from" "[I") (List.mem_cons_of_mem _ (List.mem_append_left _ (List.mem_of_getElem? (i := 1) rfl)))) (fun _ h9 => h9) rfl dX8_watcherAt_7 ?_
  refine lv_iload_n hx hb dX8_watcherAt_10 rfl (lv_at hl 1 rfl) ?_
  refine va_iald hx hb hK hP 2 1 rfl rfl (ai_in ba1_l ba1_u (by decide) (by decide)) dX8_watcherAt_11 ?_
  refine lv_topi (fun x11 ex11 => ?_)
  have bx11 : (0 : Int) ≤ x11.toInt ∧ x11.toInt ≤ 80 := by rw [ex11]; exact bfa0_23 _
  refine lv_isub hx hb dX8_watcherAt_12 ?_
  refine lv_topi (fun x12 ex12 => ?_)
  have qx12 : x12.toInt = x5.toInt - x11.toInt := ai_sub ex12 ⟨bx5.1, bx5.2⟩ ⟨bx11.1, bx11.2⟩ (by decide) (by decide)
  have bx12 : (-80 : Int) ≤ x12.toInt ∧ x12.toInt ≤ 80 := ⟨by rw [qx12]; exact Int.sub_le_sub bx5.1 bx11.2, by rw [qx12]; exact Int.sub_le_sub bx5.2 bx11.1⟩
  refine lv_istore_n (lv' := [(3, .int x12), (0, .ref a0), (1, .int a1), (2, .int a2)]) hx hb dX8_watcherAt_13 rfl hl (by decide) rfl (fun ls hl => ?_)
  refine lv_iload_n hx hb dX8_watcherAt_14 rfl (lv_at hl 0 rfl) ?_
  refine lv_if_ge (tgt := 23) hx hb dX8_watcherAt_15 (by decide) (fun c15 => ?_) (fun c15 => ?_)
  · have gc15 := ai_le c15
    have l15t_x12 : (0 : Int) ≤ x12.toInt := Int.le_trans zq5 gc15
    refine lv_iload_n hx hb dX8_watcherAt_23 rfl (lv_at hl 0 rfl) ?_
    refine lv_istore (lv' := [(4, .int x12), (3, .int x12), (0, .ref a0), (1, .int a1), (2, .int a2)]) hx hb dX8_watcherAt_24 hl (by decide) rfl (fun ls hl => ?_)
    refine lv_iload hx hb dX8_watcherAt_26 (lv_at hl 0 rfl) ?_
    refine lv_if_ne (tgt := 38) hx hb dX8_watcherAt_28 (by decide) (fun c28 => ?_) (fun c28 => ?_)
    · have gc28 := ai_ne c28
      have l28t_x12 : (1 : Int) ≤ x12.toInt := (by first | exact zg_l l15t_x12 gc28 (by decide) (by decide) | (have h1 := l15t_x12; have h2 : (0 : Int32).toInt = 0 := (by decide); rw [h2] at gc28; omega))
      refine lv_iload_n hx hb dX8_watcherAt_38 rfl (lv_at hl 4 rfl) ?_
      refine lv_iconst (v := 2) hx hb dX8_watcherAt_39 zk_iconst_2 ?_
      refine lv_iload hx hb dX8_watcherAt_40 (lv_at hl 0 rfl) ?_
      refine lv_imul hx hb dX8_watcherAt_42 ?_
      refine lv_topi (fun x42 ex42 => ?_)
      have qx42 : x42.toInt = (2 : Int32).toInt * x12.toInt ∧ (2 : Int) ≤ x42.toInt ∧ x42.toInt ≤ 160 := ai_mul ex42 ⟨zq12, zq13⟩ ⟨l28t_x12, bx12.2⟩ (by decide) (by decide) zq14
      have wx42 : x42.toInt = 2 * x12.toInt := qx42.1
      refine lv_irem hx hb dX8_watcherAt_43 (ai_nz qx42.2.1 (by decide)) ?_
      refine lv_topi (fun x43 ex43 => ?_)
      refine lv_istore (lv' := [(5, .int x43), (4, .int x12), (3, .int x12), (0, .ref a0), (1, .int a1), (2, .int a2)]) hx hb dX8_watcherAt_44 hl (by decide) rfl (fun ls hl => ?_)
      refine lv_iload hx hb dX8_watcherAt_46 (lv_at hl 0 rfl) ?_
      refine lv_iload hx hb dX8_watcherAt_48 (lv_at hl 1 rfl) ?_
      refine lv_icmp_le (tgt := 62) hx hb dX8_watcherAt_50 (by decide) (fun c50 => ?_) (fun c50 => ?_)
      · have gc50 := ai_le c50
        have u50t_x43 : x43.toInt ≤ (80 : Int) := Int.le_trans gc50 bx12.2
        refine lv_iload_n hx hb dX8_watcherAt_62 rfl (lv_at hl 2 rfl) ?_
        refine lv_if_ge (tgt := 78) hx hb dX8_watcherAt_63 (by decide) (fun c63 => ?_) (fun c63 => ?_)
        · have gc63 := ai_le c63
          have l63t_x12 : (1 : Int) ≤ x12.toInt := l28t_x12
          refine lv_aload_n hx hb dX8_watcherAt_78 rfl (lv_at hl 3 rfl) ?_
          refine va_get (D := (dC, dI)) (ci := 8) (v := .ref a0_23) (C := RX8) (T := TX8) (N := 40) hx hb hts zi_X8_watcherAt_8 hown hK hP 0 rfl rfl 23 (by decide) (hts (.fieldLink RX8 38 "WaxTurnsModel" "from" "[I") (List.mem_cons_of_mem _ (List.mem_append_left _ (List.mem_of_getElem? (i := 1) rfl)))) (fun _ h9 => h9) rfl dX8_watcherAt_79 ?_
          refine lv_iload_n hx hb dX8_watcherAt_82 rfl (lv_at hl 4 rfl) ?_
          refine va_iald hx hb hK hP 2 1 rfl rfl (ai_in ba1_l ba1_u (by decide) (by decide)) dX8_watcherAt_83 ?_
          refine ax_ti x11 ex11.symm ?_
          refine lv_iload hx hb dX8_watcherAt_84 (lv_at hl 0 rfl) ?_
          refine lv_iadd hx hb dX8_watcherAt_86 ?_
          refine lv_topi (fun x86 ex86 => ?_)
          have qx86 : x86.toInt = x11.toInt + x43.toInt := ai_add ex86 ⟨bx11.1, bx11.2⟩ ⟨(ai_min x43), u50t_x43⟩ (by decide) (by decide)
          have bx86 : (-2147483648 : Int) ≤ x86.toInt ∧ x86.toInt ≤ 160 := ⟨by rw [qx86]; exact Int.add_le_add bx11.1 (ai_min x43), by rw [qx86]; exact Int.add_le_add bx11.2 u50t_x43⟩
          exact W.iret (v := x86) hx hb hr (fun t ht hW => ⟨⟨x86, (), rfl, trivial, by rw [ht]; exact hP, va_K.moved hW.alike hK, hD⟩, hS.F ht⟩) hS.2.2 dX8_watcherAt_87
        · have gc63 := ai_nle c63
          have u63f_x12 : x12.toInt ≤ (-1 : Int) := ai_lthi gc63 zq6
          exact absurd (Int.le_trans l28t_x12 u63f_x12) (by decide)
      · have gc50 := ai_nle c50
        have u50f_x12 : x12.toInt ≤ (80 : Int) := bx12.2
        have l50f_x43 : (2 : Int) ≤ x43.toInt := ai_ltlo gc50 l28t_x12
        refine lv_iconst (v := 2) hx hb dX8_watcherAt_53 zk_iconst_2 ?_
        refine lv_iload hx hb dX8_watcherAt_54 (lv_at hl 1 rfl) ?_
        refine lv_imul hx hb dX8_watcherAt_56 ?_
        refine ax_ti x42 ex42.symm ?_
        refine lv_iload hx hb dX8_watcherAt_57 (lv_at hl 0 rfl) ?_
        refine lv_isub hx hb dX8_watcherAt_59 ?_
        refine lv_topi (fun x59 ex59 => ?_)
        have qx59 : x59.toInt = x42.toInt - x43.toInt := ai_sub ex59 ⟨qx42.2.1, qx42.2.2⟩ ⟨l50f_x43, (ai_max x43)⟩ (by decide) (by decide)
        have bx59 : (-2147483645 : Int) ≤ x59.toInt ∧ x59.toInt ≤ 158 := ⟨by rw [qx59]; exact Int.sub_le_sub qx42.2.1 (ai_max x43), by rw [qx59]; exact Int.sub_le_sub qx42.2.2 l50f_x43⟩
        refine lv_istore (lv' := [(5, .int x59), (4, .int x12), (3, .int x12), (0, .ref a0), (1, .int a1), (2, .int a2)]) hx hb dX8_watcherAt_60 hl (by decide) rfl (fun ls hl => ?_)
        refine lv_iload_n hx hb dX8_watcherAt_62 rfl (lv_at hl 2 rfl) ?_
        refine lv_if_ge (tgt := 78) hx hb dX8_watcherAt_63 (by decide) (fun c63 => ?_) (fun c63 => ?_)
        · have gc63 := ai_le c63
          have l63t_x12 : (1 : Int) ≤ x12.toInt := l28t_x12
          refine lv_aload_n hx hb dX8_watcherAt_78 rfl (lv_at hl 3 rfl) ?_
          refine va_get (D := (dC, dI)) (ci := 8) (v := .ref a0_23) (C := RX8) (T := TX8) (N := 40) hx hb hts zi_X8_watcherAt_8 hown hK hP 0 rfl rfl 23 (by decide) (hts (.fieldLink RX8 38 "WaxTurnsModel" "from" "[I") (List.mem_cons_of_mem _ (List.mem_append_left _ (List.mem_of_getElem? (i := 1) rfl)))) (fun _ h9 => h9) rfl dX8_watcherAt_79 ?_
          refine lv_iload_n hx hb dX8_watcherAt_82 rfl (lv_at hl 4 rfl) ?_
          refine va_iald hx hb hK hP 2 1 rfl rfl (ai_in ba1_l ba1_u (by decide) (by decide)) dX8_watcherAt_83 ?_
          refine ax_ti x11 ex11.symm ?_
          refine lv_iload hx hb dX8_watcherAt_84 (lv_at hl 0 rfl) ?_
          refine lv_iadd hx hb dX8_watcherAt_86 ?_
          refine lv_topi (fun x86 ex86 => ?_)
          have qx86 : x86.toInt = x11.toInt + x59.toInt := ai_add ex86 ⟨bx11.1, bx11.2⟩ ⟨bx59.1, bx59.2⟩ (by decide) (by decide)
          have bx86 : (-2147483645 : Int) ≤ x86.toInt ∧ x86.toInt ≤ 238 := ⟨by rw [qx86]; exact Int.add_le_add bx11.1 bx59.1, by rw [qx86]; exact Int.add_le_add bx11.2 bx59.2⟩
          exact W.iret (v := x86) hx hb hr (fun t ht hW => ⟨⟨x86, (), rfl, trivial, by rw [ht]; exact hP, va_K.moved hW.alike hK, hD⟩, hS.F ht⟩) hS.2.2 dX8_watcherAt_87
        · have gc63 := ai_nle c63
          have u63f_x12 : x12.toInt ≤ (-1 : Int) := ai_lthi gc63 zq6
          exact absurd (Int.le_trans l28t_x12 u63f_x12) (by decide)
    · have gc28 := ai_eq c28
      have u28f_x12 : x12.toInt ≤ (0 : Int) := Int.le_trans (Int.le_of_eq gc28) zq6
      have l28f_x12 : (0 : Int) ≤ x12.toInt := l15t_x12
      refine lv_aload_n hx hb dX8_watcherAt_31 rfl (lv_at hl 2 rfl) ?_
      refine va_get (D := (dC, dI)) (ci := 8) (v := .ref a0_23) (C := RX8) (T := TX8) (N := 40) hx hb hts zi_X8_watcherAt_8 hown hK hP 0 rfl rfl 23 (by decide) (hts (.fieldLink RX8 38 "WaxTurnsModel" "from" "[I") (List.mem_cons_of_mem _ (List.mem_append_left _ (List.mem_of_getElem? (i := 1) rfl)))) (fun _ h9 => h9) rfl dX8_watcherAt_32 ?_
      refine lv_iload_n hx hb dX8_watcherAt_35 rfl (lv_at hl 3 rfl) ?_
      refine va_iald hx hb hK hP 2 1 rfl rfl (ai_in ba1_l ba1_u (by decide) (by decide)) dX8_watcherAt_36 ?_
      refine ax_ti x11 ex11.symm ?_
      exact W.iret (v := x11) hx hb hr (fun t ht hW => ⟨⟨x11, (), rfl, trivial, by rw [ht]; exact hP, va_K.moved hW.alike hK, hD⟩, hS.F ht⟩) hS.2.2 dX8_watcherAt_37
  · have gc15 := ai_nle c15
    have u15f_x12 : x12.toInt ≤ (-1 : Int) := ai_lthi gc15 zq6
    refine lv_iload_n hx hb dX8_watcherAt_18 rfl (lv_at hl 0 rfl) ?_
    refine lv_ineg hx hb dX8_watcherAt_19 ?_
    refine lv_topi (fun x19 ex19 => ?_)
    have qx19 : x19.toInt = -x12.toInt := ai_neg ex19 bx12.1 (by decide)
    have bx19 : (1 : Int) ≤ x19.toInt ∧ x19.toInt ≤ 80 := ⟨by rw [qx19]; exact Int.neg_le_neg u15f_x12, by rw [qx19]; exact Int.neg_le_neg bx12.1⟩
    refine lv_goto (tgt := 24) hx hb dX8_watcherAt_20 (by decide) ?_
    refine lv_istore (lv' := [(4, .int x19), (3, .int x12), (0, .ref a0), (1, .int a1), (2, .int a2)]) hx hb dX8_watcherAt_24 hl (by decide) rfl (fun ls hl => ?_)
    refine lv_iload hx hb dX8_watcherAt_26 (lv_at hl 0 rfl) ?_
    refine lv_if_ne (tgt := 38) hx hb dX8_watcherAt_28 (by decide) (fun c28 => ?_) (fun c28 => ?_)
    · have gc28 := ai_ne c28
      refine lv_iload_n hx hb dX8_watcherAt_38 rfl (lv_at hl 4 rfl) ?_
      refine lv_iconst (v := 2) hx hb dX8_watcherAt_39 zk_iconst_2 ?_
      refine lv_iload hx hb dX8_watcherAt_40 (lv_at hl 0 rfl) ?_
      refine lv_imul hx hb dX8_watcherAt_42 ?_
      refine lv_topi (fun x42 ex42 => ?_)
      have qx42 : x42.toInt = (2 : Int32).toInt * x19.toInt ∧ (2 : Int) ≤ x42.toInt ∧ x42.toInt ≤ 160 := ai_mul ex42 ⟨zq12, zq13⟩ ⟨bx19.1, bx19.2⟩ (by decide) (by decide) zq14
      have wx42 : x42.toInt = 2 * x19.toInt := qx42.1
      refine lv_irem hx hb dX8_watcherAt_43 (ai_nz qx42.2.1 (by decide)) ?_
      refine lv_topi (fun x43 ex43 => ?_)
      refine lv_istore (lv' := [(5, .int x43), (4, .int x19), (3, .int x12), (0, .ref a0), (1, .int a1), (2, .int a2)]) hx hb dX8_watcherAt_44 hl (by decide) rfl (fun ls hl => ?_)
      refine lv_iload hx hb dX8_watcherAt_46 (lv_at hl 0 rfl) ?_
      refine lv_iload hx hb dX8_watcherAt_48 (lv_at hl 1 rfl) ?_
      refine lv_icmp_le (tgt := 62) hx hb dX8_watcherAt_50 (by decide) (fun c50 => ?_) (fun c50 => ?_)
      · have gc50 := ai_le c50
        have u50t_x43 : x43.toInt ≤ (80 : Int) := Int.le_trans gc50 bx19.2
        refine lv_iload_n hx hb dX8_watcherAt_62 rfl (lv_at hl 2 rfl) ?_
        refine lv_if_ge (tgt := 78) hx hb dX8_watcherAt_63 (by decide) (fun c63 => ?_) (fun c63 => ?_)
        · have gc63 := ai_le c63
          have l63t_x12 : (0 : Int) ≤ x12.toInt := Int.le_trans zq5 gc63
          exact absurd (Int.le_trans l63t_x12 u15f_x12) (by decide)
        · have gc63 := ai_nle c63
          have u63f_x12 : x12.toInt ≤ (-1 : Int) := u15f_x12
          refine lv_aload_n hx hb dX8_watcherAt_66 rfl (lv_at hl 3 rfl) ?_
          refine va_get (D := (dC, dI)) (ci := 8) (v := .ref a0_23) (C := RX8) (T := TX8) (N := 40) hx hb hts zi_X8_watcherAt_8 hown hK hP 0 rfl rfl 23 (by decide) (hts (.fieldLink RX8 38 "WaxTurnsModel" "from" "[I") (List.mem_cons_of_mem _ (List.mem_append_left _ (List.mem_of_getElem? (i := 1) rfl)))) (fun _ h9 => h9) rfl dX8_watcherAt_67 ?_
          refine lv_iload_n hx hb dX8_watcherAt_70 rfl (lv_at hl 4 rfl) ?_
          refine va_iald hx hb hK hP 2 1 rfl rfl (ai_in ba1_l ba1_u (by decide) (by decide)) dX8_watcherAt_71 ?_
          refine ax_ti x11 ex11.symm ?_
          refine lv_iload hx hb dX8_watcherAt_72 (lv_at hl 0 rfl) ?_
          refine lv_isub hx hb dX8_watcherAt_74 ?_
          refine lv_topi (fun x74 ex74 => ?_)
          refine lv_goto (tgt := 87) hx hb dX8_watcherAt_75 (by decide) ?_
          exact W.iret (v := x74) hx hb hr (fun t ht hW => ⟨⟨x74, (), rfl, trivial, by rw [ht]; exact hP, va_K.moved hW.alike hK, hD⟩, hS.F ht⟩) hS.2.2 dX8_watcherAt_87
      · have gc50 := ai_nle c50
        have u50f_x19 : x19.toInt ≤ (80 : Int) := bx19.2
        have l50f_x43 : (2 : Int) ≤ x43.toInt := ai_ltlo gc50 bx19.1
        refine lv_iconst (v := 2) hx hb dX8_watcherAt_53 zk_iconst_2 ?_
        refine lv_iload hx hb dX8_watcherAt_54 (lv_at hl 1 rfl) ?_
        refine lv_imul hx hb dX8_watcherAt_56 ?_
        refine ax_ti x42 ex42.symm ?_
        refine lv_iload hx hb dX8_watcherAt_57 (lv_at hl 0 rfl) ?_
        refine lv_isub hx hb dX8_watcherAt_59 ?_
        refine lv_topi (fun x59 ex59 => ?_)
        have qx59 : x59.toInt = x42.toInt - x43.toInt := ai_sub ex59 ⟨qx42.2.1, qx42.2.2⟩ ⟨l50f_x43, (ai_max x43)⟩ (by decide) (by decide)
        have bx59 : (-2147483645 : Int) ≤ x59.toInt ∧ x59.toInt ≤ 158 := ⟨by rw [qx59]; exact Int.sub_le_sub qx42.2.1 (ai_max x43), by rw [qx59]; exact Int.sub_le_sub qx42.2.2 l50f_x43⟩
        refine lv_istore (lv' := [(5, .int x59), (4, .int x19), (3, .int x12), (0, .ref a0), (1, .int a1), (2, .int a2)]) hx hb dX8_watcherAt_60 hl (by decide) rfl (fun ls hl => ?_)
        refine lv_iload_n hx hb dX8_watcherAt_62 rfl (lv_at hl 2 rfl) ?_
        refine lv_if_ge (tgt := 78) hx hb dX8_watcherAt_63 (by decide) (fun c63 => ?_) (fun c63 => ?_)
        · have gc63 := ai_le c63
          have l63t_x12 : (0 : Int) ≤ x12.toInt := Int.le_trans zq5 gc63
          exact absurd (Int.le_trans l63t_x12 u15f_x12) (by decide)
        · have gc63 := ai_nle c63
          have u63f_x12 : x12.toInt ≤ (-1 : Int) := u15f_x12
          refine lv_aload_n hx hb dX8_watcherAt_66 rfl (lv_at hl 3 rfl) ?_
          refine va_get (D := (dC, dI)) (ci := 8) (v := .ref a0_23) (C := RX8) (T := TX8) (N := 40) hx hb hts zi_X8_watcherAt_8 hown hK hP 0 rfl rfl 23 (by decide) (hts (.fieldLink RX8 38 "WaxTurnsModel" "from" "[I") (List.mem_cons_of_mem _ (List.mem_append_left _ (List.mem_of_getElem? (i := 1) rfl)))) (fun _ h9 => h9) rfl dX8_watcherAt_67 ?_
          refine lv_iload_n hx hb dX8_watcherAt_70 rfl (lv_at hl 4 rfl) ?_
          refine va_iald hx hb hK hP 2 1 rfl rfl (ai_in ba1_l ba1_u (by decide) (by decide)) dX8_watcherAt_71 ?_
          refine ax_ti x11 ex11.symm ?_
          refine lv_iload hx hb dX8_watcherAt_72 (lv_at hl 0 rfl) ?_
          refine lv_isub hx hb dX8_watcherAt_74 ?_
          refine lv_topi (fun x74 ex74 => ?_)
          refine lv_goto (tgt := 87) hx hb dX8_watcherAt_75 (by decide) ?_
          exact W.iret (v := x74) hx hb hr (fun t ht hW => ⟨⟨x74, (), rfl, trivial, by rw [ht]; exact hP, va_K.moved hW.alike hK, hD⟩, hS.F ht⟩) hS.2.2 dX8_watcherAt_87
    · have gc28 := ai_eq c28
      have u28f_x19 : x19.toInt ≤ (0 : Int) := Int.le_trans (Int.le_of_eq gc28) zq6
      have l28f_x19 : (1 : Int) ≤ x19.toInt := bx19.1
      exact absurd (Int.le_trans l28f_x19 u28f_x19) (by decide)
end P130_safe
section P131_safe
set_option maxHeartbeats 4000000 in
set_option maxRecDepth 100000 in
theorem c_X8_isWatched (l : Launch) (dC : Nat → ClassId) (dI : Nat → Nat → Nat) (sz : Nat) (a0 : Nat) (a1 : Int32) (a2 : Int32) (a0g_0 a0g_1 a0g_2 a0g_3 a0g_4 a0g_5 a0g_6 a0g_7 a0g_8 a0g_9 a0g_10 a0g_11 a0g_12 a0g_13 a0g_14 a0g_16 a0g_17 a0g_18 a0g_19 a0g_20 a0g_21 a0g_22 a0g_26 a0g_27 a0g_28 a0g_29 a0g_30 a0g_31 a0g_32 a0g_33 a0g_34 a0g_35 a0g_36 a0g_37 a0g_38 a0g_39 : Value) (a0_15 : Nat) (a0_23 : Nat) (a0_24 : Nat) (a0_25 : Int32) (ka0_15 : ClassId) (fa0_15 : Nat → Int32) (ka0_24 : ClassId) (fa0_24 : Nat → Int32) (ka0_23 : ClassId) (fa0_23 : Nat → Int32) (bfa0_15 : ((∀ k : Nat, 0 ≤ k → k ≤ 0 → (2 : Int) ≤ (fa0_15 k).toInt ∧ (fa0_15 k).toInt ≤ 9) ∧ (∀ k : Nat, 1 ≤ k → k ≤ 1 → (1 : Int) ≤ (fa0_15 k).toInt ∧ (fa0_15 k).toInt ≤ 20) ∧ (∀ k : Nat, 2 ≤ k → k ≤ 2 → (0 : Int) ≤ (fa0_15 k).toInt ∧ (fa0_15 k).toInt ≤ 8) ∧ (∀ k : Nat, 3 ≤ k → k ≤ 3 → (0 : Int) ≤ (fa0_15 k).toInt ∧ (fa0_15 k).toInt ≤ 100) ∧ (∀ k : Nat, 4 ≤ k → k ≤ 4 → (0 : Int) ≤ (fa0_15 k).toInt ∧ (fa0_15 k).toInt ≤ 9) ∧ (∀ k : Nat, 5 ≤ k → k ≤ 5 → (0 : Int) ≤ (fa0_15 k).toInt ∧ (fa0_15 k).toInt ≤ 3) ∧ (∀ k : Nat, 6 ≤ k → k ≤ 6 → (0 : Int) ≤ (fa0_15 k).toInt ∧ (fa0_15 k).toInt ≤ 6) ∧ (∀ k : Nat, 7 ≤ k → k ≤ 9 → (0 : Int) ≤ (fa0_15 k).toInt ∧ (fa0_15 k).toInt ≤ 8) ∧ (∀ k : Nat, 12 ≤ k → k ≤ 29 → (0 : Int) ≤ (fa0_15 k).toInt ∧ (fa0_15 k).toInt ≤ 20) ∧ (∀ k : Nat, 30 ≤ k → k ≤ 35 → (0 : Int) ≤ (fa0_15 k).toInt ∧ (fa0_15 k).toInt ≤ 8) ∧ (∀ k : Nat, 36 ≤ k → k ≤ 47 → (0 : Int) ≤ (fa0_15 k).toInt ∧ (fa0_15 k).toInt ≤ 999))) (bfa0_24 : (∀ k, (0 : Int) ≤ (fa0_24 k).toInt ∧ (fa0_24 k).toInt ≤ 80)) (bfa0_23 : (∀ k, (0 : Int) ≤ (fa0_23 k).toInt ∧ (fa0_23 k).toInt ≤ 80)) : zm l yX8_isWatched wsX8_isWatched ({ frames := 1, cells := 0, slots := 0, locals := 25 }) [.ref a0, .int a1, .int a2] dC dI sz [(a0, .inr (8, [a0g_0, a0g_1, a0g_2, a0g_3, a0g_4, a0g_5, a0g_6, a0g_7, a0g_8, a0g_9, a0g_10, a0g_11, a0g_12, a0g_13, a0g_14, Value.ref a0_15, a0g_16, a0g_17, a0g_18, a0g_19, a0g_20, a0g_21, a0g_22, Value.ref a0_23, Value.ref a0_24, Value.int a0_25, a0g_26, a0g_27, a0g_28, a0g_29, a0g_30, a0g_31, a0g_32, a0g_33, a0g_34, a0g_35, a0g_36, a0g_37, a0g_38, a0g_39])), (a0_15, .inl (ka0_15, 156, .inl (fa0_15))), (a0_24, .inl (ka0_24, 3, .inl (fa0_24))), (a0_23, .inl (ka0_23, 3, .inl (fa0_23)))] [(ka0_15, .int), (ka0_24, .int), (ka0_23, .int)] (fun A _ => True) (fun A => va_Qi (fun (r : Int32) (_ : Unit) => (r = 1) ∨ (r = 0)) (fun (_ : Unit) (t : State) => ax_B dC dI A [(a0, .inr (8, [a0g_0, a0g_1, a0g_2, a0g_3, a0g_4, a0g_5, a0g_6, a0g_7, a0g_8, a0g_9, a0g_10, a0g_11, a0g_12, a0g_13, a0g_14, Value.ref a0_15, a0g_16, a0g_17, a0g_18, a0g_19, a0g_20, a0g_21, a0g_22, Value.ref a0_23, Value.ref a0_24, Value.int a0_25, a0g_26, a0g_27, a0g_28, a0g_29, a0g_30, a0g_31, a0g_32, a0g_33, a0g_34, a0g_35, a0g_36, a0g_37, a0g_38, a0g_39])), (a0_15, .inl (ka0_15, 156, .inl (fa0_15))), (a0_24, .inl (ka0_24, 3, .inl (fa0_24))), (a0_23, .inl (ka0_23, 3, .inl (fa0_23)))] [(ka0_15, .int), (ka0_24, .int), (ka0_23, .int)] t) A) := by
  refine zh (cc := cX8_isWatched) (maxL := 4) (ret := (some .boolean)) zn_RX8 rfl (Nat.le_of_ble_eq_true rfl) (fun p e s m below meth c A ls hx hb hml hr hts (hown : s.vm.findClass RX8 = some m.cls) hlocks hA hS hP hK hD hE (hl : lv_has ls 4 [(0, .ref a0), (1, .int a1), (2, .int a2)]) => ?_)
  refine ai_open (fun K hK0 => ?_)
  refine (hK0 _ _ _).mpr ?_
  refine lv_aload_n hx hb dX8_isWatched_0 rfl (lv_at hl 0 rfl) ?_
  refine va_get (D := (dC, dI)) (ci := 8) (v := .int a0_25) (C := RX8) (T := TX8) (N := 40) hx hb hts zi_X8_isWatched_8 hown hK hP 0 rfl rfl 25 (by decide) (hts (.fieldLink RX8 235 "WaxTurnsModel" "stood" "I") (List.mem_cons_of_mem _ (List.mem_append_left _ (List.mem_of_getElem? (i := 0) rfl)))) (fun _ h9 => h9) rfl dX8_isWatched_1 ?_
  refine lv_iload_n hx hb dX8_isWatched_4 rfl (lv_at hl 1 rfl) ?_
  refine va_calli (va_runS (As := [.int a0_25, .int a1]) (rest := []) ⟨hx, hb, hml, hown, hts⟩ (c_X8_hasBit l dC dI s.heap.size a0_25 a1 ) (va_cwS 2 hts gX8_isWatched_X8_hasBit rfl rfl rfl zd_X8_hasBit.2 ⟨Nat.le_of_ble_eq_true rfl, Nat.le_of_ble_eq_true rfl⟩) ⟨ax_blind (fun _ _ _ _ _ => trivial), ax_pre (zp_P0 hP) (zp_K hK) (zp_D0 hD) (fun _ _ => trivial)⟩ rfl rfl hl.1 rfl (lv_room (Nat.le_of_ble_eq_true rfl)) dX8_isWatched_5 ⟨Nat.le_of_ble_eq_true rfl, Nat.le_of_ble_eq_true rfl⟩) hS (fun q _ h => zp_F0 hD hS hA q h) (zp_F0 hD hS hA) (fun r5 u t H locs ht hvm hw hB hz1 hk1 hS1 => zo0 hB ht hP hD hk1 (zp_F0 hD hS hA) hS1 (fun hP hK1 hD hS => ?_))
  rcases hw with hw | hw
  · subst hw
    refine lv_if_eq (tgt := 13) hx hb dX8_isWatched_8 (by decide) (fun c8 => absurd c8 (by decide +kernel)) (fun _ => ?_)
    refine lv_iconst (v := 1) hx hb dX8_isWatched_11 zk_iconst_1 ?_
    exact W.zret (v := 1) hx hb hr rfl (fun t ht hW => ⟨⟨1, (), rfl, (Or.inl (rfl)), by rw [ht]; exact hP, va_K.moved hW.alike hK, hD⟩, hS.F ht⟩) hS.2.2 dX8_isWatched_12
  · subst hw
    refine lv_if_eq (tgt := 13) hx hb dX8_isWatched_8 (by decide) (fun _ => ?_) (fun c8 => absurd (by decide +kernel) c8)
    refine lv_iconst (v := 0) hx hb dX8_isWatched_13 zk_iconst_0 ?_
    refine lv_istore_n (lv' := [(3, .int 0), (0, .ref a0), (1, .int a1), (2, .int a2)]) hx hb dX8_isWatched_14 rfl hl (by decide) rfl (fun ls hl => ?_)
    have J15 : ∀ (n : Nat) (j15l3 : Int32) (H : Heap) (locs : List Loc) (ls : Array Slot), (4 : Int) - j15l3.toInt ≤ (n : Int) → (0 : Int) ≤ j15l3.toInt → j15l3.toInt ≤ (3 : Int) → va_P (dC, dI) vwCl [(a0, .inr (8, [a0g_0, a0g_1, a0g_2, a0g_3, a0g_4, a0g_5, a0g_6, a0g_7, a0g_8, a0g_9, a0g_10, a0g_11, a0g_12, a0g_13, a0g_14, Value.ref a0_15, a0g_16, a0g_17, a0g_18, a0g_19, a0g_20, a0g_21, a0g_22, Value.ref a0_23, Value.ref a0_24, Value.int a0_25, a0g_26, a0g_27, a0g_28, a0g_29, a0g_30, a0g_31, a0g_32, a0g_33, a0g_34, a0g_35, a0g_36, a0g_37, a0g_38, a0g_39])), (a0_15, .inl (ka0_15, 156, .inl (fa0_15))), (a0_24, .inl (ka0_24, 3, .inl (fa0_24))), (a0_23, .inl (ka0_23, 3, .inl (fa0_23)))] H → va_D A [(a0, .inr (8, [a0g_0, a0g_1, a0g_2, a0g_3, a0g_4, a0g_5, a0g_6, a0g_7, a0g_8, a0g_9, a0g_10, a0g_11, a0g_12, a0g_13, a0g_14, Value.ref a0_15, a0g_16, a0g_17, a0g_18, a0g_19, a0g_20, a0g_21, a0g_22, Value.ref a0_23, Value.ref a0_24, Value.int a0_25, a0g_26, a0g_27, a0g_28, a0g_29, a0g_30, a0g_31, a0g_32, a0g_33, a0g_34, a0g_35, a0g_36, a0g_37, a0g_38, a0g_39])), (a0_15, .inl (ka0_15, 156, .inl (fa0_15))), (a0_24, .inl (ka0_24, 3, .inl (fa0_24))), (a0_23, .inl (ka0_23, 3, .inl (fa0_23)))] → va_S A s.heap H locs → lv_has ls 4 [(0, .ref a0), (1, .int a1), (2, .int a2), (3, .int j15l3)] → K H locs (F0 m 15 ls []) := by
      intro n
      induction n with
      | zero =>
        intro j15l3 H locs ls hm bj15l3_l bj15l3_u hP hD hS hl
        first | exact zg_0 hm bj15l3_u (by decide) | (have h8 := ai_min j15l3; have h9 := ai_max j15l3; exact absurd hm (by omega))
      | succ n ih15 =>
        intro j15l3 H locs ls hm bj15l3_l bj15l3_u hP hD hS hl
        refine (hK0 _ _ _).mpr ?_
        have hm15 := hm
        refine lv_iload_n hx hb dX8_isWatched_15 rfl (lv_at hl 3 rfl) ?_
        refine lv_aload_n hx hb dX8_isWatched_16 rfl (lv_at hl 0 rfl) ?_
        refine va_get (D := (dC, dI)) (ci := 8) (v := .ref a0_15) (C := RX8) (T := TX8) (N := 40) hx hb hts zi_X8_isWatched_8 hown hK hP 0 rfl rfl 15 (by decide) (hts (.fieldLink RX8 20 "WaxTurnsModel" "\x72" "[I") (List.mem_cons_of_mem _ (List.mem_append_left _ (List.mem_of_getElem? (i := 1) rfl)))) (fun _ h9 => h9) rfl dX8_isWatched_17 ?_
        refine lv_iconst (v := 5) hx hb dX8_isWatched_20 zk_iconst_5 ?_
        refine va_iald hx hb hK hP 1 0 rfl rfl (by unfold vp_in; decide +kernel) dX8_isWatched_21 ?_
        refine lv_topi (fun x21 ex21 => ?_)
        have bx21 : (0 : Int) ≤ x21.toInt ∧ x21.toInt ≤ 3 := by rw [ex21]; exact ai_rd bfa0_15.2.2.2.2.2.1 zq112 zq113 (by decide) (by decide) (by decide)
        refine lv_icmp_ge (tgt := 43) hx hb dX8_isWatched_22 (by decide) (fun c22 => ?_) (fun c22 => ?_)
        · have gc22 := ai_le c22
          have u22t_x21 : x21.toInt ≤ (3 : Int) := bx21.2
          have l22t_j15l3 : (0 : Int) ≤ j15l3.toInt := bj15l3_l
          refine lv_iconst (v := 0) hx hb dX8_isWatched_43 zk_iconst_0 ?_
          exact W.zret (v := 0) hx hb hr rfl (fun t ht hW => ⟨⟨0, (), rfl, (Or.inr (rfl)), by rw [ht]; exact hP, va_K.moved hW.alike hK, hD⟩, hS.F ht⟩) hS.2.2 dX8_isWatched_44
        · have gc22 := ai_nle c22
          have u22f_j15l3 : j15l3.toInt ≤ (2 : Int) := ai_lthi gc22 bx21.2
          have l22f_x21 : (1 : Int) ≤ x21.toInt := ai_ltlo gc22 bj15l3_l
          refine lv_aload_n hx hb dX8_isWatched_25 rfl (lv_at hl 0 rfl) ?_
          refine lv_iload_n hx hb dX8_isWatched_26 rfl (lv_at hl 3 rfl) ?_
          refine lv_iload_n hx hb dX8_isWatched_27 rfl (lv_at hl 2 rfl) ?_
          refine zc_cutc (wc := [(a0, .inr (8, [a0g_0, a0g_1, a0g_2, a0g_3, a0g_4, a0g_5, a0g_6, a0g_7, a0g_8, a0g_9, a0g_10, a0g_11, a0g_12, a0g_13, a0g_14, Value.ref a0_15, a0g_16, a0g_17, a0g_18, a0g_19, a0g_20, a0g_21, a0g_22, Value.ref a0_23, Value.ref a0_24, Value.int a0_25, a0g_26, a0g_27, a0g_28, a0g_29, a0g_30, a0g_31, a0g_32, a0g_33, a0g_34, a0g_35, a0g_36, a0g_37, a0g_38, a0g_39])), (a0_24, .inl (ka0_24, 3, .inl (fa0_24))), (a0_23, .inl (ka0_23, 3, .inl (fa0_23)))]) hP hD hS hA [0, 2, 3] (by decide +kernel) rfl (fun hPc hDc hFc hCc => ?_)
          have hKc := hK.sub (tys' := [(ka0_24, .int), (ka0_23, .int)]) [1, 2] rfl
          refine va_calli (va_runV (As := [.int j15l3, .int a2]) (rest := []) ⟨hx, hb, hml, hown, hts⟩ (c_X8_watcherAt l dC dI H.size a0 j15l3 a2 a0g_0 a0g_1 a0g_2 a0g_3 a0g_4 a0g_5 a0g_6 a0g_7 a0g_8 a0g_9 a0g_10 a0g_11 a0g_12 a0g_13 a0g_14 (Value.ref a0_15) a0g_16 a0g_17 a0g_18 a0g_19 a0g_20 a0g_21 a0g_22 (Value.int a0_25) a0g_26 a0g_27 a0g_28 a0g_29 a0g_30 a0g_31 a0g_32 a0g_33 a0g_34 a0g_35 a0g_36 a0g_37 a0g_38 a0g_39 a0_23 a0_24 ka0_24 fa0_24 ka0_23 fa0_23 bj15l3_l u22f_j15l3 bfa0_24 bfa0_23) (cwV 2 hts gX8_isWatched_X8_watcherAt rfl rfl rfl zd_X8_watcherAt ⟨Nat.le_of_ble_eq_true rfl, Nat.le_of_ble_eq_true rfl⟩) ⟨ax_blind (fun _ _ _ _ _ => trivial), zr_8 hKc hPc (q0 := 0) rfl, ax_pre hPc hKc hDc (fun _ _ => trivial)⟩ rfl rfl hl.1 rfl (lv_room (Nat.le_of_ble_eq_true rfl)) dX8_isWatched_28 ⟨Nat.le_of_ble_eq_true rfl, Nat.le_of_ble_eq_true rfl⟩) hS (fun q _ h => hFc q h) hFc (fun r28 u t H locs ht hvm hw hB hz1 hk1 hS1 => zo hB ht hS1 (fun hP1 hK1 hD1 hS => ?_))
          refine zc_backc (w := [(a0, .inr (8, [a0g_0, a0g_1, a0g_2, a0g_3, a0g_4, a0g_5, a0g_6, a0g_7, a0g_8, a0g_9, a0g_10, a0g_11, a0g_12, a0g_13, a0g_14, Value.ref a0_15, a0g_16, a0g_17, a0g_18, a0g_19, a0g_20, a0g_21, a0g_22, Value.ref a0_23, Value.ref a0_24, Value.int a0_25, a0g_26, a0g_27, a0g_28, a0g_29, a0g_30, a0g_31, a0g_32, a0g_33, a0g_34, a0g_35, a0g_36, a0g_37, a0g_38, a0g_39])), (a0_15, .inl (ka0_15, 156, .inl (fa0_15))), (a0_24, .inl (ka0_24, 3, .inl (fa0_24))), (a0_23, .inl (ka0_23, 3, .inl (fa0_23)))]) hP hD hCc hk1 hFc hP1 hD1 [.inr 0, .inl 1, .inr 1, .inr 2] (by decide +kernel) rfl (fun hP hD => ?_)
          refine lv_iload_n hx hb dX8_isWatched_31 rfl (lv_at hl 1 rfl) ?_
          refine lv_icmp_ne (tgt := 37) hx hb dX8_isWatched_32 (by decide) (fun c32 => ?_) (fun c32 => ?_)
          · have gc32 := ai_ne c32
            obtain ⟨x37, ex37⟩ : ∃ y : Int32, y = j15l3 + Int32.ofInt 1 := ⟨_, rfl⟩
            have qx37 : x37.toInt = j15l3.toInt + 1 := ai_inc ex37 (by decide) (by decide) u22f_j15l3 (by decide)
            have bx37 : (1 : Int) ≤ x37.toInt ∧ x37.toInt ≤ 3 := ⟨by rw [qx37]; exact Int.add_le_add bj15l3_l (Int.le_refl _), by rw [qx37]; exact Int.add_le_add u22f_j15l3 (Int.le_refl _)⟩
            refine lv_iinc (v := x37) (lv' := [(3, .int x37), (0, .ref a0), (1, .int a1), (2, .int a2)]) hx hb dX8_isWatched_37 hl (k := 3) rfl ex37.symm (by decide) rfl (fun ls hl => ?_)
            refine lv_goto (tgt := 15) hx hb dX8_isWatched_40 (by decide) ?_
            exact (hK0 _ _ _).mp (ih15 x37 _ _ _ (by first | exact zg_s hm15 qx37 | (have h0 := qx37; omega)) (Int.le_trans zq4 bx37.1) bx37.2 hP hD hS (lv_sub hl [1, 2, 3, 0] rfl))
          · have gc32 := ai_eq c32
            refine lv_iconst (v := 1) hx hb dX8_isWatched_35 zk_iconst_1 ?_
            exact W.zret (v := 1) hx hb hr rfl (fun t ht hW => ⟨⟨1, (), rfl, (Or.inl (rfl)), by rw [ht]; exact hP, va_K.moved hW.alike hK, hD⟩, hS.F ht⟩) hS.2.2 dX8_isWatched_36
    exact (hK0 _ _ _).mp (J15 4 0 _ _ _ (by first | decide +kernel | (have h1 : (0 : Int) ≤ (0 : Int32).toInt := zq5; have h2 : (0 : Int32).toInt ≤ (0 : Int) := zq6; omega)) zq5 (Int.le_trans zq6 zq11) hP hD hS (lv_sub hl [1, 2, 3, 0] rfl))

set_option maxHeartbeats 4000000 in
set_option maxRecDepth 100000 in
theorem c_X8_nextOf (l : Launch) (dC : Nat → ClassId) (dI : Nat → Nat → Nat) (sz : Nat) (a0 : Nat) (a1 : Int32) (a0g_0 a0g_1 a0g_2 a0g_3 a0g_4 a0g_5 a0g_6 a0g_7 a0g_8 a0g_9 a0g_10 a0g_11 a0g_12 a0g_13 a0g_14 a0g_16 a0g_17 a0g_18 a0g_19 a0g_20 a0g_21 a0g_22 a0g_23 a0g_24 a0g_25 a0g_26 a0g_27 a0g_28 a0g_29 a0g_30 a0g_31 a0g_32 a0g_33 a0g_34 a0g_35 a0g_36 a0g_37 a0g_38 a0g_39 : Value) (a0_15 : Nat) (ka0_15 : ClassId) (fa0_15 : Nat → Int32) (ba1_l : (0 : Int) ≤ a1.toInt) (ba1_u : a1.toInt ≤ (8 : Int)) (bfa0_15 : ((∀ k : Nat, 0 ≤ k → k ≤ 0 → (2 : Int) ≤ (fa0_15 k).toInt ∧ (fa0_15 k).toInt ≤ 9) ∧ (∀ k : Nat, 1 ≤ k → k ≤ 1 → (1 : Int) ≤ (fa0_15 k).toInt ∧ (fa0_15 k).toInt ≤ 20) ∧ (∀ k : Nat, 2 ≤ k → k ≤ 2 → (0 : Int) ≤ (fa0_15 k).toInt ∧ (fa0_15 k).toInt ≤ 8) ∧ (∀ k : Nat, 3 ≤ k → k ≤ 3 → (0 : Int) ≤ (fa0_15 k).toInt ∧ (fa0_15 k).toInt ≤ 100) ∧ (∀ k : Nat, 4 ≤ k → k ≤ 4 → (0 : Int) ≤ (fa0_15 k).toInt ∧ (fa0_15 k).toInt ≤ 9) ∧ (∀ k : Nat, 5 ≤ k → k ≤ 5 → (0 : Int) ≤ (fa0_15 k).toInt ∧ (fa0_15 k).toInt ≤ 3) ∧ (∀ k : Nat, 6 ≤ k → k ≤ 6 → (0 : Int) ≤ (fa0_15 k).toInt ∧ (fa0_15 k).toInt ≤ 6) ∧ (∀ k : Nat, 7 ≤ k → k ≤ 9 → (0 : Int) ≤ (fa0_15 k).toInt ∧ (fa0_15 k).toInt ≤ 8) ∧ (∀ k : Nat, 12 ≤ k → k ≤ 29 → (0 : Int) ≤ (fa0_15 k).toInt ∧ (fa0_15 k).toInt ≤ 20) ∧ (∀ k : Nat, 30 ≤ k → k ≤ 35 → (0 : Int) ≤ (fa0_15 k).toInt ∧ (fa0_15 k).toInt ≤ 8) ∧ (∀ k : Nat, 36 ≤ k → k ≤ 47 → (0 : Int) ≤ (fa0_15 k).toInt ∧ (fa0_15 k).toInt ≤ 999))) : zm l yX8_nextOf wsX8_nextOf ({ frames := 0, cells := 0, slots := 0, locals := 0 }) [.ref a0, .int a1] dC dI sz [(a0, .inr (8, [a0g_0, a0g_1, a0g_2, a0g_3, a0g_4, a0g_5, a0g_6, a0g_7, a0g_8, a0g_9, a0g_10, a0g_11, a0g_12, a0g_13, a0g_14, Value.ref a0_15, a0g_16, a0g_17, a0g_18, a0g_19, a0g_20, a0g_21, a0g_22, a0g_23, a0g_24, a0g_25, a0g_26, a0g_27, a0g_28, a0g_29, a0g_30, a0g_31, a0g_32, a0g_33, a0g_34, a0g_35, a0g_36, a0g_37, a0g_38, a0g_39])), (a0_15, .inl (ka0_15, 156, .inl (fa0_15)))] [(ka0_15, .int)] (fun A _ => True) (fun A => va_Qi (fun (r : Int32) (_ : Unit) => (0 : Int) ≤ r.toInt ∧ r.toInt ≤ (8 : Int)) (fun (_ : Unit) (t : State) => ax_B dC dI A [(a0, .inr (8, [a0g_0, a0g_1, a0g_2, a0g_3, a0g_4, a0g_5, a0g_6, a0g_7, a0g_8, a0g_9, a0g_10, a0g_11, a0g_12, a0g_13, a0g_14, Value.ref a0_15, a0g_16, a0g_17, a0g_18, a0g_19, a0g_20, a0g_21, a0g_22, a0g_23, a0g_24, a0g_25, a0g_26, a0g_27, a0g_28, a0g_29, a0g_30, a0g_31, a0g_32, a0g_33, a0g_34, a0g_35, a0g_36, a0g_37, a0g_38, a0g_39])), (a0_15, .inl (ka0_15, 156, .inl (fa0_15)))] [(ka0_15, .int)] t) A) := by
  refine zh (cc := cX8_nextOf) (maxL := 2) (ret := (some .int)) zn_RX8 rfl (Nat.le_of_ble_eq_true rfl) (fun p e s m below meth c A ls hx hb hml hr hts (hown : s.vm.findClass RX8 = some m.cls) hlocks hA hS hP hK hD hE (hl : lv_has ls 2 [(0, .ref a0), (1, .int a1)]) => ?_)
  refine lv_aload_n hx hb dX8_nextOf_0 rfl (lv_at hl 0 rfl) ?_
  refine va_get (D := (dC, dI)) (ci := 8) (v := .ref a0_15) (C := RX8) (T := TX8) (N := 40) hx hb hts zi_X8_nextOf_8 hown hK hP 0 rfl rfl 15 (by decide) (hts (.fieldLink RX8 20 "WaxTurnsModel" "\x72" "[I") (List.mem_cons_of_mem _ (List.mem_append_left _ (List.mem_of_getElem? (i := 0) rfl)))) (fun _ h9 => h9) rfl dX8_nextOf_1 ?_
  refine lv_bipush (v := 7) hx hb dX8_nextOf_4 zk_bipush_7 ?_
  refine va_iald hx hb hK hP 1 0 rfl rfl (by unfold vp_in; decide +kernel) dX8_nextOf_6 ?_
  refine lv_topi (fun x6 ex6 => ?_)
  have bx6 : (0 : Int) ≤ x6.toInt ∧ x6.toInt ≤ 8 := by rw [ex6]; exact ai_rd bfa0_15.2.2.2.2.2.2.2.1 zq114 zq115 (by decide) (by decide) (by decide)
  refine lv_iload_n hx hb dX8_nextOf_7 rfl (lv_at hl 1 rfl) ?_
  refine lv_imul hx hb dX8_nextOf_8 ?_
  refine lv_topi (fun x8 ex8 => ?_)
  have qx8 : x8.toInt = x6.toInt * a1.toInt ∧ (0 : Int) ≤ x8.toInt ∧ x8.toInt ≤ 64 := ai_mul ex8 ⟨bx6.1, bx6.2⟩ ⟨ba1_l, ba1_u⟩ (by decide) (by decide) zq18
  refine lv_aload_n hx hb dX8_nextOf_9 rfl (lv_at hl 0 rfl) ?_
  refine va_get (D := (dC, dI)) (ci := 8) (v := .ref a0_15) (C := RX8) (T := TX8) (N := 40) hx hb hts zi_X8_nextOf_8 hown hK hP 0 rfl rfl 15 (by decide) (hts (.fieldLink RX8 20 "WaxTurnsModel" "\x72" "[I") (List.mem_cons_of_mem _ (List.mem_append_left _ (List.mem_of_getElem? (i := 0) rfl)))) (fun _ h9 => h9) rfl dX8_nextOf_10 ?_
  refine lv_bipush (v := 8) hx hb dX8_nextOf_13 zk_bipush_8 ?_
  refine va_iald hx hb hK hP 1 0 rfl rfl (by unfold vp_in; decide +kernel) dX8_nextOf_15 ?_
  refine lv_topi (fun x15 ex15 => ?_)
  have bx15 : (0 : Int) ≤ x15.toInt ∧ x15.toInt ≤ 8 := by rw [ex15]; exact ai_rd bfa0_15.2.2.2.2.2.2.2.1 zq116 zq28 (by decide) (by decide) (by decide)
  refine lv_iadd hx hb dX8_nextOf_16 ?_
  refine lv_topi (fun x16 ex16 => ?_)
  have qx16 : x16.toInt = x8.toInt + x15.toInt := ai_add ex16 ⟨qx8.2.1, qx8.2.2⟩ ⟨bx15.1, bx15.2⟩ (by decide) (by decide)
  have bx16 : (0 : Int) ≤ x16.toInt ∧ x16.toInt ≤ 72 := ⟨by rw [qx16]; exact Int.add_le_add qx8.2.1 bx15.1, by rw [qx16]; exact Int.add_le_add qx8.2.2 bx15.2⟩
  refine lv_aload_n hx hb dX8_nextOf_17 rfl (lv_at hl 0 rfl) ?_
  refine va_get (D := (dC, dI)) (ci := 8) (v := .ref a0_15) (C := RX8) (T := TX8) (N := 40) hx hb hts zi_X8_nextOf_8 hown hK hP 0 rfl rfl 15 (by decide) (hts (.fieldLink RX8 20 "WaxTurnsModel" "\x72" "[I") (List.mem_cons_of_mem _ (List.mem_append_left _ (List.mem_of_getElem? (i := 0) rfl)))) (fun _ h9 => h9) rfl dX8_nextOf_18 ?_
  refine lv_iconst (v := 0) hx hb dX8_nextOf_21 zk_iconst_0 ?_
  refine va_iald hx hb hK hP 1 0 rfl rfl (by unfold vp_in; decide +kernel) dX8_nextOf_22 ?_
  refine lv_topi (fun x22 ex22 => ?_)
  have bx22 : (2 : Int) ≤ x22.toInt ∧ x22.toInt ≤ 9 := by rw [ex22]; exact ai_rd bfa0_15.1 zq5 zq6 (by decide) (by decide) (by decide)
  refine lv_irem hx hb dX8_nextOf_23 (ai_nz bx22.1 (by decide)) ?_
  refine lv_topi (fun x23 ex23 => ?_)
  have qx23 := ai_rem2 ex23 bx16.1 (Int.lt_of_lt_of_le zq100 bx22.1) bx22.2
  exact W.iret (v := x23) hx hb hr (fun t ht hW => ⟨⟨x23, (), rfl, ⟨qx23.2.1, qx23.2.2⟩, by rw [ht]; exact hP, va_K.moved hW.alike hK, hD⟩, hS.F ht⟩) hS.2.2 dX8_nextOf_24

set_option maxHeartbeats 4000000 in
set_option maxRecDepth 100000 in
theorem c_X8_walkOn (l : Launch) (dC : Nat → ClassId) (dI : Nat → Nat → Nat) (sz : Nat) (a0 : Nat) (a1 : Nat) (a2 : Int32) (a0g_0 a0g_1 a0g_2 a0g_3 a0g_4 a0g_5 a0g_6 a0g_7 a0g_8 a0g_9 a0g_10 a0g_11 a0g_12 a0g_13 a0g_14 a0g_16 a0g_17 a0g_18 a0g_19 a0g_20 a0g_21 a0g_22 a0g_26 a0g_27 a0g_28 a0g_29 a0g_30 a0g_31 a0g_32 a0g_33 a0g_34 a0g_35 a0g_36 a0g_37 a0g_38 a0g_39 : Value) (a0_15 : Nat) (a0_23 : Nat) (a0_24 : Nat) (a0_25 : Int32) (ka1 : ClassId) (fa1 : Nat → Int32) (ka0_15 : ClassId) (fa0_15 : Nat → Int32) (ka0_24 : ClassId) (fa0_24 : Nat → Int32) (ka0_23 : ClassId) (fa0_23 : Nat → Int32) (ba2_l : (0 : Int) ≤ a2.toInt) (ba2_u : a2.toInt ≤ (8 : Int)) (bfa1 : ((∀ k : Nat, 0 ≤ k → k ≤ 8 → (0 : Int) ≤ (fa1 k).toInt ∧ (fa1 k).toInt ≤ 8) ∧ (∀ k : Nat, 19 ≤ k → k ≤ 19 → (0 : Int) ≤ (fa1 k).toInt ∧ (fa1 k).toInt ≤ 8) ∧ (∀ k : Nat, 20 ≤ k → k ≤ 20 → (0 : Int) ≤ (fa1 k).toInt ∧ (fa1 k).toInt ≤ 19))) (bfa0_15 : ((∀ k : Nat, 0 ≤ k → k ≤ 0 → (2 : Int) ≤ (fa0_15 k).toInt ∧ (fa0_15 k).toInt ≤ 9) ∧ (∀ k : Nat, 1 ≤ k → k ≤ 1 → (1 : Int) ≤ (fa0_15 k).toInt ∧ (fa0_15 k).toInt ≤ 20) ∧ (∀ k : Nat, 2 ≤ k → k ≤ 2 → (0 : Int) ≤ (fa0_15 k).toInt ∧ (fa0_15 k).toInt ≤ 8) ∧ (∀ k : Nat, 3 ≤ k → k ≤ 3 → (0 : Int) ≤ (fa0_15 k).toInt ∧ (fa0_15 k).toInt ≤ 100) ∧ (∀ k : Nat, 4 ≤ k → k ≤ 4 → (0 : Int) ≤ (fa0_15 k).toInt ∧ (fa0_15 k).toInt ≤ 9) ∧ (∀ k : Nat, 5 ≤ k → k ≤ 5 → (0 : Int) ≤ (fa0_15 k).toInt ∧ (fa0_15 k).toInt ≤ 3) ∧ (∀ k : Nat, 6 ≤ k → k ≤ 6 → (0 : Int) ≤ (fa0_15 k).toInt ∧ (fa0_15 k).toInt ≤ 6) ∧ (∀ k : Nat, 7 ≤ k → k ≤ 9 → (0 : Int) ≤ (fa0_15 k).toInt ∧ (fa0_15 k).toInt ≤ 8) ∧ (∀ k : Nat, 12 ≤ k → k ≤ 29 → (0 : Int) ≤ (fa0_15 k).toInt ∧ (fa0_15 k).toInt ≤ 20) ∧ (∀ k : Nat, 30 ≤ k → k ≤ 35 → (0 : Int) ≤ (fa0_15 k).toInt ∧ (fa0_15 k).toInt ≤ 8) ∧ (∀ k : Nat, 36 ≤ k → k ≤ 47 → (0 : Int) ≤ (fa0_15 k).toInt ∧ (fa0_15 k).toInt ≤ 999))) (bfa0_24 : (∀ k, (0 : Int) ≤ (fa0_24 k).toInt ∧ (fa0_24 k).toInt ≤ 80)) (bfa0_23 : (∀ k, (0 : Int) ≤ (fa0_23 k).toInt ∧ (fa0_23 k).toInt ≤ 80)) (hkm : ∀ i : Int32, i.toInt = 13 + 2 * a2.toInt → (1 : Int) ≤ (fa0_15 i.toNatClampNeg).toInt) : zm l yX8_walkOn wsX8_walkOn ({ frames := 2, cells := 0, slots := 0, locals := 48 }) [.ref a0, .ref a1, .int a2] dC dI sz [(a0, .inr (8, [a0g_0, a0g_1, a0g_2, a0g_3, a0g_4, a0g_5, a0g_6, a0g_7, a0g_8, a0g_9, a0g_10, a0g_11, a0g_12, a0g_13, a0g_14, Value.ref a0_15, a0g_16, a0g_17, a0g_18, a0g_19, a0g_20, a0g_21, a0g_22, Value.ref a0_23, Value.ref a0_24, Value.int a0_25, a0g_26, a0g_27, a0g_28, a0g_29, a0g_30, a0g_31, a0g_32, a0g_33, a0g_34, a0g_35, a0g_36, a0g_37, a0g_38, a0g_39])), (a1, .inl (ka1, 23, .inl (fa1))), (a0_15, .inl (ka0_15, 156, .inl (fa0_15))), (a0_24, .inl (ka0_24, 3, .inl (fa0_24))), (a0_23, .inl (ka0_23, 3, .inl (fa0_23)))] [(ka1, .int), (ka0_15, .int), (ka0_24, .int), (ka0_23, .int)] (fun A _ => True) (fun A => va_Qv (fun (_ : Unit) => True) (fun (_ : Unit) (t : State) => ∃ nfa1 : Nat → Int32, ((∀ k : Nat, 0 ≤ k → k ≤ 8 → (0 : Int) ≤ (nfa1 k).toInt ∧ (nfa1 k).toInt ≤ 8) ∧ (∀ k : Nat, 19 ≤ k → k ≤ 19 → (0 : Int) ≤ (nfa1 k).toInt ∧ (nfa1 k).toInt ≤ 8) ∧ (∀ k : Nat, 20 ≤ k → k ≤ 20 → (0 : Int) ≤ (nfa1 k).toInt ∧ (nfa1 k).toInt ≤ 19)) ∧ ax_B dC dI A [(a0, .inr (8, [a0g_0, a0g_1, a0g_2, a0g_3, a0g_4, a0g_5, a0g_6, a0g_7, a0g_8, a0g_9, a0g_10, a0g_11, a0g_12, a0g_13, a0g_14, Value.ref a0_15, a0g_16, a0g_17, a0g_18, a0g_19, a0g_20, a0g_21, a0g_22, Value.ref a0_23, Value.ref a0_24, Value.int a0_25, a0g_26, a0g_27, a0g_28, a0g_29, a0g_30, a0g_31, a0g_32, a0g_33, a0g_34, a0g_35, a0g_36, a0g_37, a0g_38, a0g_39])), (a1, .inl (ka1, 23, .inl (nfa1))), (a0_15, .inl (ka0_15, 156, .inl (fa0_15))), (a0_24, .inl (ka0_24, 3, .inl (fa0_24))), (a0_23, .inl (ka0_23, 3, .inl (fa0_23)))] [(ka1, .int), (ka0_15, .int), (ka0_24, .int), (ka0_23, .int)] t) A) := by
  refine zh (cc := cX8_walkOn) (maxL := 3) (ret := none) zn_RX8 rfl (Nat.le_of_ble_eq_true rfl) (fun p e s m below meth c A ls hx hb hml hr hts (hown : s.vm.findClass RX8 = some m.cls) hlocks hA hS hP hK hD hE (hl : lv_has ls 3 [(0, .ref a0), (1, .ref a1), (2, .int a2)]) => ?_)
  refine lv_aload_n hx hb dX8_walkOn_0 rfl (lv_at hl 1 rfl) ?_
  refine lv_bipush (v := 20) hx hb dX8_walkOn_1 zk_bipush_20 ?_
  refine va_iald hx hb hK hP 1 0 rfl rfl (by unfold vp_in; decide +kernel) dX8_walkOn_3 ?_
  refine lv_topi (fun x3 ex3 => ?_)
  have bx3 : (0 : Int) ≤ x3.toInt ∧ x3.toInt ≤ 19 := by rw [ex3]; exact ai_rd bfa1.2.2 zq153 zq154 (by decide) (by decide) (by decide)
  refine lv_iconst (v := 1) hx hb dX8_walkOn_4 zk_iconst_1 ?_
  refine lv_iadd hx hb dX8_walkOn_5 ?_
  refine lv_topi (fun x5 ex5 => ?_)
  have qx5 : x5.toInt = x3.toInt + (1 : Int32).toInt := ai_add ex5 ⟨bx3.1, bx3.2⟩ ⟨zq1, zq0⟩ (by decide) (by decide)
  have bx5 : (1 : Int) ≤ x5.toInt ∧ x5.toInt ≤ 20 := ⟨by rw [qx5]; exact Int.add_le_add bx3.1 zq1, by rw [qx5]; exact Int.add_le_add bx3.2 zq0⟩
  have wx5 : x5.toInt = x3.toInt + 1 := qx5
  refine lv_aload_n hx hb dX8_walkOn_6 rfl (lv_at hl 0 rfl) ?_
  refine va_get (D := (dC, dI)) (ci := 8) (v := .ref a0_15) (C := RX8) (T := TX8) (N := 40) hx hb hts zi_X8_walkOn_8 hown hK hP 0 rfl rfl 15 (by decide) (hts (.fieldLink RX8 20 "WaxTurnsModel" "\x72" "[I") (List.mem_cons_of_mem _ (List.mem_append_left _ (List.mem_of_getElem? (i := 0) rfl)))) (fun _ h9 => h9) rfl dX8_walkOn_7 ?_
  refine lv_bipush (v := 12) hx hb dX8_walkOn_10 zk_bipush_12 ?_
  refine lv_iconst (v := 2) hx hb dX8_walkOn_12 zk_iconst_2 ?_
  refine lv_iload_n hx hb dX8_walkOn_13 rfl (lv_at hl 2 rfl) ?_
  refine lv_imul hx hb dX8_walkOn_14 ?_
  refine lv_topi (fun x14 ex14 => ?_)
  have qx14 : x14.toInt = (2 : Int32).toInt * a2.toInt ∧ (0 : Int) ≤ x14.toInt ∧ x14.toInt ≤ 16 := ai_mul ex14 ⟨zq12, zq13⟩ ⟨ba2_l, ba2_u⟩ (by decide) (by decide) zq155
  have wx14 : x14.toInt = 2 * a2.toInt := qx14.1
  refine lv_iadd hx hb dX8_walkOn_15 ?_
  refine lv_topi (fun x15 ex15 => ?_)
  have qx15 : x15.toInt = (12 : Int32).toInt + x14.toInt := ai_add ex15 ⟨zq119, zq120⟩ ⟨qx14.2.1, qx14.2.2⟩ (by decide) (by decide)
  have bx15 : (12 : Int) ≤ x15.toInt ∧ x15.toInt ≤ 28 := ⟨by rw [qx15]; exact Int.add_le_add zq119 qx14.2.1, by rw [qx15]; exact Int.add_le_add zq120 qx14.2.2⟩
  have wx15 : x15.toInt = 12 + x14.toInt := qx15
  refine lv_iconst (v := 1) hx hb dX8_walkOn_16 zk_iconst_1 ?_
  refine lv_iadd hx hb dX8_walkOn_17 ?_
  refine lv_topi (fun x17 ex17 => ?_)
  have qx17 : x17.toInt = x15.toInt + (1 : Int32).toInt := ai_add ex17 ⟨bx15.1, bx15.2⟩ ⟨zq1, zq0⟩ (by decide) (by decide)
  have bx17 : (13 : Int) ≤ x17.toInt ∧ x17.toInt ≤ 29 := ⟨by rw [qx17]; exact Int.add_le_add bx15.1 zq1, by rw [qx17]; exact Int.add_le_add bx15.2 zq0⟩
  have wx17 : x17.toInt = x15.toInt + 1 := qx17
  refine va_iald hx hb hK hP 2 1 rfl rfl (ai_in bx17.1 bx17.2 (by decide) (by decide)) dX8_walkOn_18 ?_
  refine lv_topi (fun x18 ex18 => ?_)
  have bx18 : (0 : Int) ≤ x18.toInt ∧ x18.toInt ≤ 20 := by rw [ex18]; exact ai_rd bfa0_15.2.2.2.2.2.2.2.2.1 bx17.1 bx17.2 (by decide) (by decide) (by decide)
  have l18z_x18 : (1 : Int) ≤ x18.toInt := by rw [ex18]; exact hkm x17 (by omega)
  refine lv_irem hx hb dX8_walkOn_19 (ai_nz l18z_x18 (by decide)) ?_
  refine lv_topi (fun x19 ex19 => ?_)
  have qx19 := ai_rem2 ex19 (Int.le_trans zq4 bx5.1) (Int.lt_of_lt_of_le zq19 l18z_x18) bx18.2
  refine lv_if_eq (tgt := 24) hx hb dX8_walkOn_20 (by decide) (fun c20 => ?_) (fun c20 => ?_)
  · have gc20 := ai_eq c20
    have u20t_x19 : x19.toInt ≤ (0 : Int) := Int.le_trans (Int.le_of_eq gc20) zq6
    have l20t_x19 : (0 : Int) ≤ x19.toInt := qx19.2.1
    refine lv_aload_n hx hb dX8_walkOn_24 rfl (lv_at hl 1 rfl) ?_
    refine lv_iload_n hx hb dX8_walkOn_25 rfl (lv_at hl 2 rfl) ?_
    refine lv_dup2_11 hx hb dX8_walkOn_26 rfl rfl ?_
    refine va_iald hx hb hK hP 1 0 rfl rfl (ai_in ba2_l ba2_u (by decide) (by decide)) dX8_walkOn_27 ?_
    refine lv_topi (fun x27 ex27 => ?_)
    have bx27 : (0 : Int) ≤ x27.toInt ∧ x27.toInt ≤ 8 := by rw [ex27]; exact ai_rd bfa1.1 ba2_l ba2_u (by decide) (by decide) (by decide)
    refine lv_aload_n hx hb dX8_walkOn_28 rfl (lv_at hl 1 rfl) ?_
    refine lv_iload_n hx hb dX8_walkOn_29 rfl (lv_at hl 2 rfl) ?_
    refine va_iald hx hb hK hP 1 0 rfl rfl (ai_in ba2_l ba2_u (by decide) (by decide)) dX8_walkOn_30 ?_
    refine ax_ti x27 ex27.symm ?_
    refine lv_aload_n hx hb dX8_walkOn_31 rfl (lv_at hl 0 rfl) ?_
    refine va_get (D := (dC, dI)) (ci := 8) (v := .ref a0_15) (C := RX8) (T := TX8) (N := 40) hx hb hts zi_X8_walkOn_8 hown hK hP 0 rfl rfl 15 (by decide) (hts (.fieldLink RX8 20 "WaxTurnsModel" "\x72" "[I") (List.mem_cons_of_mem _ (List.mem_append_left _ (List.mem_of_getElem? (i := 0) rfl)))) (fun _ h9 => h9) rfl dX8_walkOn_32 ?_
    refine lv_iconst (v := 2) hx hb dX8_walkOn_35 zk_iconst_2 ?_
    refine va_iald hx hb hK hP 2 1 rfl rfl (by unfold vp_in; decide +kernel) dX8_walkOn_36 ?_
    refine lv_topi (fun x36 ex36 => ?_)
    have bx36 : (0 : Int) ≤ x36.toInt ∧ x36.toInt ≤ 8 := by rw [ex36]; exact ai_rd bfa0_15.2.2.1 zq12 zq13 (by decide) (by decide) (by decide)
    refine lv_icmp_ge (tgt := 44) hx hb dX8_walkOn_37 (by decide) (fun c37 => ?_) (fun c37 => ?_)
    · have gc37 := ai_le c37
      have u37t_x36 : x36.toInt ≤ (8 : Int) := bx36.2
      have l37t_x27 : (0 : Int) ≤ x27.toInt := bx27.1
      refine lv_aload_n hx hb dX8_walkOn_44 rfl (lv_at hl 1 rfl) ?_
      refine lv_iload_n hx hb dX8_walkOn_45 rfl (lv_at hl 2 rfl) ?_
      refine va_iald hx hb hK hP 1 0 rfl rfl (ai_in ba2_l ba2_u (by decide) (by decide)) dX8_walkOn_46 ?_
      refine ax_ti x27 ex27.symm ?_
      refine lv_aload_n hx hb dX8_walkOn_47 rfl (lv_at hl 0 rfl) ?_
      refine va_get (D := (dC, dI)) (ci := 8) (v := .ref a0_15) (C := RX8) (T := TX8) (N := 40) hx hb hts zi_X8_walkOn_8 hown hK hP 0 rfl rfl 15 (by decide) (hts (.fieldLink RX8 20 "WaxTurnsModel" "\x72" "[I") (List.mem_cons_of_mem _ (List.mem_append_left _ (List.mem_of_getElem? (i := 0) rfl)))) (fun _ h9 => h9) rfl dX8_walkOn_48 ?_
      refine lv_iconst (v := 2) hx hb dX8_walkOn_51 zk_iconst_2 ?_
      refine va_iald hx hb hK hP 2 1 rfl rfl (by unfold vp_in; decide +kernel) dX8_walkOn_52 ?_
      refine ax_ti x36 ex36.symm ?_
      refine lv_icmp_le (tgt := 60) hx hb dX8_walkOn_53 (by decide) (fun c53 => ?_) (fun c53 => ?_)
      · have gc53 := ai_le c53
        have u53t_x27 : x27.toInt ≤ (8 : Int) := bx27.2
        have l53t_x36 : (0 : Int) ≤ x36.toInt := bx36.1
        refine lv_iconst (v := 0) hx hb dX8_walkOn_60 zk_iconst_0 ?_
        refine lv_iadd hx hb dX8_walkOn_61 ?_
        refine lv_topi (fun x61 ex61 => ?_)
        have qx61 : x61.toInt = x27.toInt + (0 : Int32).toInt := ai_add ex61 ⟨l37t_x27, u53t_x27⟩ ⟨zq5, zq6⟩ (by decide) (by decide)
        have bx61 : (0 : Int) ≤ x61.toInt ∧ x61.toInt ≤ 8 := ⟨by rw [qx61]; exact Int.add_le_add l37t_x27 zq5, by rw [qx61]; exact Int.add_le_add u53t_x27 zq6⟩
        have wx61 : x61.toInt = x27.toInt + 0 := qx61
        refine va_iast hx hb hK hP hD hS 1 0 rfl rfl (ai_in ba2_l ba2_u (by decide) (by decide)) dX8_walkOn_62 (fun H locs hP hD hS => ?_)
        obtain ⟨f62, ef62⟩ : ∃ g9 : Nat → Int32, g9 = upd fa1 (a2 : Int32).toNatClampNeg x61 := ⟨_, rfl⟩
        refine zs_1 (y := (a1, .inl (ka1, 23, .inl (f62)))) hP hD (by rw [ef62]) (fun hP hD => ?_)
        have bf62 : ((∀ k : Nat, 0 ≤ k → k ≤ 8 → (0 : Int) ≤ (f62 k).toInt ∧ (f62 k).toInt ≤ 8) ∧ (∀ k : Nat, 19 ≤ k → k ≤ 19 → (0 : Int) ≤ (f62 k).toInt ∧ (f62 k).toInt ≤ 8) ∧ (∀ k : Nat, 20 ≤ k → k ≤ 20 → (0 : Int) ≤ (f62 k).toInt ∧ (f62 k).toInt ≤ 19)) := by rw [ef62]; exact ⟨ai_updS bfa1.1 _ ⟨bx61.1, bx61.2⟩, ai_updO bfa1.2.1 _ (Or.inl (ai_nlt_of ba2_l ba2_u (by decide) (by decide))), ai_updO bfa1.2.2 _ (Or.inl (ai_nlt_of ba2_l ba2_u (by decide) (by decide)))⟩
        refine lv_aload_n hx hb dX8_walkOn_63 rfl (lv_at hl 0 rfl) ?_
        refine lv_aload_n hx hb dX8_walkOn_64 rfl (lv_at hl 1 rfl) ?_
        refine lv_iload_n hx hb dX8_walkOn_65 rfl (lv_at hl 2 rfl) ?_
        refine va_iald hx hb hK hP 1 0 rfl rfl (ai_in ba2_l ba2_u (by decide) (by decide)) dX8_walkOn_66 ?_
        refine lv_topi (fun x66 ex66 => ?_)
        have bx66 : (0 : Int) ≤ x66.toInt ∧ x66.toInt ≤ 8 := by rw [ex66]; exact ai_rd bf62.1 ba2_l ba2_u (by decide) (by decide) (by decide)
        refine lv_aload_n hx hb dX8_walkOn_67 rfl (lv_at hl 1 rfl) ?_
        refine lv_bipush (v := 21) hx hb dX8_walkOn_68 zk_bipush_21 ?_
        refine va_iald hx hb hK hP 1 0 rfl rfl (by unfold vp_in; decide +kernel) dX8_walkOn_70 ?_
        refine lv_topi (fun x70 ex70 => ?_)
        refine zc_cutc (wc := [(a0, .inr (8, [a0g_0, a0g_1, a0g_2, a0g_3, a0g_4, a0g_5, a0g_6, a0g_7, a0g_8, a0g_9, a0g_10, a0g_11, a0g_12, a0g_13, a0g_14, Value.ref a0_15, a0g_16, a0g_17, a0g_18, a0g_19, a0g_20, a0g_21, a0g_22, Value.ref a0_23, Value.ref a0_24, Value.int a0_25, a0g_26, a0g_27, a0g_28, a0g_29, a0g_30, a0g_31, a0g_32, a0g_33, a0g_34, a0g_35, a0g_36, a0g_37, a0g_38, a0g_39])), (a0_15, .inl (ka0_15, 156, .inl (fa0_15))), (a0_24, .inl (ka0_24, 3, .inl (fa0_24))), (a0_23, .inl (ka0_23, 3, .inl (fa0_23)))]) hP hD hS hA [0, 2, 3, 4] (by decide +kernel) rfl (fun hPc hDc hFc hCc => ?_)
        have hKc := hK.sub (tys' := [(ka0_15, .int), (ka0_24, .int), (ka0_23, .int)]) [1, 2, 3] rfl
        refine va_calli (va_runV (As := [.int x66, .int x70]) (rest := []) ⟨hx, hb, hml, hown, hts⟩ (c_X8_isWatched l dC dI H.size a0 x66 x70 a0g_0 a0g_1 a0g_2 a0g_3 a0g_4 a0g_5 a0g_6 a0g_7 a0g_8 a0g_9 a0g_10 a0g_11 a0g_12 a0g_13 a0g_14 a0g_16 a0g_17 a0g_18 a0g_19 a0g_20 a0g_21 a0g_22 a0g_26 a0g_27 a0g_28 a0g_29 a0g_30 a0g_31 a0g_32 a0g_33 a0g_34 a0g_35 a0g_36 a0g_37 a0g_38 a0g_39 a0_15 a0_23 a0_24 a0_25 ka0_15 fa0_15 ka0_24 fa0_24 ka0_23 fa0_23 bfa0_15 bfa0_24 bfa0_23) (cwV 2 hts gX8_walkOn_X8_isWatched rfl rfl rfl zd_X8_isWatched ⟨Nat.le_of_ble_eq_true rfl, Nat.le_of_ble_eq_true rfl⟩) ⟨ax_blind (fun _ _ _ _ _ => trivial), zr_8 hKc hPc (q0 := 0) rfl, ax_pre hPc hKc hDc (fun _ _ => trivial)⟩ rfl rfl hl.1 rfl (lv_room (Nat.le_of_ble_eq_true rfl)) dX8_walkOn_71 ⟨Nat.le_of_ble_eq_true rfl, Nat.le_of_ble_eq_true rfl⟩) hS (fun q _ h => hFc q h) hFc (fun r71 u t H locs ht hvm hw hB hz1 hk1 hS1 => zo hB ht hS1 (fun hP1 hK1 hD1 hS => ?_))
        refine zc_backc (w := [(a0, .inr (8, [a0g_0, a0g_1, a0g_2, a0g_3, a0g_4, a0g_5, a0g_6, a0g_7, a0g_8, a0g_9, a0g_10, a0g_11, a0g_12, a0g_13, a0g_14, Value.ref a0_15, a0g_16, a0g_17, a0g_18, a0g_19, a0g_20, a0g_21, a0g_22, Value.ref a0_23, Value.ref a0_24, Value.int a0_25, a0g_26, a0g_27, a0g_28, a0g_29, a0g_30, a0g_31, a0g_32, a0g_33, a0g_34, a0g_35, a0g_36, a0g_37, a0g_38, a0g_39])), (a1, .inl (ka1, 23, .inl (f62))), (a0_15, .inl (ka0_15, 156, .inl (fa0_15))), (a0_24, .inl (ka0_24, 3, .inl (fa0_24))), (a0_23, .inl (ka0_23, 3, .inl (fa0_23)))]) hP hD hCc hk1 hFc hP1 hD1 [.inr 0, .inl 1, .inr 1, .inr 2, .inr 3] (by decide +kernel) rfl (fun hP hD => ?_)
        rcases hw with hw | hw
        · subst hw
          refine lv_if_eq (tgt := 92) hx hb dX8_walkOn_74 (by decide) (fun c74 => absurd c74 (by decide +kernel)) (fun _ => ?_)
          refine lv_aload_n hx hb dX8_walkOn_77 rfl (lv_at hl 1 rfl) ?_
          refine lv_iload_n hx hb dX8_walkOn_78 rfl (lv_at hl 2 rfl) ?_
          refine lv_iload_n hx hb dX8_walkOn_79 rfl (lv_at hl 2 rfl) ?_
          refine va_iast hx hb hK hP hD hS 1 0 rfl rfl (ai_in ba2_l ba2_u (by decide) (by decide)) dX8_walkOn_80 (fun H locs hP hD hS => ?_)
          obtain ⟨f80, ef80⟩ : ∃ g9 : Nat → Int32, g9 = upd f62 (a2 : Int32).toNatClampNeg a2 := ⟨_, rfl⟩
          refine zs_1 (y := (a1, .inl (ka1, 23, .inl (f80)))) hP hD (by rw [ef80]) (fun hP hD => ?_)
          have bf80 : ((∀ k : Nat, 0 ≤ k → k ≤ 8 → (0 : Int) ≤ (f80 k).toInt ∧ (f80 k).toInt ≤ 8) ∧ (∀ k : Nat, 19 ≤ k → k ≤ 19 → (0 : Int) ≤ (f80 k).toInt ∧ (f80 k).toInt ≤ 8) ∧ (∀ k : Nat, 20 ≤ k → k ≤ 20 → (0 : Int) ≤ (f80 k).toInt ∧ (f80 k).toInt ≤ 19)) := by rw [ef80]; exact ⟨ai_updS bf62.1 _ ⟨ba2_l, ba2_u⟩, ai_updO bf62.2.1 _ (Or.inl (ai_nlt_of ba2_l ba2_u (by decide) (by decide))), ai_updO bf62.2.2 _ (Or.inl (ai_nlt_of ba2_l ba2_u (by decide) (by decide)))⟩
          refine lv_aload_n hx hb dX8_walkOn_81 rfl (lv_at hl 1 rfl) ?_
          refine lv_bipush (v := 22) hx hb dX8_walkOn_82 zk_bipush_22 ?_
          refine lv_dup2_11 hx hb dX8_walkOn_84 rfl rfl ?_
          refine va_iald hx hb hK hP 1 0 rfl rfl (by unfold vp_in; decide +kernel) dX8_walkOn_85 ?_
          refine lv_topi (fun x85 ex85 => ?_)
          refine lv_iconst (v := 1) hx hb dX8_walkOn_86 zk_iconst_1 ?_
          refine lv_iadd hx hb dX8_walkOn_87 ?_
          refine lv_topi (fun x87 ex87 => ?_)
          refine va_iast hx hb hK hP hD hS 1 0 rfl rfl (by unfold vp_in; decide +kernel) dX8_walkOn_88 (fun H locs hP hD hS => ?_)
          obtain ⟨f88, ef88⟩ : ∃ g9 : Nat → Int32, g9 = upd f80 (22 : Int32).toNatClampNeg x87 := ⟨_, rfl⟩
          refine zs_1 (y := (a1, .inl (ka1, 23, .inl (f88)))) hP hD (by rw [ef88]) (fun hP hD => ?_)
          have bf88 : ((∀ k : Nat, 0 ≤ k → k ≤ 8 → (0 : Int) ≤ (f88 k).toInt ∧ (f88 k).toInt ≤ 8) ∧ (∀ k : Nat, 19 ≤ k → k ≤ 19 → (0 : Int) ≤ (f88 k).toInt ∧ (f88 k).toInt ≤ 8) ∧ (∀ k : Nat, 20 ≤ k → k ≤ 20 → (0 : Int) ≤ (f88 k).toInt ∧ (f88 k).toInt ≤ 19)) := by rw [ef88]; exact ⟨ai_updO bf80.1 _ (Or.inr (ai_ngt_of zq156 (by decide) (by decide))), ai_updO bf80.2.1 _ (Or.inr (ai_ngt_of zq156 (by decide) (by decide))), ai_updO bf80.2.2 _ (Or.inr (ai_ngt_of zq156 (by decide) (by decide)))⟩
          have kf88_22 : f88 22 = x87 := by rw [ef88]; exact ai_k1 (by decide +kernel)
          refine lv_goto (tgt := 114) hx hb dX8_walkOn_89 (by decide) ?_
          exact W.vret hx hb hr (fun t ht hW => ⟨⟨(), rfl, trivial, f88, bf88, by rw [ht]; exact hP, va_K.moved hW.alike hK, hD⟩, hS.F ht⟩) hS.2.2 dX8_walkOn_114
        · subst hw
          refine lv_if_eq (tgt := 92) hx hb dX8_walkOn_74 (by decide) (fun _ => ?_) (fun c74 => absurd (by decide +kernel) c74)
          refine lv_aload_n hx hb dX8_walkOn_92 rfl (lv_at hl 1 rfl) ?_
          refine lv_iload_n hx hb dX8_walkOn_93 rfl (lv_at hl 2 rfl) ?_
          refine va_iald hx hb hK hP 1 0 rfl rfl (ai_in ba2_l ba2_u (by decide) (by decide)) dX8_walkOn_94 ?_
          refine ax_ti x66 ex66.symm ?_
          refine lv_aload_n hx hb dX8_walkOn_95 rfl (lv_at hl 0 rfl) ?_
          refine va_get (D := (dC, dI)) (ci := 8) (v := .ref a0_15) (C := RX8) (T := TX8) (N := 40) hx hb hts zi_X8_walkOn_8 hown hK hP 0 rfl rfl 15 (by decide) (hts (.fieldLink RX8 20 "WaxTurnsModel" "\x72" "[I") (List.mem_cons_of_mem _ (List.mem_append_left _ (List.mem_of_getElem? (i := 0) rfl)))) (fun _ h9 => h9) rfl dX8_walkOn_96 ?_
          refine lv_iconst (v := 2) hx hb dX8_walkOn_99 zk_iconst_2 ?_
          refine va_iald hx hb hK hP 2 1 rfl rfl (by unfold vp_in; decide +kernel) dX8_walkOn_100 ?_
          refine ax_ti x36 ex36.symm ?_
          refine lv_icmp_ne (tgt := 114) hx hb dX8_walkOn_101 (by decide) (fun c101 => ?_) (fun c101 => ?_)
          · have gc101 := ai_ne c101
            exact W.vret hx hb hr (fun t ht hW => ⟨⟨(), rfl, trivial, f62, bf62, by rw [ht]; exact hP, va_K.moved hW.alike hK, hD⟩, hS.F ht⟩) hS.2.2 dX8_walkOn_114
          · have gc101 := ai_eq c101
            have u101f_x66 : x66.toInt ≤ (8 : Int) := bx66.2
            have l101f_x66 : (0 : Int) ≤ x66.toInt := bx66.1
            have u101f_x36 : x36.toInt ≤ (8 : Int) := u37t_x36
            have l101f_x36 : (0 : Int) ≤ x36.toInt := l53t_x36
            refine lv_aload_n hx hb dX8_walkOn_104 rfl (lv_at hl 1 rfl) ?_
            refine lv_bipush (v := 18) hx hb dX8_walkOn_105 zk_bipush_18 ?_
            refine lv_dup2_11 hx hb dX8_walkOn_107 rfl rfl ?_
            refine va_iald hx hb hK hP 1 0 rfl rfl (by unfold vp_in; decide +kernel) dX8_walkOn_108 ?_
            refine lv_topi (fun x108 ex108 => ?_)
            refine lv_iconst (v := 1) hx hb dX8_walkOn_109 zk_iconst_1 ?_
            refine lv_iload_n hx hb dX8_walkOn_110 rfl (lv_at hl 2 rfl) ?_
            refine lv_ishl hx hb dX8_walkOn_111 ?_
            refine lv_topi (fun x111 ex111 => ?_)
            refine lv_ior hx hb dX8_walkOn_112 ?_
            refine lv_topi (fun x112 ex112 => ?_)
            refine va_iast hx hb hK hP hD hS 1 0 rfl rfl (by unfold vp_in; decide +kernel) dX8_walkOn_113 (fun H locs hP hD hS => ?_)
            obtain ⟨f113, ef113⟩ : ∃ g9 : Nat → Int32, g9 = upd f62 (18 : Int32).toNatClampNeg x112 := ⟨_, rfl⟩
            refine zs_1 (y := (a1, .inl (ka1, 23, .inl (f113)))) hP hD (by rw [ef113]) (fun hP hD => ?_)
            have bf113 : ((∀ k : Nat, 0 ≤ k → k ≤ 8 → (0 : Int) ≤ (f113 k).toInt ∧ (f113 k).toInt ≤ 8) ∧ (∀ k : Nat, 19 ≤ k → k ≤ 19 → (0 : Int) ≤ (f113 k).toInt ∧ (f113 k).toInt ≤ 8) ∧ (∀ k : Nat, 20 ≤ k → k ≤ 20 → (0 : Int) ≤ (f113 k).toInt ∧ (f113 k).toInt ≤ 19)) := by rw [ef113]; exact ⟨ai_updO bf62.1 _ (Or.inr (ai_ngt_of zq157 (by decide) (by decide))), ai_updO bf62.2.1 _ (Or.inl (ai_nlt_of zq157 zq158 (by decide) (by decide))), ai_updO bf62.2.2 _ (Or.inl (ai_nlt_of zq157 zq158 (by decide) (by decide)))⟩
            have kf113_18 : f113 18 = x112 := by rw [ef113]; exact ai_k1 (by decide +kernel)
            exact W.vret hx hb hr (fun t ht hW => ⟨⟨(), rfl, trivial, f113, bf113, by rw [ht]; exact hP, va_K.moved hW.alike hK, hD⟩, hS.F ht⟩) hS.2.2 dX8_walkOn_114
      · have gc53 := ai_nle c53
        have u53f_x36 : x36.toInt ≤ (7 : Int) := ai_lthi gc53 bx27.2
        have l53f_x27 : (1 : Int) ≤ x27.toInt := ai_ltlo gc53 bx36.1
        refine lv_iconst (v := (-1)) hx hb dX8_walkOn_56 zk_iconst_n1 ?_
        refine lv_goto (tgt := 61) hx hb dX8_walkOn_57 (by decide) ?_
        refine lv_iadd hx hb dX8_walkOn_61 ?_
        refine lv_topi (fun x61 ex61 => ?_)
        have qx61 : x61.toInt = x27.toInt + ((-1) : Int32).toInt := ai_add ex61 ⟨l53f_x27, bx27.2⟩ ⟨zq70, zq71⟩ (by decide) (by decide)
        have bx61 : (0 : Int) ≤ x61.toInt ∧ x61.toInt ≤ 7 := ⟨by rw [qx61]; exact Int.add_le_add l53f_x27 zq70, by rw [qx61]; exact Int.add_le_add bx27.2 zq71⟩
        have wx61 : x61.toInt = x27.toInt - 1 := qx61
        refine va_iast hx hb hK hP hD hS 1 0 rfl rfl (ai_in ba2_l ba2_u (by decide) (by decide)) dX8_walkOn_62 (fun H locs hP hD hS => ?_)
        obtain ⟨f62, ef62⟩ : ∃ g9 : Nat → Int32, g9 = upd fa1 (a2 : Int32).toNatClampNeg x61 := ⟨_, rfl⟩
        refine zs_1 (y := (a1, .inl (ka1, 23, .inl (f62)))) hP hD (by rw [ef62]) (fun hP hD => ?_)
        have bf62 : ((∀ k : Nat, 0 ≤ k → k ≤ 8 → (0 : Int) ≤ (f62 k).toInt ∧ (f62 k).toInt ≤ 8) ∧ (∀ k : Nat, 19 ≤ k → k ≤ 19 → (0 : Int) ≤ (f62 k).toInt ∧ (f62 k).toInt ≤ 8) ∧ (∀ k : Nat, 20 ≤ k → k ≤ 20 → (0 : Int) ≤ (f62 k).toInt ∧ (f62 k).toInt ≤ 19)) := by rw [ef62]; exact ⟨ai_updS bfa1.1 _ ⟨bx61.1, (Int.le_trans bx61.2 zq49)⟩, ai_updO bfa1.2.1 _ (Or.inl (ai_nlt_of ba2_l ba2_u (by decide) (by decide))), ai_updO bfa1.2.2 _ (Or.inl (ai_nlt_of ba2_l ba2_u (by decide) (by decide)))⟩
        refine lv_aload_n hx hb dX8_walkOn_63 rfl (lv_at hl 0 rfl) ?_
        refine lv_aload_n hx hb dX8_walkOn_64 rfl (lv_at hl 1 rfl) ?_
        refine lv_iload_n hx hb dX8_walkOn_65 rfl (lv_at hl 2 rfl) ?_
        refine va_iald hx hb hK hP 1 0 rfl rfl (ai_in ba2_l ba2_u (by decide) (by decide)) dX8_walkOn_66 ?_
        refine lv_topi (fun x66 ex66 => ?_)
        have bx66 : (0 : Int) ≤ x66.toInt ∧ x66.toInt ≤ 8 := by rw [ex66]; exact ai_rd bf62.1 ba2_l ba2_u (by decide) (by decide) (by decide)
        refine lv_aload_n hx hb dX8_walkOn_67 rfl (lv_at hl 1 rfl) ?_
        refine lv_bipush (v := 21) hx hb dX8_walkOn_68 zk_bipush_21 ?_
        refine va_iald hx hb hK hP 1 0 rfl rfl (by unfold vp_in; decide +kernel) dX8_walkOn_70 ?_
        refine lv_topi (fun x70 ex70 => ?_)
        refine zc_cutc (wc := [(a0, .inr (8, [a0g_0, a0g_1, a0g_2, a0g_3, a0g_4, a0g_5, a0g_6, a0g_7, a0g_8, a0g_9, a0g_10, a0g_11, a0g_12, a0g_13, a0g_14, Value.ref a0_15, a0g_16, a0g_17, a0g_18, a0g_19, a0g_20, a0g_21, a0g_22, Value.ref a0_23, Value.ref a0_24, Value.int a0_25, a0g_26, a0g_27, a0g_28, a0g_29, a0g_30, a0g_31, a0g_32, a0g_33, a0g_34, a0g_35, a0g_36, a0g_37, a0g_38, a0g_39])), (a0_15, .inl (ka0_15, 156, .inl (fa0_15))), (a0_24, .inl (ka0_24, 3, .inl (fa0_24))), (a0_23, .inl (ka0_23, 3, .inl (fa0_23)))]) hP hD hS hA [0, 2, 3, 4] (by decide +kernel) rfl (fun hPc hDc hFc hCc => ?_)
        have hKc := hK.sub (tys' := [(ka0_15, .int), (ka0_24, .int), (ka0_23, .int)]) [1, 2, 3] rfl
        refine va_calli (va_runV (As := [.int x66, .int x70]) (rest := []) ⟨hx, hb, hml, hown, hts⟩ (c_X8_isWatched l dC dI H.size a0 x66 x70 a0g_0 a0g_1 a0g_2 a0g_3 a0g_4 a0g_5 a0g_6 a0g_7 a0g_8 a0g_9 a0g_10 a0g_11 a0g_12 a0g_13 a0g_14 a0g_16 a0g_17 a0g_18 a0g_19 a0g_20 a0g_21 a0g_22 a0g_26 a0g_27 a0g_28 a0g_29 a0g_30 a0g_31 a0g_32 a0g_33 a0g_34 a0g_35 a0g_36 a0g_37 a0g_38 a0g_39 a0_15 a0_23 a0_24 a0_25 ka0_15 fa0_15 ka0_24 fa0_24 ka0_23 fa0_23 bfa0_15 bfa0_24 bfa0_23) (cwV 2 hts gX8_walkOn_X8_isWatched rfl rfl rfl zd_X8_isWatched ⟨Nat.le_of_ble_eq_true rfl, Nat.le_of_ble_eq_true rfl⟩) ⟨ax_blind (fun _ _ _ _ _ => trivial), zr_8 hKc hPc (q0 := 0) rfl, ax_pre hPc hKc hDc (fun _ _ => trivial)⟩ rfl rfl hl.1 rfl (lv_room (Nat.le_of_ble_eq_true rfl)) dX8_walkOn_71 ⟨Nat.le_of_ble_eq_true rfl, Nat.le_of_ble_eq_true rfl⟩) hS (fun q _ h => hFc q h) hFc (fun r71 u t H locs ht hvm hw hB hz1 hk1 hS1 => zo hB ht hS1 (fun hP1 hK1 hD1 hS => ?_))
        refine zc_backc (w := [(a0, .inr (8, [a0g_0, a0g_1, a0g_2, a0g_3, a0g_4, a0g_5, a0g_6, a0g_7, a0g_8, a0g_9, a0g_10, a0g_11, a0g_12, a0g_13, a0g_14, Value.ref a0_15, a0g_16, a0g_17, a0g_18, a0g_19, a0g_20, a0g_21, a0g_22, Value.ref a0_23, Value.ref a0_24, Value.int a0_25, a0g_26, a0g_27, a0g_28, a0g_29, a0g_30, a0g_31, a0g_32, a0g_33, a0g_34, a0g_35, a0g_36, a0g_37, a0g_38, a0g_39])), (a1, .inl (ka1, 23, .inl (f62))), (a0_15, .inl (ka0_15, 156, .inl (fa0_15))), (a0_24, .inl (ka0_24, 3, .inl (fa0_24))), (a0_23, .inl (ka0_23, 3, .inl (fa0_23)))]) hP hD hCc hk1 hFc hP1 hD1 [.inr 0, .inl 1, .inr 1, .inr 2, .inr 3] (by decide +kernel) rfl (fun hP hD => ?_)
        rcases hw with hw | hw
        · subst hw
          refine lv_if_eq (tgt := 92) hx hb dX8_walkOn_74 (by decide) (fun c74 => absurd c74 (by decide +kernel)) (fun _ => ?_)
          refine lv_aload_n hx hb dX8_walkOn_77 rfl (lv_at hl 1 rfl) ?_
          refine lv_iload_n hx hb dX8_walkOn_78 rfl (lv_at hl 2 rfl) ?_
          refine lv_iload_n hx hb dX8_walkOn_79 rfl (lv_at hl 2 rfl) ?_
          refine va_iast hx hb hK hP hD hS 1 0 rfl rfl (ai_in ba2_l ba2_u (by decide) (by decide)) dX8_walkOn_80 (fun H locs hP hD hS => ?_)
          obtain ⟨f80, ef80⟩ : ∃ g9 : Nat → Int32, g9 = upd f62 (a2 : Int32).toNatClampNeg a2 := ⟨_, rfl⟩
          refine zs_1 (y := (a1, .inl (ka1, 23, .inl (f80)))) hP hD (by rw [ef80]) (fun hP hD => ?_)
          have bf80 : ((∀ k : Nat, 0 ≤ k → k ≤ 8 → (0 : Int) ≤ (f80 k).toInt ∧ (f80 k).toInt ≤ 8) ∧ (∀ k : Nat, 19 ≤ k → k ≤ 19 → (0 : Int) ≤ (f80 k).toInt ∧ (f80 k).toInt ≤ 8) ∧ (∀ k : Nat, 20 ≤ k → k ≤ 20 → (0 : Int) ≤ (f80 k).toInt ∧ (f80 k).toInt ≤ 19)) := by rw [ef80]; exact ⟨ai_updS bf62.1 _ ⟨ba2_l, ba2_u⟩, ai_updO bf62.2.1 _ (Or.inl (ai_nlt_of ba2_l ba2_u (by decide) (by decide))), ai_updO bf62.2.2 _ (Or.inl (ai_nlt_of ba2_l ba2_u (by decide) (by decide)))⟩
          refine lv_aload_n hx hb dX8_walkOn_81 rfl (lv_at hl 1 rfl) ?_
          refine lv_bipush (v := 22) hx hb dX8_walkOn_82 zk_bipush_22 ?_
          refine lv_dup2_11 hx hb dX8_walkOn_84 rfl rfl ?_
          refine va_iald hx hb hK hP 1 0 rfl rfl (by unfold vp_in; decide +kernel) dX8_walkOn_85 ?_
          refine lv_topi (fun x85 ex85 => ?_)
          refine lv_iconst (v := 1) hx hb dX8_walkOn_86 zk_iconst_1 ?_
          refine lv_iadd hx hb dX8_walkOn_87 ?_
          refine lv_topi (fun x87 ex87 => ?_)
          refine va_iast hx hb hK hP hD hS 1 0 rfl rfl (by unfold vp_in; decide +kernel) dX8_walkOn_88 (fun H locs hP hD hS => ?_)
          obtain ⟨f88, ef88⟩ : ∃ g9 : Nat → Int32, g9 = upd f80 (22 : Int32).toNatClampNeg x87 := ⟨_, rfl⟩
          refine zs_1 (y := (a1, .inl (ka1, 23, .inl (f88)))) hP hD (by rw [ef88]) (fun hP hD => ?_)
          have bf88 : ((∀ k : Nat, 0 ≤ k → k ≤ 8 → (0 : Int) ≤ (f88 k).toInt ∧ (f88 k).toInt ≤ 8) ∧ (∀ k : Nat, 19 ≤ k → k ≤ 19 → (0 : Int) ≤ (f88 k).toInt ∧ (f88 k).toInt ≤ 8) ∧ (∀ k : Nat, 20 ≤ k → k ≤ 20 → (0 : Int) ≤ (f88 k).toInt ∧ (f88 k).toInt ≤ 19)) := by rw [ef88]; exact ⟨ai_updO bf80.1 _ (Or.inr (ai_ngt_of zq156 (by decide) (by decide))), ai_updO bf80.2.1 _ (Or.inr (ai_ngt_of zq156 (by decide) (by decide))), ai_updO bf80.2.2 _ (Or.inr (ai_ngt_of zq156 (by decide) (by decide)))⟩
          have kf88_22 : f88 22 = x87 := by rw [ef88]; exact ai_k1 (by decide +kernel)
          refine lv_goto (tgt := 114) hx hb dX8_walkOn_89 (by decide) ?_
          exact W.vret hx hb hr (fun t ht hW => ⟨⟨(), rfl, trivial, f88, bf88, by rw [ht]; exact hP, va_K.moved hW.alike hK, hD⟩, hS.F ht⟩) hS.2.2 dX8_walkOn_114
        · subst hw
          refine lv_if_eq (tgt := 92) hx hb dX8_walkOn_74 (by decide) (fun _ => ?_) (fun c74 => absurd (by decide +kernel) c74)
          refine lv_aload_n hx hb dX8_walkOn_92 rfl (lv_at hl 1 rfl) ?_
          refine lv_iload_n hx hb dX8_walkOn_93 rfl (lv_at hl 2 rfl) ?_
          refine va_iald hx hb hK hP 1 0 rfl rfl (ai_in ba2_l ba2_u (by decide) (by decide)) dX8_walkOn_94 ?_
          refine ax_ti x66 ex66.symm ?_
          refine lv_aload_n hx hb dX8_walkOn_95 rfl (lv_at hl 0 rfl) ?_
          refine va_get (D := (dC, dI)) (ci := 8) (v := .ref a0_15) (C := RX8) (T := TX8) (N := 40) hx hb hts zi_X8_walkOn_8 hown hK hP 0 rfl rfl 15 (by decide) (hts (.fieldLink RX8 20 "WaxTurnsModel" "\x72" "[I") (List.mem_cons_of_mem _ (List.mem_append_left _ (List.mem_of_getElem? (i := 0) rfl)))) (fun _ h9 => h9) rfl dX8_walkOn_96 ?_
          refine lv_iconst (v := 2) hx hb dX8_walkOn_99 zk_iconst_2 ?_
          refine va_iald hx hb hK hP 2 1 rfl rfl (by unfold vp_in; decide +kernel) dX8_walkOn_100 ?_
          refine ax_ti x36 ex36.symm ?_
          refine lv_icmp_ne (tgt := 114) hx hb dX8_walkOn_101 (by decide) (fun c101 => ?_) (fun c101 => ?_)
          · have gc101 := ai_ne c101
            exact W.vret hx hb hr (fun t ht hW => ⟨⟨(), rfl, trivial, f62, bf62, by rw [ht]; exact hP, va_K.moved hW.alike hK, hD⟩, hS.F ht⟩) hS.2.2 dX8_walkOn_114
          · have gc101 := ai_eq c101
            have u101f_x66 : x66.toInt ≤ (7 : Int) := Int.le_trans (Int.le_of_eq gc101) u53f_x36
            have l101f_x66 : (0 : Int) ≤ x66.toInt := bx66.1
            have u101f_x36 : x36.toInt ≤ (7 : Int) := u53f_x36
            have l101f_x36 : (0 : Int) ≤ x36.toInt := bx36.1
            refine lv_aload_n hx hb dX8_walkOn_104 rfl (lv_at hl 1 rfl) ?_
            refine lv_bipush (v := 18) hx hb dX8_walkOn_105 zk_bipush_18 ?_
            refine lv_dup2_11 hx hb dX8_walkOn_107 rfl rfl ?_
            refine va_iald hx hb hK hP 1 0 rfl rfl (by unfold vp_in; decide +kernel) dX8_walkOn_108 ?_
            refine lv_topi (fun x108 ex108 => ?_)
            refine lv_iconst (v := 1) hx hb dX8_walkOn_109 zk_iconst_1 ?_
            refine lv_iload_n hx hb dX8_walkOn_110 rfl (lv_at hl 2 rfl) ?_
            refine lv_ishl hx hb dX8_walkOn_111 ?_
            refine lv_topi (fun x111 ex111 => ?_)
            refine lv_ior hx hb dX8_walkOn_112 ?_
            refine lv_topi (fun x112 ex112 => ?_)
            refine va_iast hx hb hK hP hD hS 1 0 rfl rfl (by unfold vp_in; decide +kernel) dX8_walkOn_113 (fun H locs hP hD hS => ?_)
            obtain ⟨f113, ef113⟩ : ∃ g9 : Nat → Int32, g9 = upd f62 (18 : Int32).toNatClampNeg x112 := ⟨_, rfl⟩
            refine zs_1 (y := (a1, .inl (ka1, 23, .inl (f113)))) hP hD (by rw [ef113]) (fun hP hD => ?_)
            have bf113 : ((∀ k : Nat, 0 ≤ k → k ≤ 8 → (0 : Int) ≤ (f113 k).toInt ∧ (f113 k).toInt ≤ 8) ∧ (∀ k : Nat, 19 ≤ k → k ≤ 19 → (0 : Int) ≤ (f113 k).toInt ∧ (f113 k).toInt ≤ 8) ∧ (∀ k : Nat, 20 ≤ k → k ≤ 20 → (0 : Int) ≤ (f113 k).toInt ∧ (f113 k).toInt ≤ 19)) := by rw [ef113]; exact ⟨ai_updO bf62.1 _ (Or.inr (ai_ngt_of zq157 (by decide) (by decide))), ai_updO bf62.2.1 _ (Or.inl (ai_nlt_of zq157 zq158 (by decide) (by decide))), ai_updO bf62.2.2 _ (Or.inl (ai_nlt_of zq157 zq158 (by decide) (by decide)))⟩
            have kf113_18 : f113 18 = x112 := by rw [ef113]; exact ai_k1 (by decide +kernel)
            exact W.vret hx hb hr (fun t ht hW => ⟨⟨(), rfl, trivial, f113, bf113, by rw [ht]; exact hP, va_K.moved hW.alike hK, hD⟩, hS.F ht⟩) hS.2.2 dX8_walkOn_114
    · have gc37 := ai_nle c37
      have u37f_x27 : x27.toInt ≤ (7 : Int) := ai_lthi gc37 bx36.2
      have l37f_x36 : (1 : Int) ≤ x36.toInt := ai_ltlo gc37 bx27.1
      refine lv_iconst (v := 1) hx hb dX8_walkOn_40 zk_iconst_1 ?_
      refine lv_goto (tgt := 61) hx hb dX8_walkOn_41 (by decide) ?_
      refine lv_iadd hx hb dX8_walkOn_61 ?_
      refine lv_topi (fun x61 ex61 => ?_)
      have qx61 : x61.toInt = x27.toInt + (1 : Int32).toInt := ai_add ex61 ⟨bx27.1, u37f_x27⟩ ⟨zq1, zq0⟩ (by decide) (by decide)
      have bx61 : (1 : Int) ≤ x61.toInt ∧ x61.toInt ≤ 8 := ⟨by rw [qx61]; exact Int.add_le_add bx27.1 zq1, by rw [qx61]; exact Int.add_le_add u37f_x27 zq0⟩
      have wx61 : x61.toInt = x27.toInt + 1 := qx61
      refine va_iast hx hb hK hP hD hS 1 0 rfl rfl (ai_in ba2_l ba2_u (by decide) (by decide)) dX8_walkOn_62 (fun H locs hP hD hS => ?_)
      obtain ⟨f62, ef62⟩ : ∃ g9 : Nat → Int32, g9 = upd fa1 (a2 : Int32).toNatClampNeg x61 := ⟨_, rfl⟩
      refine zs_1 (y := (a1, .inl (ka1, 23, .inl (f62)))) hP hD (by rw [ef62]) (fun hP hD => ?_)
      have bf62 : ((∀ k : Nat, 0 ≤ k → k ≤ 8 → (0 : Int) ≤ (f62 k).toInt ∧ (f62 k).toInt ≤ 8) ∧ (∀ k : Nat, 19 ≤ k → k ≤ 19 → (0 : Int) ≤ (f62 k).toInt ∧ (f62 k).toInt ≤ 8) ∧ (∀ k : Nat, 20 ≤ k → k ≤ 20 → (0 : Int) ≤ (f62 k).toInt ∧ (f62 k).toInt ≤ 19)) := by rw [ef62]; exact ⟨ai_updS bfa1.1 _ ⟨(Int.le_trans zq4 bx61.1), bx61.2⟩, ai_updO bfa1.2.1 _ (Or.inl (ai_nlt_of ba2_l ba2_u (by decide) (by decide))), ai_updO bfa1.2.2 _ (Or.inl (ai_nlt_of ba2_l ba2_u (by decide) (by decide)))⟩
      refine lv_aload_n hx hb dX8_walkOn_63 rfl (lv_at hl 0 rfl) ?_
      refine lv_aload_n hx hb dX8_walkOn_64 rfl (lv_at hl 1 rfl) ?_
      refine lv_iload_n hx hb dX8_walkOn_65 rfl (lv_at hl 2 rfl) ?_
      refine va_iald hx hb hK hP 1 0 rfl rfl (ai_in ba2_l ba2_u (by decide) (by decide)) dX8_walkOn_66 ?_
      refine lv_topi (fun x66 ex66 => ?_)
      have bx66 : (0 : Int) ≤ x66.toInt ∧ x66.toInt ≤ 8 := by rw [ex66]; exact ai_rd bf62.1 ba2_l ba2_u (by decide) (by decide) (by decide)
      refine lv_aload_n hx hb dX8_walkOn_67 rfl (lv_at hl 1 rfl) ?_
      refine lv_bipush (v := 21) hx hb dX8_walkOn_68 zk_bipush_21 ?_
      refine va_iald hx hb hK hP 1 0 rfl rfl (by unfold vp_in; decide +kernel) dX8_walkOn_70 ?_
      refine lv_topi (fun x70 ex70 => ?_)
      refine zc_cutc (wc := [(a0, .inr (8, [a0g_0, a0g_1, a0g_2, a0g_3, a0g_4, a0g_5, a0g_6, a0g_7, a0g_8, a0g_9, a0g_10, a0g_11, a0g_12, a0g_13, a0g_14, Value.ref a0_15, a0g_16, a0g_17, a0g_18, a0g_19, a0g_20, a0g_21, a0g_22, Value.ref a0_23, Value.ref a0_24, Value.int a0_25, a0g_26, a0g_27, a0g_28, a0g_29, a0g_30, a0g_31, a0g_32, a0g_33, a0g_34, a0g_35, a0g_36, a0g_37, a0g_38, a0g_39])), (a0_15, .inl (ka0_15, 156, .inl (fa0_15))), (a0_24, .inl (ka0_24, 3, .inl (fa0_24))), (a0_23, .inl (ka0_23, 3, .inl (fa0_23)))]) hP hD hS hA [0, 2, 3, 4] (by decide +kernel) rfl (fun hPc hDc hFc hCc => ?_)
      have hKc := hK.sub (tys' := [(ka0_15, .int), (ka0_24, .int), (ka0_23, .int)]) [1, 2, 3] rfl
      refine va_calli (va_runV (As := [.int x66, .int x70]) (rest := []) ⟨hx, hb, hml, hown, hts⟩ (c_X8_isWatched l dC dI H.size a0 x66 x70 a0g_0 a0g_1 a0g_2 a0g_3 a0g_4 a0g_5 a0g_6 a0g_7 a0g_8 a0g_9 a0g_10 a0g_11 a0g_12 a0g_13 a0g_14 a0g_16 a0g_17 a0g_18 a0g_19 a0g_20 a0g_21 a0g_22 a0g_26 a0g_27 a0g_28 a0g_29 a0g_30 a0g_31 a0g_32 a0g_33 a0g_34 a0g_35 a0g_36 a0g_37 a0g_38 a0g_39 a0_15 a0_23 a0_24 a0_25 ka0_15 fa0_15 ka0_24 fa0_24 ka0_23 fa0_23 bfa0_15 bfa0_24 bfa0_23) (cwV 2 hts gX8_walkOn_X8_isWatched rfl rfl rfl zd_X8_isWatched ⟨Nat.le_of_ble_eq_true rfl, Nat.le_of_ble_eq_true rfl⟩) ⟨ax_blind (fun _ _ _ _ _ => trivial), zr_8 hKc hPc (q0 := 0) rfl, ax_pre hPc hKc hDc (fun _ _ => trivial)⟩ rfl rfl hl.1 rfl (lv_room (Nat.le_of_ble_eq_true rfl)) dX8_walkOn_71 ⟨Nat.le_of_ble_eq_true rfl, Nat.le_of_ble_eq_true rfl⟩) hS (fun q _ h => hFc q h) hFc (fun r71 u t H locs ht hvm hw hB hz1 hk1 hS1 => zo hB ht hS1 (fun hP1 hK1 hD1 hS => ?_))
      refine zc_backc (w := [(a0, .inr (8, [a0g_0, a0g_1, a0g_2, a0g_3, a0g_4, a0g_5, a0g_6, a0g_7, a0g_8, a0g_9, a0g_10, a0g_11, a0g_12, a0g_13, a0g_14, Value.ref a0_15, a0g_16, a0g_17, a0g_18, a0g_19, a0g_20, a0g_21, a0g_22, Value.ref a0_23, Value.ref a0_24, Value.int a0_25, a0g_26, a0g_27, a0g_28, a0g_29, a0g_30, a0g_31, a0g_32, a0g_33, a0g_34, a0g_35, a0g_36, a0g_37, a0g_38, a0g_39])), (a1, .inl (ka1, 23, .inl (f62))), (a0_15, .inl (ka0_15, 156, .inl (fa0_15))), (a0_24, .inl (ka0_24, 3, .inl (fa0_24))), (a0_23, .inl (ka0_23, 3, .inl (fa0_23)))]) hP hD hCc hk1 hFc hP1 hD1 [.inr 0, .inl 1, .inr 1, .inr 2, .inr 3] (by decide +kernel) rfl (fun hP hD => ?_)
      rcases hw with hw | hw
      · subst hw
        refine lv_if_eq (tgt := 92) hx hb dX8_walkOn_74 (by decide) (fun c74 => absurd c74 (by decide +kernel)) (fun _ => ?_)
        refine lv_aload_n hx hb dX8_walkOn_77 rfl (lv_at hl 1 rfl) ?_
        refine lv_iload_n hx hb dX8_walkOn_78 rfl (lv_at hl 2 rfl) ?_
        refine lv_iload_n hx hb dX8_walkOn_79 rfl (lv_at hl 2 rfl) ?_
        refine va_iast hx hb hK hP hD hS 1 0 rfl rfl (ai_in ba2_l ba2_u (by decide) (by decide)) dX8_walkOn_80 (fun H locs hP hD hS => ?_)
        obtain ⟨f80, ef80⟩ : ∃ g9 : Nat → Int32, g9 = upd f62 (a2 : Int32).toNatClampNeg a2 := ⟨_, rfl⟩
        refine zs_1 (y := (a1, .inl (ka1, 23, .inl (f80)))) hP hD (by rw [ef80]) (fun hP hD => ?_)
        have bf80 : ((∀ k : Nat, 0 ≤ k → k ≤ 8 → (0 : Int) ≤ (f80 k).toInt ∧ (f80 k).toInt ≤ 8) ∧ (∀ k : Nat, 19 ≤ k → k ≤ 19 → (0 : Int) ≤ (f80 k).toInt ∧ (f80 k).toInt ≤ 8) ∧ (∀ k : Nat, 20 ≤ k → k ≤ 20 → (0 : Int) ≤ (f80 k).toInt ∧ (f80 k).toInt ≤ 19)) := by rw [ef80]; exact ⟨ai_updS bf62.1 _ ⟨ba2_l, ba2_u⟩, ai_updO bf62.2.1 _ (Or.inl (ai_nlt_of ba2_l ba2_u (by decide) (by decide))), ai_updO bf62.2.2 _ (Or.inl (ai_nlt_of ba2_l ba2_u (by decide) (by decide)))⟩
        refine lv_aload_n hx hb dX8_walkOn_81 rfl (lv_at hl 1 rfl) ?_
        refine lv_bipush (v := 22) hx hb dX8_walkOn_82 zk_bipush_22 ?_
        refine lv_dup2_11 hx hb dX8_walkOn_84 rfl rfl ?_
        refine va_iald hx hb hK hP 1 0 rfl rfl (by unfold vp_in; decide +kernel) dX8_walkOn_85 ?_
        refine lv_topi (fun x85 ex85 => ?_)
        refine lv_iconst (v := 1) hx hb dX8_walkOn_86 zk_iconst_1 ?_
        refine lv_iadd hx hb dX8_walkOn_87 ?_
        refine lv_topi (fun x87 ex87 => ?_)
        refine va_iast hx hb hK hP hD hS 1 0 rfl rfl (by unfold vp_in; decide +kernel) dX8_walkOn_88 (fun H locs hP hD hS => ?_)
        obtain ⟨f88, ef88⟩ : ∃ g9 : Nat → Int32, g9 = upd f80 (22 : Int32).toNatClampNeg x87 := ⟨_, rfl⟩
        refine zs_1 (y := (a1, .inl (ka1, 23, .inl (f88)))) hP hD (by rw [ef88]) (fun hP hD => ?_)
        have bf88 : ((∀ k : Nat, 0 ≤ k → k ≤ 8 → (0 : Int) ≤ (f88 k).toInt ∧ (f88 k).toInt ≤ 8) ∧ (∀ k : Nat, 19 ≤ k → k ≤ 19 → (0 : Int) ≤ (f88 k).toInt ∧ (f88 k).toInt ≤ 8) ∧ (∀ k : Nat, 20 ≤ k → k ≤ 20 → (0 : Int) ≤ (f88 k).toInt ∧ (f88 k).toInt ≤ 19)) := by rw [ef88]; exact ⟨ai_updO bf80.1 _ (Or.inr (ai_ngt_of zq156 (by decide) (by decide))), ai_updO bf80.2.1 _ (Or.inr (ai_ngt_of zq156 (by decide) (by decide))), ai_updO bf80.2.2 _ (Or.inr (ai_ngt_of zq156 (by decide) (by decide)))⟩
        have kf88_22 : f88 22 = x87 := by rw [ef88]; exact ai_k1 (by decide +kernel)
        refine lv_goto (tgt := 114) hx hb dX8_walkOn_89 (by decide) ?_
        exact W.vret hx hb hr (fun t ht hW => ⟨⟨(), rfl, trivial, f88, bf88, by rw [ht]; exact hP, va_K.moved hW.alike hK, hD⟩, hS.F ht⟩) hS.2.2 dX8_walkOn_114
      · subst hw
        refine lv_if_eq (tgt := 92) hx hb dX8_walkOn_74 (by decide) (fun _ => ?_) (fun c74 => absurd (by decide +kernel) c74)
        refine lv_aload_n hx hb dX8_walkOn_92 rfl (lv_at hl 1 rfl) ?_
        refine lv_iload_n hx hb dX8_walkOn_93 rfl (lv_at hl 2 rfl) ?_
        refine va_iald hx hb hK hP 1 0 rfl rfl (ai_in ba2_l ba2_u (by decide) (by decide)) dX8_walkOn_94 ?_
        refine ax_ti x66 ex66.symm ?_
        refine lv_aload_n hx hb dX8_walkOn_95 rfl (lv_at hl 0 rfl) ?_
        refine va_get (D := (dC, dI)) (ci := 8) (v := .ref a0_15) (C := RX8) (T := TX8) (N := 40) hx hb hts zi_X8_walkOn_8 hown hK hP 0 rfl rfl 15 (by decide) (hts (.fieldLink RX8 20 "WaxTurnsModel" "\x72" "[I") (List.mem_cons_of_mem _ (List.mem_append_left _ (List.mem_of_getElem? (i := 0) rfl)))) (fun _ h9 => h9) rfl dX8_walkOn_96 ?_
        refine lv_iconst (v := 2) hx hb dX8_walkOn_99 zk_iconst_2 ?_
        refine va_iald hx hb hK hP 2 1 rfl rfl (by unfold vp_in; decide +kernel) dX8_walkOn_100 ?_
        refine ax_ti x36 ex36.symm ?_
        refine lv_icmp_ne (tgt := 114) hx hb dX8_walkOn_101 (by decide) (fun c101 => ?_) (fun c101 => ?_)
        · have gc101 := ai_ne c101
          exact W.vret hx hb hr (fun t ht hW => ⟨⟨(), rfl, trivial, f62, bf62, by rw [ht]; exact hP, va_K.moved hW.alike hK, hD⟩, hS.F ht⟩) hS.2.2 dX8_walkOn_114
        · have gc101 := ai_eq c101
          have u101f_x66 : x66.toInt ≤ (8 : Int) := bx66.2
          have l101f_x66 : (1 : Int) ≤ x66.toInt := Int.le_trans l37f_x36 (Int.le_of_eq gc101.symm)
          have u101f_x36 : x36.toInt ≤ (8 : Int) := bx36.2
          have l101f_x36 : (1 : Int) ≤ x36.toInt := l37f_x36
          refine lv_aload_n hx hb dX8_walkOn_104 rfl (lv_at hl 1 rfl) ?_
          refine lv_bipush (v := 18) hx hb dX8_walkOn_105 zk_bipush_18 ?_
          refine lv_dup2_11 hx hb dX8_walkOn_107 rfl rfl ?_
          refine va_iald hx hb hK hP 1 0 rfl rfl (by unfold vp_in; decide +kernel) dX8_walkOn_108 ?_
          refine lv_topi (fun x108 ex108 => ?_)
          refine lv_iconst (v := 1) hx hb dX8_walkOn_109 zk_iconst_1 ?_
          refine lv_iload_n hx hb dX8_walkOn_110 rfl (lv_at hl 2 rfl) ?_
          refine lv_ishl hx hb dX8_walkOn_111 ?_
          refine lv_topi (fun x111 ex111 => ?_)
          refine lv_ior hx hb dX8_walkOn_112 ?_
          refine lv_topi (fun x112 ex112 => ?_)
          refine va_iast hx hb hK hP hD hS 1 0 rfl rfl (by unfold vp_in; decide +kernel) dX8_walkOn_113 (fun H locs hP hD hS => ?_)
          obtain ⟨f113, ef113⟩ : ∃ g9 : Nat → Int32, g9 = upd f62 (18 : Int32).toNatClampNeg x112 := ⟨_, rfl⟩
          refine zs_1 (y := (a1, .inl (ka1, 23, .inl (f113)))) hP hD (by rw [ef113]) (fun hP hD => ?_)
          have bf113 : ((∀ k : Nat, 0 ≤ k → k ≤ 8 → (0 : Int) ≤ (f113 k).toInt ∧ (f113 k).toInt ≤ 8) ∧ (∀ k : Nat, 19 ≤ k → k ≤ 19 → (0 : Int) ≤ (f113 k).toInt ∧ (f113 k).toInt ≤ 8) ∧ (∀ k : Nat, 20 ≤ k → k ≤ 20 → (0 : Int) ≤ (f113 k).toInt ∧ (f113 k).toInt ≤ 19)) := by rw [ef113]; exact ⟨ai_updO bf62.1 _ (Or.inr (ai_ngt_of zq157 (by decide) (by decide))), ai_updO bf62.2.1 _ (Or.inl (ai_nlt_of zq157 zq158 (by decide) (by decide))), ai_updO bf62.2.2 _ (Or.inl (ai_nlt_of zq157 zq158 (by decide) (by decide)))⟩
          have kf113_18 : f113 18 = x112 := by rw [ef113]; exact ai_k1 (by decide +kernel)
          exact W.vret hx hb hr (fun t ht hW => ⟨⟨(), rfl, trivial, f113, bf113, by rw [ht]; exact hP, va_K.moved hW.alike hK, hD⟩, hS.F ht⟩) hS.2.2 dX8_walkOn_114
  · have gc20 := ai_ne c20
    have l20f_x19 : (1 : Int) ≤ x19.toInt := (by first | exact zg_l qx19.2.1 gc20 (by decide) (by decide) | (have h1 := qx19.2.1; have h2 : (0 : Int32).toInt = 0 := (by decide); rw [h2] at gc20; omega))
    exact W.vret hx hb hr (fun t ht hW => ⟨⟨(), rfl, trivial, fa1, bfa1, by rw [ht]; exact hP, va_K.moved hW.alike hK, hD⟩, hS.F ht⟩) hS.2.2 dX8_walkOn_23

set_option maxHeartbeats 4000000 in
set_option maxRecDepth 100000 in
theorem c_X8_speakOn (l : Launch) (dC : Nat → ClassId) (dI : Nat → Nat → Nat) (sz : Nat) (a0 : Nat) (a1 : Nat) (a2 : Int32) (a0g_0 a0g_1 a0g_2 a0g_3 a0g_4 a0g_5 a0g_6 a0g_7 a0g_8 a0g_9 a0g_10 a0g_11 a0g_12 a0g_13 a0g_14 a0g_16 a0g_17 a0g_18 a0g_19 a0g_20 a0g_21 a0g_22 a0g_26 a0g_27 a0g_29 a0g_30 a0g_31 a0g_32 a0g_33 a0g_34 a0g_35 a0g_36 a0g_37 a0g_38 a0g_39 : Value) (a0_15 : Nat) (a0_23 : Nat) (a0_24 : Nat) (a0_25 : Int32) (a0_28 : Int32) (ka1 : ClassId) (fa1 : Nat → Int32) (ka0_15 : ClassId) (fa0_15 : Nat → Int32) (ka0_24 : ClassId) (fa0_24 : Nat → Int32) (ka0_23 : ClassId) (fa0_23 : Nat → Int32) (ba2_l : (0 : Int) ≤ a2.toInt) (ba2_u : a2.toInt ≤ (8 : Int)) (bfa1 : ((∀ k : Nat, 0 ≤ k → k ≤ 8 → (0 : Int) ≤ (fa1 k).toInt ∧ (fa1 k).toInt ≤ 8) ∧ (∀ k : Nat, 19 ≤ k → k ≤ 19 → (0 : Int) ≤ (fa1 k).toInt ∧ (fa1 k).toInt ≤ 8) ∧ (∀ k : Nat, 20 ≤ k → k ≤ 20 → (0 : Int) ≤ (fa1 k).toInt ∧ (fa1 k).toInt ≤ 19))) (bfa0_15 : ((∀ k : Nat, 0 ≤ k → k ≤ 0 → (2 : Int) ≤ (fa0_15 k).toInt ∧ (fa0_15 k).toInt ≤ 9) ∧ (∀ k : Nat, 1 ≤ k → k ≤ 1 → (1 : Int) ≤ (fa0_15 k).toInt ∧ (fa0_15 k).toInt ≤ 20) ∧ (∀ k : Nat, 2 ≤ k → k ≤ 2 → (0 : Int) ≤ (fa0_15 k).toInt ∧ (fa0_15 k).toInt ≤ 8) ∧ (∀ k : Nat, 3 ≤ k → k ≤ 3 → (0 : Int) ≤ (fa0_15 k).toInt ∧ (fa0_15 k).toInt ≤ 100) ∧ (∀ k : Nat, 4 ≤ k → k ≤ 4 → (0 : Int) ≤ (fa0_15 k).toInt ∧ (fa0_15 k).toInt ≤ 9) ∧ (∀ k : Nat, 5 ≤ k → k ≤ 5 → (0 : Int) ≤ (fa0_15 k).toInt ∧ (fa0_15 k).toInt ≤ 3) ∧ (∀ k : Nat, 6 ≤ k → k ≤ 6 → (0 : Int) ≤ (fa0_15 k).toInt ∧ (fa0_15 k).toInt ≤ 6) ∧ (∀ k : Nat, 7 ≤ k → k ≤ 9 → (0 : Int) ≤ (fa0_15 k).toInt ∧ (fa0_15 k).toInt ≤ 8) ∧ (∀ k : Nat, 12 ≤ k → k ≤ 29 → (0 : Int) ≤ (fa0_15 k).toInt ∧ (fa0_15 k).toInt ≤ 20) ∧ (∀ k : Nat, 30 ≤ k → k ≤ 35 → (0 : Int) ≤ (fa0_15 k).toInt ∧ (fa0_15 k).toInt ≤ 8) ∧ (∀ k : Nat, 36 ≤ k → k ≤ 47 → (0 : Int) ≤ (fa0_15 k).toInt ∧ (fa0_15 k).toInt ≤ 999))) (bfa0_24 : (∀ k, (0 : Int) ≤ (fa0_24 k).toInt ∧ (fa0_24 k).toInt ≤ 80)) (bfa0_23 : (∀ k, (0 : Int) ≤ (fa0_23 k).toInt ∧ (fa0_23 k).toInt ≤ 80)) : zm l yX8_speakOn wsX8_speakOn ({ frames := 2, cells := 0, slots := 0, locals := 48 }) [.ref a0, .ref a1, .int a2] dC dI sz [(a0, .inr (8, [a0g_0, a0g_1, a0g_2, a0g_3, a0g_4, a0g_5, a0g_6, a0g_7, a0g_8, a0g_9, a0g_10, a0g_11, a0g_12, a0g_13, a0g_14, Value.ref a0_15, a0g_16, a0g_17, a0g_18, a0g_19, a0g_20, a0g_21, a0g_22, Value.ref a0_23, Value.ref a0_24, Value.int a0_25, a0g_26, a0g_27, Value.int a0_28, a0g_29, a0g_30, a0g_31, a0g_32, a0g_33, a0g_34, a0g_35, a0g_36, a0g_37, a0g_38, a0g_39])), (a1, .inl (ka1, 23, .inl (fa1))), (a0_15, .inl (ka0_15, 156, .inl (fa0_15))), (a0_24, .inl (ka0_24, 3, .inl (fa0_24))), (a0_23, .inl (ka0_23, 3, .inl (fa0_23)))] [(ka1, .int), (ka0_15, .int), (ka0_24, .int), (ka0_23, .int)] (fun A _ => True) (fun A => va_Qv (fun (_ : Unit) => True) (fun (_ : Unit) (t : State) => ∃ na0_28 : Int32, ∃ nfa1 : Nat → Int32, ((∀ k : Nat, 0 ≤ k → k ≤ 8 → (0 : Int) ≤ (nfa1 k).toInt ∧ (nfa1 k).toInt ≤ 8) ∧ (∀ k : Nat, 19 ≤ k → k ≤ 19 → (0 : Int) ≤ (nfa1 k).toInt ∧ (nfa1 k).toInt ≤ 8) ∧ (∀ k : Nat, 20 ≤ k → k ≤ 20 → (0 : Int) ≤ (nfa1 k).toInt ∧ (nfa1 k).toInt ≤ 19)) ∧ ax_B dC dI A [(a0, .inr (8, [a0g_0, a0g_1, a0g_2, a0g_3, a0g_4, a0g_5, a0g_6, a0g_7, a0g_8, a0g_9, a0g_10, a0g_11, a0g_12, a0g_13, a0g_14, Value.ref a0_15, a0g_16, a0g_17, a0g_18, a0g_19, a0g_20, a0g_21, a0g_22, Value.ref a0_23, Value.ref a0_24, Value.int a0_25, a0g_26, a0g_27, Value.int na0_28, a0g_29, a0g_30, a0g_31, a0g_32, a0g_33, a0g_34, a0g_35, a0g_36, a0g_37, a0g_38, a0g_39])), (a1, .inl (ka1, 23, .inl (nfa1))), (a0_15, .inl (ka0_15, 156, .inl (fa0_15))), (a0_24, .inl (ka0_24, 3, .inl (fa0_24))), (a0_23, .inl (ka0_23, 3, .inl (fa0_23)))] [(ka1, .int), (ka0_15, .int), (ka0_24, .int), (ka0_23, .int)] t) A) := by
  refine zh (cc := cX8_speakOn) (maxL := 6) (ret := none) zn_RX8 rfl (Nat.le_of_ble_eq_true rfl) (fun p e s m below meth c A ls hx hb hml hr hts (hown : s.vm.findClass RX8 = some m.cls) hlocks hA hS hP hK hD hE (hl : lv_has ls 6 [(0, .ref a0), (1, .ref a1), (2, .int a2)]) => ?_)
  refine ai_open (fun K hK0 => ?_)
  refine (hK0 _ _ _).mpr ?_
  refine lv_aload_n hx hb dX8_speakOn_0 rfl (lv_at hl 1 rfl) ?_
  refine lv_bipush (v := 20) hx hb dX8_speakOn_1 zk_bipush_20 ?_
  refine va_iald hx hb hK hP 1 0 rfl rfl (by unfold vp_in; decide +kernel) dX8_speakOn_3 ?_
  refine lv_topi (fun x3 ex3 => ?_)
  have bx3 : (0 : Int) ≤ x3.toInt ∧ x3.toInt ≤ 19 := by rw [ex3]; exact ai_rd bfa1.2.2 zq153 zq154 (by decide) (by decide) (by decide)
  refine lv_istore_n (lv' := [(3, .int x3), (0, .ref a0), (1, .ref a1), (2, .int a2)]) hx hb dX8_speakOn_4 rfl hl (by decide) rfl (fun ls hl => ?_)
  refine lv_iload_n hx hb dX8_speakOn_5 rfl (lv_at hl 0 rfl) ?_
  refine lv_aload_n hx hb dX8_speakOn_6 rfl (lv_at hl 1 rfl) ?_
  refine va_get (D := (dC, dI)) (ci := 8) (v := .ref a0_15) (C := RX8) (T := TX8) (N := 40) hx hb hts zi_X8_speakOn_8 hown hK hP 0 rfl rfl 15 (by decide) (hts (.fieldLink RX8 20 "WaxTurnsModel" "\x72" "[I") (List.mem_cons_of_mem _ (List.mem_append_left _ (List.mem_of_getElem? (i := 0) rfl)))) (fun _ h9 => h9) rfl dX8_speakOn_7 ?_
  refine lv_bipush (v := 12) hx hb dX8_speakOn_10 zk_bipush_12 ?_
  refine lv_iconst (v := 2) hx hb dX8_speakOn_12 zk_iconst_2 ?_
  refine lv_iload_n hx hb dX8_speakOn_13 rfl (lv_at hl 3 rfl) ?_
  refine lv_imul hx hb dX8_speakOn_14 ?_
  refine lv_topi (fun x14 ex14 => ?_)
  have qx14 : x14.toInt = (2 : Int32).toInt * a2.toInt ∧ (0 : Int) ≤ x14.toInt ∧ x14.toInt ≤ 16 := ai_mul ex14 ⟨zq12, zq13⟩ ⟨ba2_l, ba2_u⟩ (by decide) (by decide) zq155
  have wx14 : x14.toInt = 2 * a2.toInt := qx14.1
  refine lv_iadd hx hb dX8_speakOn_15 ?_
  refine lv_topi (fun x15 ex15 => ?_)
  have qx15 : x15.toInt = (12 : Int32).toInt + x14.toInt := ai_add ex15 ⟨zq119, zq120⟩ ⟨qx14.2.1, qx14.2.2⟩ (by decide) (by decide)
  have bx15 : (12 : Int) ≤ x15.toInt ∧ x15.toInt ≤ 28 := ⟨by rw [qx15]; exact Int.add_le_add zq119 qx14.2.1, by rw [qx15]; exact Int.add_le_add zq120 qx14.2.2⟩
  have wx15 : x15.toInt = 12 + x14.toInt := qx15
  refine lv_iconst (v := 1) hx hb dX8_speakOn_16 zk_iconst_1 ?_
  refine lv_iadd hx hb dX8_speakOn_17 ?_
  refine lv_topi (fun x17 ex17 => ?_)
  have qx17 : x17.toInt = x15.toInt + (1 : Int32).toInt := ai_add ex17 ⟨bx15.1, bx15.2⟩ ⟨zq1, zq0⟩ (by decide) (by decide)
  have bx17 : (13 : Int) ≤ x17.toInt ∧ x17.toInt ≤ 29 := ⟨by rw [qx17]; exact Int.add_le_add bx15.1 zq1, by rw [qx17]; exact Int.add_le_add bx15.2 zq0⟩
  have wx17 : x17.toInt = x15.toInt + 1 := qx17
  refine va_iald hx hb hK hP 2 1 rfl rfl (ai_in bx17.1 bx17.2 (by decide) (by decide)) dX8_speakOn_18 ?_
  refine lv_topi (fun x18 ex18 => ?_)
  have bx18 : (0 : Int) ≤ x18.toInt ∧ x18.toInt ≤ 20 := by rw [ex18]; exact ai_rd bfa0_15.2.2.2.2.2.2.2.2.1 bx17.1 bx17.2 (by decide) (by decide) (by decide)
  refine lv_icmp_lt (tgt := 23) hx hb dX8_speakOn_19 (by decide) (fun c19 => ?_) (fun c19 => ?_)
  · have gc19 := ai_lt c19
    have u19t_x3 : x3.toInt ≤ (19 : Int) := bx3.2
    have l19t_x18 : (1 : Int) ≤ x18.toInt := ai_ltlo gc19 bx3.1
    refine lv_aload_n hx hb dX8_speakOn_23 rfl (lv_at hl 1 rfl) ?_
    refine lv_iconst (v := 1) hx hb dX8_speakOn_24 zk_iconst_1 ?_
    refine lv_iload_n hx hb dX8_speakOn_25 rfl (lv_at hl 0 rfl) ?_
    refine lv_ishl hx hb dX8_speakOn_26 ?_
    refine lv_topi (fun x26 ex26 => ?_)
    refine va_put (D := (dC, dI)) (ci := 8) (v := .int x26) (ty := .int) (C := RX8) (T := TX8) (N := 40) hx hb hts zi_X8_speakOn_8 tyX8 tyX8_ok nmX8 hown hK hP hD hS 0 rfl rfl 28 (by decide) (hts (.fieldLink RX8 248 "WaxTurnsModel" "said" "I") (List.mem_cons_of_mem _ (List.mem_append_left _ (List.mem_of_getElem? (i := 1) rfl)))) (fun _ h9 => h9) rfl (tyX8_ok 28 (by decide)) rfl rfl (Nat.le_of_ble_eq_true rfl) dX8_speakOn_27 (fun H locs hP hD hS => ?_)
    refine zs_0 (y := (a0, .inr (8, [a0g_0, a0g_1, a0g_2, a0g_3, a0g_4, a0g_5, a0g_6, a0g_7, a0g_8, a0g_9, a0g_10, a0g_11, a0g_12, a0g_13, a0g_14, Value.ref a0_15, a0g_16, a0g_17, a0g_18, a0g_19, a0g_20, a0g_21, a0g_22, Value.ref a0_23, Value.ref a0_24, Value.int a0_25, a0g_26, a0g_27, Value.int x26, a0g_29, a0g_30, a0g_31, a0g_32, a0g_33, a0g_34, a0g_35, a0g_36, a0g_37, a0g_38, a0g_39]))) hP hD rfl (fun hP hD => ?_)
    refine lv_iconst (v := 0) hx hb dX8_speakOn_30 zk_iconst_0 ?_
    refine lv_istore (lv' := [(4, .int 0), (3, .int x3), (0, .ref a0), (1, .ref a1), (2, .int a2)]) hx hb dX8_speakOn_31 hl (by decide) rfl (fun ls hl => ?_)
    refine lv_aload_n hx hb dX8_speakOn_33 rfl (lv_at hl 3 rfl) ?_
    refine lv_iload_n hx hb dX8_speakOn_34 rfl (lv_at hl 4 rfl) ?_
    refine va_iald hx hb hK hP 1 0 rfl rfl (ai_in ba2_l ba2_u (by decide) (by decide)) dX8_speakOn_35 ?_
    refine lv_topi (fun x35 ex35 => ?_)
    have bx35 : (0 : Int) ≤ x35.toInt ∧ x35.toInt ≤ 8 := by rw [ex35]; exact ai_rd bfa1.1 ba2_l ba2_u (by decide) (by decide) (by decide)
    refine lv_iconst (v := 1) hx hb dX8_speakOn_36 zk_iconst_1 ?_
    refine lv_isub hx hb dX8_speakOn_37 ?_
    refine lv_topi (fun x37 ex37 => ?_)
    have qx37 : x37.toInt = x35.toInt - (1 : Int32).toInt := ai_sub ex37 ⟨bx35.1, bx35.2⟩ ⟨zq1, zq0⟩ (by decide) (by decide)
    have bx37 : (-1 : Int) ≤ x37.toInt ∧ x37.toInt ≤ 7 := ⟨by rw [qx37]; exact Int.sub_le_sub bx35.1 zq0, by rw [qx37]; exact Int.sub_le_sub bx35.2 zq1⟩
    have wx37 : x37.toInt = x35.toInt - 1 := qx37
    refine lv_istore (lv' := [(5, .int x37), (4, .int 0), (3, .int x3), (0, .ref a0), (1, .ref a1), (2, .int a2)]) hx hb dX8_speakOn_38 hl (by decide) rfl (fun ls hl => ?_)
    have J40 : ∀ (n : Nat) (j40l5 : Int32) (j40l4 : Int32) (H : Heap) (locs : List Loc) (ls : Array Slot), (11 : Int) - j40l5.toInt ≤ (n : Int) → (-1 : Int) ≤ j40l5.toInt → j40l5.toInt ≤ (10 : Int) → (0 : Int) ≤ j40l4.toInt → j40l4.toInt ≤ (1 : Int) → va_P (dC, dI) vwCl [(a0, .inr (8, [a0g_0, a0g_1, a0g_2, a0g_3, a0g_4, a0g_5, a0g_6, a0g_7, a0g_8, a0g_9, a0g_10, a0g_11, a0g_12, a0g_13, a0g_14, Value.ref a0_15, a0g_16, a0g_17, a0g_18, a0g_19, a0g_20, a0g_21, a0g_22, Value.ref a0_23, Value.ref a0_24, Value.int a0_25, a0g_26, a0g_27, Value.int x26, a0g_29, a0g_30, a0g_31, a0g_32, a0g_33, a0g_34, a0g_35, a0g_36, a0g_37, a0g_38, a0g_39])), (a1, .inl (ka1, 23, .inl (fa1))), (a0_15, .inl (ka0_15, 156, .inl (fa0_15))), (a0_24, .inl (ka0_24, 3, .inl (fa0_24))), (a0_23, .inl (ka0_23, 3, .inl (fa0_23)))] H → va_D A [(a0, .inr (8, [a0g_0, a0g_1, a0g_2, a0g_3, a0g_4, a0g_5, a0g_6, a0g_7, a0g_8, a0g_9, a0g_10, a0g_11, a0g_12, a0g_13, a0g_14, Value.ref a0_15, a0g_16, a0g_17, a0g_18, a0g_19, a0g_20, a0g_21, a0g_22, Value.ref a0_23, Value.ref a0_24, Value.int a0_25, a0g_26, a0g_27, Value.int x26, a0g_29, a0g_30, a0g_31, a0g_32, a0g_33, a0g_34, a0g_35, a0g_36, a0g_37, a0g_38, a0g_39])), (a1, .inl (ka1, 23, .inl (fa1))), (a0_15, .inl (ka0_15, 156, .inl (fa0_15))), (a0_24, .inl (ka0_24, 3, .inl (fa0_24))), (a0_23, .inl (ka0_23, 3, .inl (fa0_23)))] → va_S A s.heap H locs → lv_has ls 6 [(0, .ref a0), (1, .ref a1), (2, .int a2), (4, .int j40l4), (5, .int j40l5)] → K H locs (F0 m 40 ls []) := by
      intro n
      induction n with
      | zero =>
        intro j40l5 j40l4 H locs ls hm bj40l5_l bj40l5_u bj40l4_l bj40l4_u hP hD hS hl
        first | exact zg_0 hm bj40l5_u (by decide) | (have h8 := ai_min j40l5; have h9 := ai_max j40l5; exact absurd hm (by omega))
      | succ n ih40 =>
        intro j40l5 j40l4 H locs ls hm bj40l5_l bj40l5_u bj40l4_l bj40l4_u hP hD hS hl
        refine (hK0 _ _ _).mpr ?_
        have hm40 := hm
        refine lv_iload hx hb dX8_speakOn_40 (lv_at hl 4 rfl) ?_
        refine lv_aload_n hx hb dX8_speakOn_42 rfl (lv_at hl 1 rfl) ?_
        refine lv_iload_n hx hb dX8_speakOn_43 rfl (lv_at hl 2 rfl) ?_
        refine va_iald hx hb hK hP 1 0 rfl rfl (ai_in ba2_l ba2_u (by decide) (by decide)) dX8_speakOn_44 ?_
        refine lv_topi (fun x44 ex44 => ?_)
        have bx44 : (0 : Int) ≤ x44.toInt ∧ x44.toInt ≤ 8 := by rw [ex44]; exact ai_rd bfa1.1 ba2_l ba2_u (by decide) (by decide) (by decide)
        refine lv_iconst (v := 1) hx hb dX8_speakOn_45 zk_iconst_1 ?_
        refine lv_iadd hx hb dX8_speakOn_46 ?_
        refine lv_topi (fun x46 ex46 => ?_)
        have qx46 : x46.toInt = x44.toInt + (1 : Int32).toInt := ai_add ex46 ⟨bx44.1, bx44.2⟩ ⟨zq1, zq0⟩ (by decide) (by decide)
        have bx46 : (1 : Int) ≤ x46.toInt ∧ x46.toInt ≤ 9 := ⟨by rw [qx46]; exact Int.add_le_add bx44.1 zq1, by rw [qx46]; exact Int.add_le_add bx44.2 zq0⟩
        have wx46 : x46.toInt = x44.toInt + 1 := qx46
        refine lv_icmp_gt (tgt := 86) hx hb dX8_speakOn_47 (by decide) (fun c47 => ?_) (fun c47 => ?_)
        · have gc47 := ai_lt c47
          have u47t_x46 : x46.toInt ≤ (9 : Int) := bx46.2
          have l47t_j40l5 : (2 : Int) ≤ j40l5.toInt := ai_ltlo gc47 bx46.1
          refine lv_iload hx hb dX8_speakOn_86 (lv_at hl 3 rfl) ?_
          refine lv_if_eq (tgt := 104) hx hb dX8_speakOn_88 (by decide) (fun c88 => ?_) (fun c88 => ?_)
          · have gc88 := ai_eq c88
            have u88t_j40l4 : j40l4.toInt ≤ (0 : Int) := Int.le_trans (Int.le_of_eq gc88) zq6
            have l88t_j40l4 : (0 : Int) ≤ j40l4.toInt := bj40l4_l
            exact W.vret hx hb hr (fun t ht hW => ⟨⟨(), rfl, trivial, x26, fa1, bfa1, by rw [ht]; exact hP, va_K.moved hW.alike hK, hD⟩, hS.F ht⟩) hS.2.2 dX8_speakOn_104
          · have gc88 := ai_ne c88
            have l88f_j40l4 : (1 : Int) ≤ j40l4.toInt := (by first | exact zg_l bj40l4_l gc88 (by decide) (by decide) | (have h1 := bj40l4_l; have h2 : (0 : Int32).toInt = 0 := (by decide); rw [h2] at gc88; omega))
            refine lv_aload_n hx hb dX8_speakOn_91 rfl (lv_at hl 1 rfl) ?_
            refine lv_bipush (v := 9) hx hb dX8_speakOn_92 zk_bipush_9 ?_
            refine lv_iload_n hx hb dX8_speakOn_94 rfl (lv_at hl 2 rfl) ?_
            refine lv_iadd hx hb dX8_speakOn_95 ?_
            refine lv_topi (fun x95 ex95 => ?_)
            have qx95 : x95.toInt = (9 : Int32).toInt + a2.toInt := ai_add ex95 ⟨zq2, zq3⟩ ⟨ba2_l, ba2_u⟩ (by decide) (by decide)
            have bx95 : (9 : Int) ≤ x95.toInt ∧ x95.toInt ≤ 17 := ⟨by rw [qx95]; exact Int.add_le_add zq2 ba2_l, by rw [qx95]; exact Int.add_le_add zq3 ba2_u⟩
            have wx95 : x95.toInt = 9 + a2.toInt := qx95
            refine lv_dup2_11 hx hb dX8_speakOn_96 rfl rfl ?_
            refine va_iald hx hb hK hP 1 0 rfl rfl (ai_in bx95.1 bx95.2 (by decide) (by decide)) dX8_speakOn_97 ?_
            refine lv_topi (fun x97 ex97 => ?_)
            refine lv_aload_n hx hb dX8_speakOn_98 rfl (lv_at hl 0 rfl) ?_
            refine va_get (D := (dC, dI)) (ci := 8) (v := .int x26) (C := RX8) (T := TX8) (N := 40) hx hb hts zi_X8_speakOn_8 hown hK hP 0 rfl rfl 28 (by decide) (hts (.fieldLink RX8 248 "WaxTurnsModel" "said" "I") (List.mem_cons_of_mem _ (List.mem_append_left _ (List.mem_of_getElem? (i := 1) rfl)))) (fun _ h9 => h9) rfl dX8_speakOn_99 ?_
            refine lv_ior hx hb dX8_speakOn_102 ?_
            refine lv_topi (fun x102 ex102 => ?_)
            refine va_iast hx hb hK hP hD hS 1 0 rfl rfl (ai_in bx95.1 bx95.2 (by decide) (by decide)) dX8_speakOn_103 (fun H locs hP hD hS => ?_)
            obtain ⟨f103, ef103⟩ : ∃ g9 : Nat → Int32, g9 = upd fa1 (x95 : Int32).toNatClampNeg x102 := ⟨_, rfl⟩
            refine zs_1 (y := (a1, .inl (ka1, 23, .inl (f103)))) hP hD (by rw [ef103]) (fun hP hD => ?_)
            have bf103 : ((∀ k : Nat, 0 ≤ k → k ≤ 8 → (0 : Int) ≤ (f103 k).toInt ∧ (f103 k).toInt ≤ 8) ∧ (∀ k : Nat, 19 ≤ k → k ≤ 19 → (0 : Int) ≤ (f103 k).toInt ∧ (f103 k).toInt ≤ 8) ∧ (∀ k : Nat, 20 ≤ k → k ≤ 20 → (0 : Int) ≤ (f103 k).toInt ∧ (f103 k).toInt ≤ 19)) := by rw [ef103]; exact ⟨ai_updO bfa1.1 _ (Or.inr (ai_ngt_of bx95.1 (by decide) (by decide))), ai_updO bfa1.2.1 _ (Or.inl (ai_nlt_of bx95.1 bx95.2 (by decide) (by decide))), ai_updO bfa1.2.2 _ (Or.inl (ai_nlt_of bx95.1 bx95.2 (by decide) (by decide)))⟩
            exact W.vret hx hb hr (fun t ht hW => ⟨⟨(), rfl, trivial, x26, f103, bf103, by rw [ht]; exact hP, va_K.moved hW.alike hK, hD⟩, hS.F ht⟩) hS.2.2 dX8_speakOn_104
        · have gc47 := ai_nlt c47
          have u47f_j40l5 : j40l5.toInt ≤ (9 : Int) := Int.le_trans gc47 bx46.2
          have l47f_x46 : (1 : Int) ≤ x46.toInt := bx46.1
          refine lv_iload hx hb dX8_speakOn_50 (lv_at hl 3 rfl) ?_
          have J78 : ∀ (j78s0 : Int32) (H : Heap) (locs : List Loc) (ls : Array Slot), (0 : Int) ≤ j78s0.toInt → j78s0.toInt ≤ (1 : Int) → va_P (dC, dI) vwCl [(a0, .inr (8, [a0g_0, a0g_1, a0g_2, a0g_3, a0g_4, a0g_5, a0g_6, a0g_7, a0g_8, a0g_9, a0g_10, a0g_11, a0g_12, a0g_13, a0g_14, Value.ref a0_15, a0g_16, a0g_17, a0g_18, a0g_19, a0g_20, a0g_21, a0g_22, Value.ref a0_23, Value.ref a0_24, Value.int a0_25, a0g_26, a0g_27, Value.int x26, a0g_29, a0g_30, a0g_31, a0g_32, a0g_33, a0g_34, a0g_35, a0g_36, a0g_37, a0g_38, a0g_39])), (a1, .inl (ka1, 23, .inl (fa1))), (a0_15, .inl (ka0_15, 156, .inl (fa0_15))), (a0_24, .inl (ka0_24, 3, .inl (fa0_24))), (a0_23, .inl (ka0_23, 3, .inl (fa0_23)))] H → va_D A [(a0, .inr (8, [a0g_0, a0g_1, a0g_2, a0g_3, a0g_4, a0g_5, a0g_6, a0g_7, a0g_8, a0g_9, a0g_10, a0g_11, a0g_12, a0g_13, a0g_14, Value.ref a0_15, a0g_16, a0g_17, a0g_18, a0g_19, a0g_20, a0g_21, a0g_22, Value.ref a0_23, Value.ref a0_24, Value.int a0_25, a0g_26, a0g_27, Value.int x26, a0g_29, a0g_30, a0g_31, a0g_32, a0g_33, a0g_34, a0g_35, a0g_36, a0g_37, a0g_38, a0g_39])), (a1, .inl (ka1, 23, .inl (fa1))), (a0_15, .inl (ka0_15, 156, .inl (fa0_15))), (a0_24, .inl (ka0_24, 3, .inl (fa0_24))), (a0_23, .inl (ka0_23, 3, .inl (fa0_23)))] → va_S A s.heap H locs → lv_has ls 6 [(0, .ref a0), (1, .ref a1), (2, .int a2), (5, .int j40l5)] → K H locs (F0 m 78 ls [.int j78s0]) := by
            intro j78s0 H locs ls  bj78s0_l bj78s0_u hP hD hS hl
            refine (hK0 _ _ _).mpr ?_
            refine lv_istore (lv' := [(4, .int j78s0), (0, .ref a0), (1, .ref a1), (2, .int a2), (5, .int j40l5)]) hx hb dX8_speakOn_78 hl (by decide) rfl (fun ls hl => ?_)
            obtain ⟨x80, ex80⟩ : ∃ y : Int32, y = j40l5 + Int32.ofInt 1 := ⟨_, rfl⟩
            have qx80 : x80.toInt = j40l5.toInt + 1 := ai_inc ex80 (by decide) (by decide) u47f_j40l5 (by decide)
            have bx80 : (0 : Int) ≤ x80.toInt ∧ x80.toInt ≤ 10 := ⟨by rw [qx80]; exact Int.add_le_add bj40l5_l (Int.le_refl _), by rw [qx80]; exact Int.add_le_add u47f_j40l5 (Int.le_refl _)⟩
            refine lv_iinc (v := x80) (lv' := [(5, .int x80), (4, .int j78s0), (0, .ref a0), (1, .ref a1), (2, .int a2)]) hx hb dX8_speakOn_80 hl (k := 4) rfl ex80.symm (by decide) rfl (fun ls hl => ?_)
            refine lv_goto (tgt := 40) hx hb dX8_speakOn_83 (by decide) ?_
            exact (hK0 _ _ _).mp (ih40 x80 j78s0 _ _ _ (by first | exact zg_s hm40 qx80 | (have h0 := qx80; omega)) (Int.le_trans zq69 bx80.1) bx80.2 bj78s0_l bj78s0_u hP hD hS (lv_sub hl [2, 3, 4, 1, 0] rfl))
          have J73 : ∀ (H : Heap) (locs : List Loc) (ls : Array Slot), va_P (dC, dI) vwCl [(a0, .inr (8, [a0g_0, a0g_1, a0g_2, a0g_3, a0g_4, a0g_5, a0g_6, a0g_7, a0g_8, a0g_9, a0g_10, a0g_11, a0g_12, a0g_13, a0g_14, Value.ref a0_15, a0g_16, a0g_17, a0g_18, a0g_19, a0g_20, a0g_21, a0g_22, Value.ref a0_23, Value.ref a0_24, Value.int a0_25, a0g_26, a0g_27, Value.int x26, a0g_29, a0g_30, a0g_31, a0g_32, a0g_33, a0g_34, a0g_35, a0g_36, a0g_37, a0g_38, a0g_39])), (a1, .inl (ka1, 23, .inl (fa1))), (a0_15, .inl (ka0_15, 156, .inl (fa0_15))), (a0_24, .inl (ka0_24, 3, .inl (fa0_24))), (a0_23, .inl (ka0_23, 3, .inl (fa0_23)))] H → va_D A [(a0, .inr (8, [a0g_0, a0g_1, a0g_2, a0g_3, a0g_4, a0g_5, a0g_6, a0g_7, a0g_8, a0g_9, a0g_10, a0g_11, a0g_12, a0g_13, a0g_14, Value.ref a0_15, a0g_16, a0g_17, a0g_18, a0g_19, a0g_20, a0g_21, a0g_22, Value.ref a0_23, Value.ref a0_24, Value.int a0_25, a0g_26, a0g_27, Value.int x26, a0g_29, a0g_30, a0g_31, a0g_32, a0g_33, a0g_34, a0g_35, a0g_36, a0g_37, a0g_38, a0g_39])), (a1, .inl (ka1, 23, .inl (fa1))), (a0_15, .inl (ka0_15, 156, .inl (fa0_15))), (a0_24, .inl (ka0_24, 3, .inl (fa0_24))), (a0_23, .inl (ka0_23, 3, .inl (fa0_23)))] → va_S A s.heap H locs → lv_has ls 6 [(0, .ref a0), (1, .ref a1), (2, .int a2), (5, .int j40l5)] → K H locs (F0 m 73 ls []) := by
            intro  H locs ls   hP hD hS hl
            refine (hK0 _ _ _).mpr ?_
            refine lv_iconst (v := 1) hx hb dX8_speakOn_73 zk_iconst_1 ?_
            refine lv_goto (tgt := 78) hx hb dX8_speakOn_74 (by decide) ?_
            exact (hK0 _ _ _).mp (J78 1 _ _ _  (Int.le_trans zq4 zq1) zq0 hP hD hS (lv_sub hl [0, 1, 2, 3] rfl))
          refine lv_if_ne (tgt := 73) hx hb dX8_speakOn_52 (by decide) (fun c52 => ?_) (fun c52 => ?_)
          · have gc52 := ai_ne c52
            have l52t_j40l4 : (1 : Int) ≤ j40l4.toInt := (by first | exact zg_l bj40l4_l gc52 (by decide) (by decide) | (have h1 := bj40l4_l; have h2 : (0 : Int32).toInt = 0 := (by decide); rw [h2] at gc52; omega))
            exact (hK0 _ _ _).mp (J73  _ _ _   hP hD hS (lv_sub hl [0, 1, 2, 4] rfl))
          · have gc52 := ai_eq c52
            have u52f_j40l4 : j40l4.toInt ≤ (0 : Int) := Int.le_trans (Int.le_of_eq gc52) zq6
            have l52f_j40l4 : (0 : Int) ≤ j40l4.toInt := bj40l4_l
            refine lv_iload hx hb dX8_speakOn_55 (lv_at hl 4 rfl) ?_
            have J77 : ∀ (H : Heap) (locs : List Loc) (ls : Array Slot), va_P (dC, dI) vwCl [(a0, .inr (8, [a0g_0, a0g_1, a0g_2, a0g_3, a0g_4, a0g_5, a0g_6, a0g_7, a0g_8, a0g_9, a0g_10, a0g_11, a0g_12, a0g_13, a0g_14, Value.ref a0_15, a0g_16, a0g_17, a0g_18, a0g_19, a0g_20, a0g_21, a0g_22, Value.ref a0_23, Value.ref a0_24, Value.int a0_25, a0g_26, a0g_27, Value.int x26, a0g_29, a0g_30, a0g_31, a0g_32, a0g_33, a0g_34, a0g_35, a0g_36, a0g_37, a0g_38, a0g_39])), (a1, .inl (ka1, 23, .inl (fa1))), (a0_15, .inl (ka0_15, 156, .inl (fa0_15))), (a0_24, .inl (ka0_24, 3, .inl (fa0_24))), (a0_23, .inl (ka0_23, 3, .inl (fa0_23)))] H → va_D A [(a0, .inr (8, [a0g_0, a0g_1, a0g_2, a0g_3, a0g_4, a0g_5, a0g_6, a0g_7, a0g_8, a0g_9, a0g_10, a0g_11, a0g_12, a0g_13, a0g_14, Value.ref a0_15, a0g_16, a0g_17, a0g_18, a0g_19, a0g_20, a0g_21, a0g_22, Value.ref a0_23, Value.ref a0_24, Value.int a0_25, a0g_26, a0g_27, Value.int x26, a0g_29, a0g_30, a0g_31, a0g_32, a0g_33, a0g_34, a0g_35, a0g_36, a0g_37, a0g_38, a0g_39])), (a1, .inl (ka1, 23, .inl (fa1))), (a0_15, .inl (ka0_15, 156, .inl (fa0_15))), (a0_24, .inl (ka0_24, 3, .inl (fa0_24))), (a0_23, .inl (ka0_23, 3, .inl (fa0_23)))] → va_S A s.heap H locs → lv_has ls 6 [(0, .ref a0), (1, .ref a1), (2, .int a2), (5, .int j40l5)] → K H locs (F0 m 77 ls []) := by
              intro  H locs ls   hP hD hS hl
              refine (hK0 _ _ _).mpr ?_
              refine lv_iconst (v := 0) hx hb dX8_speakOn_77 zk_iconst_0 ?_
              exact (hK0 _ _ _).mp (J78 0 _ _ _  zq5 (Int.le_trans zq6 zq4) hP hD hS (lv_sub hl [0, 1, 2, 3] rfl))
            refine lv_if_lt (tgt := 77) hx hb dX8_speakOn_57 (by decide) (fun c57 => ?_) (fun c57 => ?_)
            · have gc57 := ai_lt c57
              have u57t_j40l5 : j40l5.toInt ≤ (-1 : Int) := ai_lthi gc57 zq6
              exact (hK0 _ _ _).mp (J77  _ _ _   hP hD hS (lv_sub hl [0, 1, 2, 4] rfl))
            · have gc57 := ai_nlt c57
              have l57f_j40l5 : (0 : Int) ≤ j40l5.toInt := Int.le_trans zq5 gc57
              refine lv_aload_n hx hb dX8_speakOn_60 rfl (lv_at hl 0 rfl) ?_
              refine lv_iload hx hb dX8_speakOn_61 (lv_at hl 4 rfl) ?_
              refine lv_aload_n hx hb dX8_speakOn_63 rfl (lv_at hl 1 rfl) ?_
              refine lv_bipush (v := 21) hx hb dX8_speakOn_64 zk_bipush_21 ?_
              refine va_iald hx hb hK hP 1 0 rfl rfl (by unfold vp_in; decide +kernel) dX8_speakOn_66 ?_
              refine lv_topi (fun x66 ex66 => ?_)
              refine zc_cutc (wc := [(a0, .inr (8, [a0g_0, a0g_1, a0g_2, a0g_3, a0g_4, a0g_5, a0g_6, a0g_7, a0g_8, a0g_9, a0g_10, a0g_11, a0g_12, a0g_13, a0g_14, Value.ref a0_15, a0g_16, a0g_17, a0g_18, a0g_19, a0g_20, a0g_21, a0g_22, Value.ref a0_23, Value.ref a0_24, Value.int a0_25, a0g_26, a0g_27, Value.int x26, a0g_29, a0g_30, a0g_31, a0g_32, a0g_33, a0g_34, a0g_35, a0g_36, a0g_37, a0g_38, a0g_39])), (a0_15, .inl (ka0_15, 156, .inl (fa0_15))), (a0_24, .inl (ka0_24, 3, .inl (fa0_24))), (a0_23, .inl (ka0_23, 3, .inl (fa0_23)))]) hP hD hS hA [0, 2, 3, 4] (by decide +kernel) rfl (fun hPc hDc hFc hCc => ?_)
              have hKc := hK.sub (tys' := [(ka0_15, .int), (ka0_24, .int), (ka0_23, .int)]) [1, 2, 3] rfl
              refine va_calli (va_runV (As := [.int j40l5, .int x66]) (rest := []) ⟨hx, hb, hml, hown, hts⟩ (c_X8_isWatched l dC dI H.size a0 j40l5 x66 a0g_0 a0g_1 a0g_2 a0g_3 a0g_4 a0g_5 a0g_6 a0g_7 a0g_8 a0g_9 a0g_10 a0g_11 a0g_12 a0g_13 a0g_14 a0g_16 a0g_17 a0g_18 a0g_19 a0g_20 a0g_21 a0g_22 a0g_26 a0g_27 (Value.int x26) a0g_29 a0g_30 a0g_31 a0g_32 a0g_33 a0g_34 a0g_35 a0g_36 a0g_37 a0g_38 a0g_39 a0_15 a0_23 a0_24 a0_25 ka0_15 fa0_15 ka0_24 fa0_24 ka0_23 fa0_23 bfa0_15 bfa0_24 bfa0_23) (cwV 2 hts gX8_speakOn_X8_isWatched rfl rfl rfl zd_X8_isWatched ⟨Nat.le_of_ble_eq_true rfl, Nat.le_of_ble_eq_true rfl⟩) ⟨ax_blind (fun _ _ _ _ _ => trivial), zr_8 hKc hPc (q0 := 0) rfl, ax_pre hPc hKc hDc (fun _ _ => trivial)⟩ rfl rfl hl.1 rfl (lv_room (Nat.le_of_ble_eq_true rfl)) dX8_speakOn_67 ⟨Nat.le_of_ble_eq_true rfl, Nat.le_of_ble_eq_true rfl⟩) hS (fun q _ h => hFc q h) hFc (fun r67 u t H locs ht hvm hw hB hz1 hk1 hS1 => zo hB ht hS1 (fun hP1 hK1 hD1 hS => ?_))
              refine zc_backc (w := [(a0, .inr (8, [a0g_0, a0g_1, a0g_2, a0g_3, a0g_4, a0g_5, a0g_6, a0g_7, a0g_8, a0g_9, a0g_10, a0g_11, a0g_12, a0g_13, a0g_14, Value.ref a0_15, a0g_16, a0g_17, a0g_18, a0g_19, a0g_20, a0g_21, a0g_22, Value.ref a0_23, Value.ref a0_24, Value.int a0_25, a0g_26, a0g_27, Value.int x26, a0g_29, a0g_30, a0g_31, a0g_32, a0g_33, a0g_34, a0g_35, a0g_36, a0g_37, a0g_38, a0g_39])), (a1, .inl (ka1, 23, .inl (fa1))), (a0_15, .inl (ka0_15, 156, .inl (fa0_15))), (a0_24, .inl (ka0_24, 3, .inl (fa0_24))), (a0_23, .inl (ka0_23, 3, .inl (fa0_23)))]) hP hD hCc hk1 hFc hP1 hD1 [.inr 0, .inl 1, .inr 1, .inr 2, .inr 3] (by decide +kernel) rfl (fun hP hD => ?_)
              rcases hw with hw | hw
              · subst hw
                refine lv_if_eq (tgt := 77) hx hb dX8_speakOn_70 (by decide) (fun c70 => absurd c70 (by decide +kernel)) (fun _ => ?_)
                exact (hK0 _ _ _).mp (J73  _ _ _   hP hD hS (lv_sub hl [0, 1, 2, 4] rfl))
              · subst hw
                refine lv_if_eq (tgt := 77) hx hb dX8_speakOn_70 (by decide) (fun _ => ?_) (fun c70 => absurd (by decide +kernel) c70)
                exact (hK0 _ _ _).mp (J77  _ _ _   hP hD hS (lv_sub hl [0, 1, 2, 4] rfl))
    exact (hK0 _ _ _).mp (J40 12 x37 0 _ _ _ (by have h1 : (-1 : Int) ≤ x37.toInt := bx37.1; have h2 : x37.toInt ≤ (7 : Int) := bx37.2; omega) bx37.1 (Int.le_trans bx37.2 zq159) zq5 (Int.le_trans zq6 zq4) hP hD hS (lv_sub hl [3, 4, 5, 1, 0] rfl))
  · have gc19 := ai_nlt c19
    have u19f_x18 : x18.toInt ≤ (19 : Int) := Int.le_trans gc19 bx3.2
    have l19f_x3 : (0 : Int) ≤ x3.toInt := bx3.1
    exact W.vret hx hb hr (fun t ht hW => ⟨⟨(), rfl, trivial, a0_28, fa1, bfa1, by rw [ht]; exact hP, va_K.moved hW.alike hK, hD⟩, hS.F ht⟩) hS.2.2 dX8_speakOn_22
end P131_safe
section P132_safe
set_option maxHeartbeats 4000000 in
set_option maxRecDepth 100000 in
theorem c_X8_minuteOn (l : Launch) (dC : Nat → ClassId) (dI : Nat → Nat → Nat) (sz : Nat) (a0 : Nat) (a1 : Nat) (a0g_0 a0g_1 a0g_2 a0g_3 a0g_4 a0g_5 a0g_6 a0g_7 a0g_8 a0g_9 a0g_10 a0g_11 a0g_12 a0g_13 a0g_14 a0g_16 a0g_17 a0g_18 a0g_19 a0g_20 a0g_21 a0g_22 a0g_29 a0g_30 a0g_31 a0g_32 a0g_33 a0g_34 a0g_35 a0g_36 a0g_37 a0g_38 a0g_39 : Value) (a0_15 : Nat) (a0_23 : Nat) (a0_24 : Nat) (a0_25 : Int32) (a0_26 : Int32) (a0_27 : Int32) (a0_28 : Int32) (ka1 : ClassId) (fa1 : Nat → Int32) (ka0_15 : ClassId) (fa0_15 : Nat → Int32) (ka0_24 : ClassId) (fa0_24 : Nat → Int32) (ka0_23 : ClassId) (fa0_23 : Nat → Int32) (bfa1 : ((∀ k : Nat, 0 ≤ k → k ≤ 8 → (0 : Int) ≤ (fa1 k).toInt ∧ (fa1 k).toInt ≤ 8) ∧ (∀ k : Nat, 19 ≤ k → k ≤ 19 → (0 : Int) ≤ (fa1 k).toInt ∧ (fa1 k).toInt ≤ 8) ∧ (∀ k : Nat, 20 ≤ k → k ≤ 20 → (0 : Int) ≤ (fa1 k).toInt ∧ (fa1 k).toInt ≤ 19))) (bfa0_15 : ((∀ k : Nat, 0 ≤ k → k ≤ 0 → (2 : Int) ≤ (fa0_15 k).toInt ∧ (fa0_15 k).toInt ≤ 9) ∧ (∀ k : Nat, 1 ≤ k → k ≤ 1 → (1 : Int) ≤ (fa0_15 k).toInt ∧ (fa0_15 k).toInt ≤ 20) ∧ (∀ k : Nat, 2 ≤ k → k ≤ 2 → (0 : Int) ≤ (fa0_15 k).toInt ∧ (fa0_15 k).toInt ≤ 8) ∧ (∀ k : Nat, 3 ≤ k → k ≤ 3 → (0 : Int) ≤ (fa0_15 k).toInt ∧ (fa0_15 k).toInt ≤ 100) ∧ (∀ k : Nat, 4 ≤ k → k ≤ 4 → (0 : Int) ≤ (fa0_15 k).toInt ∧ (fa0_15 k).toInt ≤ 9) ∧ (∀ k : Nat, 5 ≤ k → k ≤ 5 → (0 : Int) ≤ (fa0_15 k).toInt ∧ (fa0_15 k).toInt ≤ 3) ∧ (∀ k : Nat, 6 ≤ k → k ≤ 6 → (0 : Int) ≤ (fa0_15 k).toInt ∧ (fa0_15 k).toInt ≤ 6) ∧ (∀ k : Nat, 7 ≤ k → k ≤ 9 → (0 : Int) ≤ (fa0_15 k).toInt ∧ (fa0_15 k).toInt ≤ 8) ∧ (∀ k : Nat, 12 ≤ k → k ≤ 29 → (0 : Int) ≤ (fa0_15 k).toInt ∧ (fa0_15 k).toInt ≤ 20) ∧ (∀ k : Nat, 30 ≤ k → k ≤ 35 → (0 : Int) ≤ (fa0_15 k).toInt ∧ (fa0_15 k).toInt ≤ 8) ∧ (∀ k : Nat, 36 ≤ k → k ≤ 47 → (0 : Int) ≤ (fa0_15 k).toInt ∧ (fa0_15 k).toInt ≤ 999))) (bfa0_24 : (∀ k, (0 : Int) ≤ (fa0_24 k).toInt ∧ (fa0_24 k).toInt ≤ 80)) (bfa0_23 : (∀ k, (0 : Int) ≤ (fa0_23 k).toInt ∧ (fa0_23 k).toInt ≤ 80)) (hkm : ∀ (j i0 i : Int32), (0 : Int) ≤ j.toInt → j.toInt ≤ 8 → i0.toInt = 12 + 2 * j.toInt → i.toInt = 13 + 2 * j.toInt → (fa0_15 i0.toNatClampNeg).toInt = (1 : Int32).toInt → (1 : Int) ≤ (fa0_15 i.toNatClampNeg).toInt) : zm l yX8_minuteOn wsX8_minuteOn ({ frames := 3, cells := 0, slots := 0, locals := 73 }) [.ref a0, .ref a1] dC dI sz [(a0, .inr (8, [a0g_0, a0g_1, a0g_2, a0g_3, a0g_4, a0g_5, a0g_6, a0g_7, a0g_8, a0g_9, a0g_10, a0g_11, a0g_12, a0g_13, a0g_14, Value.ref a0_15, a0g_16, a0g_17, a0g_18, a0g_19, a0g_20, a0g_21, a0g_22, Value.ref a0_23, Value.ref a0_24, Value.int a0_25, Value.int a0_26, Value.int a0_27, Value.int a0_28, a0g_29, a0g_30, a0g_31, a0g_32, a0g_33, a0g_34, a0g_35, a0g_36, a0g_37, a0g_38, a0g_39])), (a1, .inl (ka1, 23, .inl (fa1))), (a0_15, .inl (ka0_15, 156, .inl (fa0_15))), (a0_24, .inl (ka0_24, 3, .inl (fa0_24))), (a0_23, .inl (ka0_23, 3, .inl (fa0_23)))] [(ka1, .int), (ka0_15, .int), (ka0_24, .int), (ka0_23, .int)] (fun A _ => True) (fun A => va_Qv (fun (_ : Unit) => True) (fun (_ : Unit) (t : State) => ∃ na0_26 : Int32, ∃ na0_27 : Int32, ∃ na0_28 : Int32, ∃ nfa1 : Nat → Int32, ((∀ k : Nat, 0 ≤ k → k ≤ 8 → (0 : Int) ≤ (nfa1 k).toInt ∧ (nfa1 k).toInt ≤ 8) ∧ (∀ k : Nat, 19 ≤ k → k ≤ 19 → (0 : Int) ≤ (nfa1 k).toInt ∧ (nfa1 k).toInt ≤ 8) ∧ (∀ k : Nat, 20 ≤ k → k ≤ 20 → (0 : Int) ≤ (nfa1 k).toInt ∧ (nfa1 k).toInt ≤ 19)) ∧ ax_B dC dI A [(a0, .inr (8, [a0g_0, a0g_1, a0g_2, a0g_3, a0g_4, a0g_5, a0g_6, a0g_7, a0g_8, a0g_9, a0g_10, a0g_11, a0g_12, a0g_13, a0g_14, Value.ref a0_15, a0g_16, a0g_17, a0g_18, a0g_19, a0g_20, a0g_21, a0g_22, Value.ref a0_23, Value.ref a0_24, Value.int a0_25, Value.int na0_26, Value.int na0_27, Value.int na0_28, a0g_29, a0g_30, a0g_31, a0g_32, a0g_33, a0g_34, a0g_35, a0g_36, a0g_37, a0g_38, a0g_39])), (a1, .inl (ka1, 23, .inl (nfa1))), (a0_15, .inl (ka0_15, 156, .inl (fa0_15))), (a0_24, .inl (ka0_24, 3, .inl (fa0_24))), (a0_23, .inl (ka0_23, 3, .inl (fa0_23)))] [(ka1, .int), (ka0_15, .int), (ka0_24, .int), (ka0_23, .int)] t) A) := by
  refine zh (cc := cX8_minuteOn) (maxL := 3) (ret := none) zn_RX8 rfl (Nat.le_of_ble_eq_true rfl) (fun p e s m below meth c A ls hx hb hml hr hts (hown : s.vm.findClass RX8 = some m.cls) hlocks hA hS hP hK hD hE (hl : lv_has ls 3 [(0, .ref a0), (1, .ref a1)]) => ?_)
  refine lv_aload_n hx hb dX8_minuteOn_0 rfl (lv_at hl 1 rfl) ?_
  refine lv_bipush (v := 19) hx hb dX8_minuteOn_1 zk_bipush_19 ?_
  refine va_iald hx hb hK hP 1 0 rfl rfl (by unfold vp_in; decide +kernel) dX8_minuteOn_3 ?_
  refine lv_topi (fun x3 ex3 => ?_)
  have bx3 : (0 : Int) ≤ x3.toInt ∧ x3.toInt ≤ 8 := by rw [ex3]; exact ai_rd bfa1.2.1 zq160 zq161 (by decide) (by decide) (by decide)
  refine lv_istore_n (lv' := [(2, .int x3), (0, .ref a0), (1, .ref a1)]) hx hb dX8_minuteOn_4 rfl hl (by decide) rfl (fun ls hl => ?_)
  refine lv_aload_n hx hb dX8_minuteOn_5 rfl (lv_at hl 1 rfl) ?_
  refine lv_iconst (v := 0) hx hb dX8_minuteOn_6 zk_iconst_0 ?_
  refine va_put (D := (dC, dI)) (ci := 8) (v := .int 0) (ty := .int) (C := RX8) (T := TX8) (N := 40) hx hb hts zi_X8_minuteOn_8 tyX8 tyX8_ok nmX8 hown hK hP hD hS 0 rfl rfl 28 (by decide) (hts (.fieldLink RX8 248 "WaxTurnsModel" "said" "I") (zm_X8_minuteOn_r1 (List.mem_of_getElem? (i := 0) rfl))) (fun _ h9 => h9) rfl (tyX8_ok 28 (by decide)) rfl rfl (Nat.le_of_ble_eq_true rfl) dX8_minuteOn_7 (fun H locs hP hD hS => ?_)
  refine zs_0 (y := (a0, .inr (8, [a0g_0, a0g_1, a0g_2, a0g_3, a0g_4, a0g_5, a0g_6, a0g_7, a0g_8, a0g_9, a0g_10, a0g_11, a0g_12, a0g_13, a0g_14, Value.ref a0_15, a0g_16, a0g_17, a0g_18, a0g_19, a0g_20, a0g_21, a0g_22, Value.ref a0_23, Value.ref a0_24, Value.int a0_25, Value.int a0_26, Value.int a0_27, Value.int 0, a0g_29, a0g_30, a0g_31, a0g_32, a0g_33, a0g_34, a0g_35, a0g_36, a0g_37, a0g_38, a0g_39]))) hP hD rfl (fun hP hD => ?_)
  refine lv_aload_n hx hb dX8_minuteOn_10 rfl (lv_at hl 2 rfl) ?_
  refine lv_bipush (v := 18) hx hb dX8_minuteOn_11 zk_bipush_18 ?_
  refine va_iald hx hb hK hP 1 0 rfl rfl (by unfold vp_in; decide +kernel) dX8_minuteOn_13 ?_
  refine lv_topi (fun x13 ex13 => ?_)
  refine lv_iload_n hx hb dX8_minuteOn_14 rfl (lv_at hl 0 rfl) ?_
  refine va_calli (va_runS (As := [.int x13, .int x3]) (rest := []) ⟨hx, hb, hml, hown, hts⟩ (c_X8_hasBit l dC dI H.size x13 x3 ) (va_cwS 2 hts gX8_minuteOn_X8_hasBit rfl rfl rfl zd_X8_hasBit.2 ⟨Nat.le_of_ble_eq_true rfl, Nat.le_of_ble_eq_true rfl⟩) ⟨ax_blind (fun _ _ _ _ _ => trivial), ax_pre (zp_P0 hP) (zp_K hK) (zp_D0 hD) (fun _ _ => trivial)⟩ rfl rfl hl.1 rfl (lv_room (Nat.le_of_ble_eq_true rfl)) dX8_minuteOn_15 ⟨Nat.le_of_ble_eq_true rfl, Nat.le_of_ble_eq_true rfl⟩) hS (fun q _ h => zp_F0 hD hS hA q h) (zp_F0 hD hS hA) (fun r15 u t H locs ht hvm hw hB hz1 hk1 hS1 => zo0 hB ht hP hD hk1 (zp_F0 hD hS hA) hS1 (fun hP hK1 hD hS => ?_))
  rcases hw with hw | hw
  · subst hw
    refine lv_if_ne (tgt := 66) hx hb dX8_minuteOn_18 (by decide) (fun _ => ?_) (fun c18 => absurd c18 (by decide +kernel))
    refine lv_aload_n hx hb dX8_minuteOn_66 rfl (lv_at hl 1 rfl) ?_
    refine lv_iload_n hx hb dX8_minuteOn_67 rfl (lv_at hl 0 rfl) ?_
    refine va_put (D := (dC, dI)) (ci := 8) (v := .int x3) (ty := .int) (C := RX8) (T := TX8) (N := 40) hx hb hts zi_X8_minuteOn_8 tyX8 tyX8_ok nmX8 hown hK hP hD hS 0 rfl rfl 26 (by decide) (hts (.fieldLink RX8 258 "WaxTurnsModel" "lived" "I") (zm_X8_minuteOn_r1 (List.mem_of_getElem? (i := 2) rfl))) (fun _ h9 => h9) rfl (tyX8_ok 26 (by decide)) rfl rfl (Nat.le_of_ble_eq_true rfl) dX8_minuteOn_68 (fun H locs hP hD hS => ?_)
    refine zs_0 (y := (a0, .inr (8, [a0g_0, a0g_1, a0g_2, a0g_3, a0g_4, a0g_5, a0g_6, a0g_7, a0g_8, a0g_9, a0g_10, a0g_11, a0g_12, a0g_13, a0g_14, Value.ref a0_15, a0g_16, a0g_17, a0g_18, a0g_19, a0g_20, a0g_21, a0g_22, Value.ref a0_23, Value.ref a0_24, Value.int a0_25, Value.int x3, Value.int a0_27, Value.int 0, a0g_29, a0g_30, a0g_31, a0g_32, a0g_33, a0g_34, a0g_35, a0g_36, a0g_37, a0g_38, a0g_39]))) hP hD rfl (fun hP hD => ?_)
    refine lv_aload_n hx hb dX8_minuteOn_71 rfl (lv_at hl 1 rfl) ?_
    refine lv_aload_n hx hb dX8_minuteOn_72 rfl (lv_at hl 2 rfl) ?_
    refine lv_bipush (v := 18) hx hb dX8_minuteOn_73 zk_bipush_18 ?_
    refine va_iald hx hb hK hP 1 0 rfl rfl (by unfold vp_in; decide +kernel) dX8_minuteOn_75 ?_
    refine ax_ti x13 ex13.symm ?_
    refine lv_iload_n hx hb dX8_minuteOn_76 rfl (lv_at hl 0 rfl) ?_
    refine va_calli (va_runS (As := [.int x13, .int x3]) (rest := [.ref a0]) ⟨hx, hb, hml, hown, hts⟩ (c_X8_hasBit l dC dI H.size x13 x3 ) (va_cwS 2 hts gX8_minuteOn_X8_hasBit rfl rfl rfl zd_X8_hasBit.2 ⟨Nat.le_of_ble_eq_true rfl, Nat.le_of_ble_eq_true rfl⟩) ⟨ax_blind (fun _ _ _ _ _ => trivial), ax_pre (zp_P0 hP) (zp_K hK) (zp_D0 hD) (fun _ _ => trivial)⟩ rfl rfl hl.1 rfl (lv_room (Nat.le_of_ble_eq_true rfl)) dX8_minuteOn_77 ⟨Nat.le_of_ble_eq_true rfl, Nat.le_of_ble_eq_true rfl⟩) hS (fun q _ h => zp_F0 hD hS hA q h) (zp_F0 hD hS hA) (fun r77 u t H locs ht hvm hw hB hz1 hk1 hS1 => zo0 hB ht hP hD hk1 (zp_F0 hD hS hA) hS1 (fun hP hK1 hD hS => ?_))
    rcases hw with hw | hw
    · subst hw
      refine lv_if_eq (tgt := 87) hx hb dX8_minuteOn_80 (by decide) (fun c80 => absurd c80 (by decide +kernel)) (fun _ => ?_)
      refine lv_iconst (v := (-1)) hx hb dX8_minuteOn_83 zk_iconst_n1 ?_
      refine lv_goto (tgt := 90) hx hb dX8_minuteOn_84 (by decide) ?_
      refine va_put (D := (dC, dI)) (ci := 8) (v := .int (-1)) (ty := .int) (C := RX8) (T := TX8) (N := 40) hx hb hts zi_X8_minuteOn_8 tyX8 tyX8_ok nmX8 hown hK hP hD hS 0 rfl rfl 27 (by decide) (hts (.fieldLink RX8 261 "WaxTurnsModel" "livedAt" "I") (zm_X8_minuteOn_r1 (List.mem_of_getElem? (i := 3) rfl))) (fun _ h9 => h9) rfl (tyX8_ok 27 (by decide)) rfl rfl (Nat.le_of_ble_eq_true rfl) dX8_minuteOn_90 (fun H locs hP hD hS => ?_)
      refine zs_0 (y := (a0, .inr (8, [a0g_0, a0g_1, a0g_2, a0g_3, a0g_4, a0g_5, a0g_6, a0g_7, a0g_8, a0g_9, a0g_10, a0g_11, a0g_12, a0g_13, a0g_14, Value.ref a0_15, a0g_16, a0g_17, a0g_18, a0g_19, a0g_20, a0g_21, a0g_22, Value.ref a0_23, Value.ref a0_24, Value.int a0_25, Value.int x3, Value.int (-1), Value.int 0, a0g_29, a0g_30, a0g_31, a0g_32, a0g_33, a0g_34, a0g_35, a0g_36, a0g_37, a0g_38, a0g_39]))) hP hD rfl (fun hP hD => ?_)
      refine lv_aload_n hx hb dX8_minuteOn_93 rfl (lv_at hl 2 rfl) ?_
      refine lv_bipush (v := 21) hx hb dX8_minuteOn_94 zk_bipush_21 ?_
      refine lv_dup2_11 hx hb dX8_minuteOn_96 rfl rfl ?_
      refine va_iald hx hb hK hP 1 0 rfl rfl (by unfold vp_in; decide +kernel) dX8_minuteOn_97 ?_
      refine lv_topi (fun x97 ex97 => ?_)
      refine lv_iconst (v := 1) hx hb dX8_minuteOn_98 zk_iconst_1 ?_
      refine lv_iadd hx hb dX8_minuteOn_99 ?_
      refine lv_topi (fun x99 ex99 => ?_)
      refine va_iast hx hb hK hP hD hS 1 0 rfl rfl (by unfold vp_in; decide +kernel) dX8_minuteOn_100 (fun H locs hP hD hS => ?_)
      obtain ⟨f100, ef100⟩ : ∃ g9 : Nat → Int32, g9 = upd fa1 (21 : Int32).toNatClampNeg x99 := ⟨_, rfl⟩
      refine zs_1 (y := (a1, .inl (ka1, 23, .inl (f100)))) hP hD (by rw [ef100]) (fun hP hD => ?_)
      have bf100 : ((∀ k : Nat, 0 ≤ k → k ≤ 8 → (0 : Int) ≤ (f100 k).toInt ∧ (f100 k).toInt ≤ 8) ∧ (∀ k : Nat, 19 ≤ k → k ≤ 19 → (0 : Int) ≤ (f100 k).toInt ∧ (f100 k).toInt ≤ 8) ∧ (∀ k : Nat, 20 ≤ k → k ≤ 20 → (0 : Int) ≤ (f100 k).toInt ∧ (f100 k).toInt ≤ 19)) := by rw [ef100]; exact ⟨ai_updO bfa1.1 _ (Or.inr (ai_ngt_of zq162 (by decide) (by decide))), ai_updO bfa1.2.1 _ (Or.inr (ai_ngt_of zq162 (by decide) (by decide))), ai_updO bfa1.2.2 _ (Or.inr (ai_ngt_of zq162 (by decide) (by decide)))⟩
      have kf100_21 : f100 21 = x99 := by rw [ef100]; exact ai_k1 (by decide +kernel)
      refine lv_aload_n hx hb dX8_minuteOn_101 rfl (lv_at hl 2 rfl) ?_
      refine lv_bipush (v := 20) hx hb dX8_minuteOn_102 zk_bipush_20 ?_
      refine lv_dup2_11 hx hb dX8_minuteOn_104 rfl rfl ?_
      refine va_iald hx hb hK hP 1 0 rfl rfl (by unfold vp_in; decide +kernel) dX8_minuteOn_105 ?_
      refine lv_topi (fun x105 ex105 => ?_)
      have bx105 : (0 : Int) ≤ x105.toInt ∧ x105.toInt ≤ 19 := by rw [ex105]; exact ai_rd bf100.2.2 zq153 zq154 (by decide) (by decide) (by decide)
      refine lv_iconst (v := 1) hx hb dX8_minuteOn_106 zk_iconst_1 ?_
      refine lv_iadd hx hb dX8_minuteOn_107 ?_
      refine lv_topi (fun x107 ex107 => ?_)
      have qx107 : x107.toInt = x105.toInt + (1 : Int32).toInt := ai_add ex107 ⟨bx105.1, bx105.2⟩ ⟨zq1, zq0⟩ (by decide) (by decide)
      have bx107 : (1 : Int) ≤ x107.toInt ∧ x107.toInt ≤ 20 := ⟨by rw [qx107]; exact Int.add_le_add bx105.1 zq1, by rw [qx107]; exact Int.add_le_add bx105.2 zq0⟩
      have wx107 : x107.toInt = x105.toInt + 1 := qx107
      refine va_iast hx hb hK hP hD hS 1 0 rfl rfl (by unfold vp_in; decide +kernel) dX8_minuteOn_108 (fun H locs hP hD hS => ?_)
      obtain ⟨f108, ef108⟩ : ∃ g9 : Nat → Int32, g9 = upd f100 (20 : Int32).toNatClampNeg x107 := ⟨_, rfl⟩
      refine zs_1 (y := (a1, .inl (ka1, 23, .inl (f108)))) hP hD (by rw [ef108]) (fun hP hD => ?_)
      have bf108 : ((∀ k : Nat, 0 ≤ k → k ≤ 8 → (0 : Int) ≤ (f108 k).toInt ∧ (f108 k).toInt ≤ 8) ∧ (∀ k : Nat, 19 ≤ k → k ≤ 19 → (0 : Int) ≤ (f108 k).toInt ∧ (f108 k).toInt ≤ 8) ∧ True) := by rw [ef108]; exact ⟨ai_updO bf100.1 _ (Or.inr (ai_ngt_of zq153 (by decide) (by decide))), ai_updO bf100.2.1 _ (Or.inr (ai_ngt_of zq153 (by decide) (by decide))), trivial⟩
      have kf108_20 : f108 20 = x107 := by rw [ef108]; exact ai_k1 (by decide +kernel)
      have kf108_21 : f108 21 = x99 := by rw [ef108]; exact ai_k2 (by decide +kernel) kf100_21
      refine lv_aload_n hx hb dX8_minuteOn_109 rfl (lv_at hl 2 rfl) ?_
      refine lv_bipush (v := 20) hx hb dX8_minuteOn_110 zk_bipush_20 ?_
      refine va_iald hx hb hK hP 1 0 rfl rfl (by unfold vp_in; decide +kernel) dX8_minuteOn_112 ?_
      refine ax_ti x107 ((congrArg f108 (by decide +kernel : (20 : Int32).toNatClampNeg = 20)).trans kf108_20) ?_
      refine lv_aload_n hx hb dX8_minuteOn_113 rfl (lv_at hl 1 rfl) ?_
      refine va_get (D := (dC, dI)) (ci := 8) (v := .ref a0_15) (C := RX8) (T := TX8) (N := 40) hx hb hts zi_X8_minuteOn_8 hown hK hP 0 rfl rfl 15 (by decide) (hts (.fieldLink RX8 20 "WaxTurnsModel" "\x72" "[I") (zm_X8_minuteOn_r1 (List.mem_of_getElem? (i := 1) rfl))) (fun _ h9 => h9) rfl dX8_minuteOn_114 ?_
      refine lv_iconst (v := 1) hx hb dX8_minuteOn_117 zk_iconst_1 ?_
      refine va_iald hx hb hK hP 2 1 rfl rfl (by unfold vp_in; decide +kernel) dX8_minuteOn_118 ?_
      refine lv_topi (fun x118 ex118 => ?_)
      have bx118 : (1 : Int) ≤ x118.toInt ∧ x118.toInt ≤ 20 := by rw [ex118]; exact ai_rd bfa0_15.2.1 zq1 zq0 (by decide) (by decide) (by decide)
      refine lv_icmp_ge (tgt := 123) hx hb dX8_minuteOn_119 (by decide) (fun c119 => ?_) (fun c119 => ?_)
      · have gc119 := ai_le c119
        have u119t_x118 : x118.toInt ≤ (20 : Int) := bx118.2
        have l119t_x107 : (1 : Int) ≤ x107.toInt := bx107.1
        refine lv_aload_n hx hb dX8_minuteOn_123 rfl (lv_at hl 2 rfl) ?_
        refine lv_bipush (v := 20) hx hb dX8_minuteOn_124 zk_bipush_20 ?_
        refine lv_iconst (v := 0) hx hb dX8_minuteOn_126 zk_iconst_0 ?_
        refine va_iast hx hb hK hP hD hS 1 0 rfl rfl (by unfold vp_in; decide +kernel) dX8_minuteOn_127 (fun H locs hP hD hS => ?_)
        obtain ⟨f127, ef127⟩ : ∃ g9 : Nat → Int32, g9 = upd f108 (20 : Int32).toNatClampNeg (0 : Int32) := ⟨_, rfl⟩
        refine zs_1 (y := (a1, .inl (ka1, 23, .inl (f127)))) hP hD (by rw [ef127]) (fun hP hD => ?_)
        have bf127 : ((∀ k : Nat, 0 ≤ k → k ≤ 8 → (0 : Int) ≤ (f127 k).toInt ∧ (f127 k).toInt ≤ 8) ∧ (∀ k : Nat, 19 ≤ k → k ≤ 19 → (0 : Int) ≤ (f127 k).toInt ∧ (f127 k).toInt ≤ 8) ∧ (∀ k : Nat, 20 ≤ k → k ≤ 20 → (0 : Int) ≤ (f127 k).toInt ∧ (f127 k).toInt ≤ 19)) := by rw [ef127]; exact ⟨ai_updO bf108.1 _ (Or.inr (ai_ngt_of zq153 (by decide) (by decide))), ai_updO bf108.2.1 _ (Or.inr (ai_ngt_of zq153 (by decide) (by decide))), ai_new (by decide +kernel) ⟨zq5, (Int.le_trans zq6 zq163)⟩⟩
        have kf127_20 : f127 20 = 0 := by rw [ef127]; exact ai_k1 (by decide +kernel)
        have kf127_21 : f127 21 = x99 := by rw [ef127]; exact ai_k2 (by decide +kernel) kf108_21
        refine lv_aload_n hx hb dX8_minuteOn_128 rfl (lv_at hl 2 rfl) ?_
        refine lv_bipush (v := 19) hx hb dX8_minuteOn_129 zk_bipush_19 ?_
        refine lv_aload_n hx hb dX8_minuteOn_131 rfl (lv_at hl 1 rfl) ?_
        refine lv_iload_n hx hb dX8_minuteOn_132 rfl (lv_at hl 0 rfl) ?_
        refine zc_cutc (wc := [(a0, .inr (8, [a0g_0, a0g_1, a0g_2, a0g_3, a0g_4, a0g_5, a0g_6, a0g_7, a0g_8, a0g_9, a0g_10, a0g_11, a0g_12, a0g_13, a0g_14, Value.ref a0_15, a0g_16, a0g_17, a0g_18, a0g_19, a0g_20, a0g_21, a0g_22, Value.ref a0_23, Value.ref a0_24, Value.int a0_25, Value.int x3, Value.int (-1), Value.int 0, a0g_29, a0g_30, a0g_31, a0g_32, a0g_33, a0g_34, a0g_35, a0g_36, a0g_37, a0g_38, a0g_39])), (a0_15, .inl (ka0_15, 156, .inl (fa0_15)))]) hP hD hS hA [0, 2] (by decide +kernel) rfl (fun hPc hDc hFc hCc => ?_)
        have hKc := hK.sub (tys' := [(ka0_15, .int)]) [1] rfl
        refine va_calli (va_runV (As := [.int x3]) (rest := [.int 19, .ref a1]) ⟨hx, hb, hml, hown, hts⟩ (c_X8_nextOf l dC dI H.size a0 x3 a0g_0 a0g_1 a0g_2 a0g_3 a0g_4 a0g_5 a0g_6 a0g_7 a0g_8 a0g_9 a0g_10 a0g_11 a0g_12 a0g_13 a0g_14 a0g_16 a0g_17 a0g_18 a0g_19 a0g_20 a0g_21 a0g_22 (Value.ref a0_23) (Value.ref a0_24) (Value.int a0_25) (Value.int x3) (Value.int (-1)) (Value.int 0) a0g_29 a0g_30 a0g_31 a0g_32 a0g_33 a0g_34 a0g_35 a0g_36 a0g_37 a0g_38 a0g_39 a0_15 ka0_15 fa0_15 bx3.1 bx3.2 bfa0_15) (cwV 1 hts gX8_minuteOn_X8_nextOf rfl rfl rfl zd_X8_nextOf ⟨Nat.le_of_ble_eq_true rfl, Nat.le_of_ble_eq_true rfl⟩) ⟨ax_blind (fun _ _ _ _ _ => trivial), zr_8 hKc hPc (q0 := 0) rfl, ax_pre hPc hKc hDc (fun _ _ => trivial)⟩ rfl rfl hl.1 rfl (lv_room (Nat.le_of_ble_eq_true rfl)) dX8_minuteOn_133 ⟨Nat.le_of_ble_eq_true rfl, Nat.le_of_ble_eq_true rfl⟩) hS (fun q _ h => hFc q h) hFc (fun r133 u t H locs ht hvm hw hB hz1 hk1 hS1 => zo hB ht hS1 (fun hP1 hK1 hD1 hS => ?_))
        refine zc_backc (w := [(a0, .inr (8, [a0g_0, a0g_1, a0g_2, a0g_3, a0g_4, a0g_5, a0g_6, a0g_7, a0g_8, a0g_9, a0g_10, a0g_11, a0g_12, a0g_13, a0g_14, Value.ref a0_15, a0g_16, a0g_17, a0g_18, a0g_19, a0g_20, a0g_21, a0g_22, Value.ref a0_23, Value.ref a0_24, Value.int a0_25, Value.int x3, Value.int (-1), Value.int 0, a0g_29, a0g_30, a0g_31, a0g_32, a0g_33, a0g_34, a0g_35, a0g_36, a0g_37, a0g_38, a0g_39])), (a1, .inl (ka1, 23, .inl (f127))), (a0_15, .inl (ka0_15, 156, .inl (fa0_15))), (a0_24, .inl (ka0_24, 3, .inl (fa0_24))), (a0_23, .inl (ka0_23, 3, .inl (fa0_23)))]) hP hD hCc hk1 hFc hP1 hD1 [.inr 0, .inl 1, .inr 1, .inl 3, .inl 4] (by decide +kernel) rfl (fun hP hD => ?_)
        have hw : (0 : Int) ≤ r133.toInt ∧ r133.toInt ≤ (8 : Int) := hw
        obtain ⟨h133_0, h133_1⟩ := hw
        refine va_iast hx hb hK hP hD hS 1 0 rfl rfl (by unfold vp_in; decide +kernel) dX8_minuteOn_136 (fun H locs hP hD hS => ?_)
        obtain ⟨f136, ef136⟩ : ∃ g9 : Nat → Int32, g9 = upd f127 (19 : Int32).toNatClampNeg r133 := ⟨_, rfl⟩
        refine zs_1 (y := (a1, .inl (ka1, 23, .inl (f136)))) hP hD (by rw [ef136]) (fun hP hD => ?_)
        have bf136 : ((∀ k : Nat, 0 ≤ k → k ≤ 8 → (0 : Int) ≤ (f136 k).toInt ∧ (f136 k).toInt ≤ 8) ∧ (∀ k : Nat, 19 ≤ k → k ≤ 19 → (0 : Int) ≤ (f136 k).toInt ∧ (f136 k).toInt ≤ 8) ∧ (∀ k : Nat, 20 ≤ k → k ≤ 20 → (0 : Int) ≤ (f136 k).toInt ∧ (f136 k).toInt ≤ 19)) := by rw [ef136]; exact ⟨ai_updO bf127.1 _ (Or.inr (ai_ngt_of zq160 (by decide) (by decide))), ai_updS bf127.2.1 _ ⟨h133_0, h133_1⟩, ai_updO bf127.2.2 _ (Or.inl (ai_nlt_of zq160 zq161 (by decide) (by decide)))⟩
        have kf136_19 : f136 19 = r133 := by rw [ef136]; exact ai_k1 (by decide +kernel)
        have kf136_20 : f136 20 = 0 := by rw [ef136]; exact ai_k2 (by decide +kernel) kf127_20
        have kf136_21 : f136 21 = x99 := by rw [ef136]; exact ai_k2 (by decide +kernel) kf127_21
        exact W.vret hx hb hr (fun t ht hW => ⟨⟨(), rfl, trivial, x3, (-1), 0, f136, bf136, by rw [ht]; exact hP, va_K.moved hW.alike hK, hD⟩, hS.F ht⟩) hS.2.2 dX8_minuteOn_137
      · have gc119 := ai_nle c119
        have u119f_x107 : x107.toInt ≤ (19 : Int) := ai_lthi gc119 bx118.2
        have u119f_x105 : x105.toInt ≤ (18 : Int) := by have h1 := wx107; have h2 := u119f_x107; omega
        have l119f_x118 : (2 : Int) ≤ x118.toInt := ai_ltlo gc119 bx107.1
        exact W.vret hx hb hr (fun t ht hW => ⟨⟨(), rfl, trivial, x3, (-1), 0, f108, ⟨bf108.1, bf108.2.1, ai_one (by rw [kf108_20]; exact ⟨(Int.le_trans zq4 bx107.1), u119f_x107⟩)⟩, by rw [ht]; exact hP, va_K.moved hW.alike hK, hD⟩, hS.F ht⟩) hS.2.2 dX8_minuteOn_122
    · subst hw
      refine lv_if_eq (tgt := 87) hx hb dX8_minuteOn_80 (by decide) (fun _ => ?_) (fun c80 => absurd (by decide +kernel) c80)
      refine lv_aload_n hx hb dX8_minuteOn_87 rfl (lv_at hl 2 rfl) ?_
      refine lv_iload_n hx hb dX8_minuteOn_88 rfl (lv_at hl 0 rfl) ?_
      refine va_iald hx hb hK hP 1 0 rfl rfl (ai_in bx3.1 bx3.2 (by decide) (by decide)) dX8_minuteOn_89 ?_
      refine lv_topi (fun x89 ex89 => ?_)
      have bx89 : (0 : Int) ≤ x89.toInt ∧ x89.toInt ≤ 8 := by rw [ex89]; exact ai_rd bfa1.1 bx3.1 bx3.2 (by decide) (by decide) (by decide)
      refine va_put (D := (dC, dI)) (ci := 8) (v := .int x89) (ty := .int) (C := RX8) (T := TX8) (N := 40) hx hb hts zi_X8_minuteOn_8 tyX8 tyX8_ok nmX8 hown hK hP hD hS 0 rfl rfl 27 (by decide) (hts (.fieldLink RX8 261 "WaxTurnsModel" "livedAt" "I") (zm_X8_minuteOn_r1 (List.mem_of_getElem? (i := 3) rfl))) (fun _ h9 => h9) rfl (tyX8_ok 27 (by decide)) rfl rfl (Nat.le_of_ble_eq_true rfl) dX8_minuteOn_90 (fun H locs hP hD hS => ?_)
      refine zs_0 (y := (a0, .inr (8, [a0g_0, a0g_1, a0g_2, a0g_3, a0g_4, a0g_5, a0g_6, a0g_7, a0g_8, a0g_9, a0g_10, a0g_11, a0g_12, a0g_13, a0g_14, Value.ref a0_15, a0g_16, a0g_17, a0g_18, a0g_19, a0g_20, a0g_21, a0g_22, Value.ref a0_23, Value.ref a0_24, Value.int a0_25, Value.int x3, Value.int x89, Value.int 0, a0g_29, a0g_30, a0g_31, a0g_32, a0g_33, a0g_34, a0g_35, a0g_36, a0g_37, a0g_38, a0g_39]))) hP hD rfl (fun hP hD => ?_)
      refine lv_aload_n hx hb dX8_minuteOn_93 rfl (lv_at hl 2 rfl) ?_
      refine lv_bipush (v := 21) hx hb dX8_minuteOn_94 zk_bipush_21 ?_
      refine lv_dup2_11 hx hb dX8_minuteOn_96 rfl rfl ?_
      refine va_iald hx hb hK hP 1 0 rfl rfl (by unfold vp_in; decide +kernel) dX8_minuteOn_97 ?_
      refine lv_topi (fun x97 ex97 => ?_)
      refine lv_iconst (v := 1) hx hb dX8_minuteOn_98 zk_iconst_1 ?_
      refine lv_iadd hx hb dX8_minuteOn_99 ?_
      refine lv_topi (fun x99 ex99 => ?_)
      refine va_iast hx hb hK hP hD hS 1 0 rfl rfl (by unfold vp_in; decide +kernel) dX8_minuteOn_100 (fun H locs hP hD hS => ?_)
      obtain ⟨f100, ef100⟩ : ∃ g9 : Nat → Int32, g9 = upd fa1 (21 : Int32).toNatClampNeg x99 := ⟨_, rfl⟩
      refine zs_1 (y := (a1, .inl (ka1, 23, .inl (f100)))) hP hD (by rw [ef100]) (fun hP hD => ?_)
      have bf100 : ((∀ k : Nat, 0 ≤ k → k ≤ 8 → (0 : Int) ≤ (f100 k).toInt ∧ (f100 k).toInt ≤ 8) ∧ (∀ k : Nat, 19 ≤ k → k ≤ 19 → (0 : Int) ≤ (f100 k).toInt ∧ (f100 k).toInt ≤ 8) ∧ (∀ k : Nat, 20 ≤ k → k ≤ 20 → (0 : Int) ≤ (f100 k).toInt ∧ (f100 k).toInt ≤ 19)) := by rw [ef100]; exact ⟨ai_updO bfa1.1 _ (Or.inr (ai_ngt_of zq162 (by decide) (by decide))), ai_updO bfa1.2.1 _ (Or.inr (ai_ngt_of zq162 (by decide) (by decide))), ai_updO bfa1.2.2 _ (Or.inr (ai_ngt_of zq162 (by decide) (by decide)))⟩
      have kf100_21 : f100 21 = x99 := by rw [ef100]; exact ai_k1 (by decide +kernel)
      refine lv_aload_n hx hb dX8_minuteOn_101 rfl (lv_at hl 2 rfl) ?_
      refine lv_bipush (v := 20) hx hb dX8_minuteOn_102 zk_bipush_20 ?_
      refine lv_dup2_11 hx hb dX8_minuteOn_104 rfl rfl ?_
      refine va_iald hx hb hK hP 1 0 rfl rfl (by unfold vp_in; decide +kernel) dX8_minuteOn_105 ?_
      refine lv_topi (fun x105 ex105 => ?_)
      have bx105 : (0 : Int) ≤ x105.toInt ∧ x105.toInt ≤ 19 := by rw [ex105]; exact ai_rd bf100.2.2 zq153 zq154 (by decide) (by decide) (by decide)
      refine lv_iconst (v := 1) hx hb dX8_minuteOn_106 zk_iconst_1 ?_
      refine lv_iadd hx hb dX8_minuteOn_107 ?_
      refine lv_topi (fun x107 ex107 => ?_)
      have qx107 : x107.toInt = x105.toInt + (1 : Int32).toInt := ai_add ex107 ⟨bx105.1, bx105.2⟩ ⟨zq1, zq0⟩ (by decide) (by decide)
      have bx107 : (1 : Int) ≤ x107.toInt ∧ x107.toInt ≤ 20 := ⟨by rw [qx107]; exact Int.add_le_add bx105.1 zq1, by rw [qx107]; exact Int.add_le_add bx105.2 zq0⟩
      have wx107 : x107.toInt = x105.toInt + 1 := qx107
      refine va_iast hx hb hK hP hD hS 1 0 rfl rfl (by unfold vp_in; decide +kernel) dX8_minuteOn_108 (fun H locs hP hD hS => ?_)
      obtain ⟨f108, ef108⟩ : ∃ g9 : Nat → Int32, g9 = upd f100 (20 : Int32).toNatClampNeg x107 := ⟨_, rfl⟩
      refine zs_1 (y := (a1, .inl (ka1, 23, .inl (f108)))) hP hD (by rw [ef108]) (fun hP hD => ?_)
      have bf108 : ((∀ k : Nat, 0 ≤ k → k ≤ 8 → (0 : Int) ≤ (f108 k).toInt ∧ (f108 k).toInt ≤ 8) ∧ (∀ k : Nat, 19 ≤ k → k ≤ 19 → (0 : Int) ≤ (f108 k).toInt ∧ (f108 k).toInt ≤ 8) ∧ True) := by rw [ef108]; exact ⟨ai_updO bf100.1 _ (Or.inr (ai_ngt_of zq153 (by decide) (by decide))), ai_updO bf100.2.1 _ (Or.inr (ai_ngt_of zq153 (by decide) (by decide))), trivial⟩
      have kf108_20 : f108 20 = x107 := by rw [ef108]; exact ai_k1 (by decide +kernel)
      have kf108_21 : f108 21 = x99 := by rw [ef108]; exact ai_k2 (by decide +kernel) kf100_21
      refine lv_aload_n hx hb dX8_minuteOn_109 rfl (lv_at hl 2 rfl) ?_
      refine lv_bipush (v := 20) hx hb dX8_minuteOn_110 zk_bipush_20 ?_
      refine va_iald hx hb hK hP 1 0 rfl rfl (by unfold vp_in; decide +kernel) dX8_minuteOn_112 ?_
      refine ax_ti x107 ((congrArg f108 (by decide +kernel : (20 : Int32).toNatClampNeg = 20)).trans kf108_20) ?_
      refine lv_aload_n hx hb dX8_minuteOn_113 rfl (lv_at hl 1 rfl) ?_
      refine va_get (D := (dC, dI)) (ci := 8) (v := .ref a0_15) (C := RX8) (T := TX8) (N := 40) hx hb hts zi_X8_minuteOn_8 hown hK hP 0 rfl rfl 15 (by decide) (hts (.fieldLink RX8 20 "WaxTurnsModel" "\x72" "[I") (zm_X8_minuteOn_r1 (List.mem_of_getElem? (i := 1) rfl))) (fun _ h9 => h9) rfl dX8_minuteOn_114 ?_
      refine lv_iconst (v := 1) hx hb dX8_minuteOn_117 zk_iconst_1 ?_
      refine va_iald hx hb hK hP 2 1 rfl rfl (by unfold vp_in; decide +kernel) dX8_minuteOn_118 ?_
      refine lv_topi (fun x118 ex118 => ?_)
      have bx118 : (1 : Int) ≤ x118.toInt ∧ x118.toInt ≤ 20 := by rw [ex118]; exact ai_rd bfa0_15.2.1 zq1 zq0 (by decide) (by decide) (by decide)
      refine lv_icmp_ge (tgt := 123) hx hb dX8_minuteOn_119 (by decide) (fun c119 => ?_) (fun c119 => ?_)
      · have gc119 := ai_le c119
        have u119t_x118 : x118.toInt ≤ (20 : Int) := bx118.2
        have l119t_x107 : (1 : Int) ≤ x107.toInt := bx107.1
        refine lv_aload_n hx hb dX8_minuteOn_123 rfl (lv_at hl 2 rfl) ?_
        refine lv_bipush (v := 20) hx hb dX8_minuteOn_124 zk_bipush_20 ?_
        refine lv_iconst (v := 0) hx hb dX8_minuteOn_126 zk_iconst_0 ?_
        refine va_iast hx hb hK hP hD hS 1 0 rfl rfl (by unfold vp_in; decide +kernel) dX8_minuteOn_127 (fun H locs hP hD hS => ?_)
        obtain ⟨f127, ef127⟩ : ∃ g9 : Nat → Int32, g9 = upd f108 (20 : Int32).toNatClampNeg (0 : Int32) := ⟨_, rfl⟩
        refine zs_1 (y := (a1, .inl (ka1, 23, .inl (f127)))) hP hD (by rw [ef127]) (fun hP hD => ?_)
        have bf127 : ((∀ k : Nat, 0 ≤ k → k ≤ 8 → (0 : Int) ≤ (f127 k).toInt ∧ (f127 k).toInt ≤ 8) ∧ (∀ k : Nat, 19 ≤ k → k ≤ 19 → (0 : Int) ≤ (f127 k).toInt ∧ (f127 k).toInt ≤ 8) ∧ (∀ k : Nat, 20 ≤ k → k ≤ 20 → (0 : Int) ≤ (f127 k).toInt ∧ (f127 k).toInt ≤ 19)) := by rw [ef127]; exact ⟨ai_updO bf108.1 _ (Or.inr (ai_ngt_of zq153 (by decide) (by decide))), ai_updO bf108.2.1 _ (Or.inr (ai_ngt_of zq153 (by decide) (by decide))), ai_new (by decide +kernel) ⟨zq5, (Int.le_trans zq6 zq163)⟩⟩
        have kf127_20 : f127 20 = 0 := by rw [ef127]; exact ai_k1 (by decide +kernel)
        have kf127_21 : f127 21 = x99 := by rw [ef127]; exact ai_k2 (by decide +kernel) kf108_21
        refine lv_aload_n hx hb dX8_minuteOn_128 rfl (lv_at hl 2 rfl) ?_
        refine lv_bipush (v := 19) hx hb dX8_minuteOn_129 zk_bipush_19 ?_
        refine lv_aload_n hx hb dX8_minuteOn_131 rfl (lv_at hl 1 rfl) ?_
        refine lv_iload_n hx hb dX8_minuteOn_132 rfl (lv_at hl 0 rfl) ?_
        refine zc_cutc (wc := [(a0, .inr (8, [a0g_0, a0g_1, a0g_2, a0g_3, a0g_4, a0g_5, a0g_6, a0g_7, a0g_8, a0g_9, a0g_10, a0g_11, a0g_12, a0g_13, a0g_14, Value.ref a0_15, a0g_16, a0g_17, a0g_18, a0g_19, a0g_20, a0g_21, a0g_22, Value.ref a0_23, Value.ref a0_24, Value.int a0_25, Value.int x3, Value.int x89, Value.int 0, a0g_29, a0g_30, a0g_31, a0g_32, a0g_33, a0g_34, a0g_35, a0g_36, a0g_37, a0g_38, a0g_39])), (a0_15, .inl (ka0_15, 156, .inl (fa0_15)))]) hP hD hS hA [0, 2] (by decide +kernel) rfl (fun hPc hDc hFc hCc => ?_)
        have hKc := hK.sub (tys' := [(ka0_15, .int)]) [1] rfl
        refine va_calli (va_runV (As := [.int x3]) (rest := [.int 19, .ref a1]) ⟨hx, hb, hml, hown, hts⟩ (c_X8_nextOf l dC dI H.size a0 x3 a0g_0 a0g_1 a0g_2 a0g_3 a0g_4 a0g_5 a0g_6 a0g_7 a0g_8 a0g_9 a0g_10 a0g_11 a0g_12 a0g_13 a0g_14 a0g_16 a0g_17 a0g_18 a0g_19 a0g_20 a0g_21 a0g_22 (Value.ref a0_23) (Value.ref a0_24) (Value.int a0_25) (Value.int x3) (Value.int x89) (Value.int 0) a0g_29 a0g_30 a0g_31 a0g_32 a0g_33 a0g_34 a0g_35 a0g_36 a0g_37 a0g_38 a0g_39 a0_15 ka0_15 fa0_15 bx3.1 bx3.2 bfa0_15) (cwV 1 hts gX8_minuteOn_X8_nextOf rfl rfl rfl zd_X8_nextOf ⟨Nat.le_of_ble_eq_true rfl, Nat.le_of_ble_eq_true rfl⟩) ⟨ax_blind (fun _ _ _ _ _ => trivial), zr_8 hKc hPc (q0 := 0) rfl, ax_pre hPc hKc hDc (fun _ _ => trivial)⟩ rfl rfl hl.1 rfl (lv_room (Nat.le_of_ble_eq_true rfl)) dX8_minuteOn_133 ⟨Nat.le_of_ble_eq_true rfl, Nat.le_of_ble_eq_true rfl⟩) hS (fun q _ h => hFc q h) hFc (fun r133 u t H locs ht hvm hw hB hz1 hk1 hS1 => zo hB ht hS1 (fun hP1 hK1 hD1 hS => ?_))
        refine zc_backc (w := [(a0, .inr (8, [a0g_0, a0g_1, a0g_2, a0g_3, a0g_4, a0g_5, a0g_6, a0g_7, a0g_8, a0g_9, a0g_10, a0g_11, a0g_12, a0g_13, a0g_14, Value.ref a0_15, a0g_16, a0g_17, a0g_18, a0g_19, a0g_20, a0g_21, a0g_22, Value.ref a0_23, Value.ref a0_24, Value.int a0_25, Value.int x3, Value.int x89, Value.int 0, a0g_29, a0g_30, a0g_31, a0g_32, a0g_33, a0g_34, a0g_35, a0g_36, a0g_37, a0g_38, a0g_39])), (a1, .inl (ka1, 23, .inl (f127))), (a0_15, .inl (ka0_15, 156, .inl (fa0_15))), (a0_24, .inl (ka0_24, 3, .inl (fa0_24))), (a0_23, .inl (ka0_23, 3, .inl (fa0_23)))]) hP hD hCc hk1 hFc hP1 hD1 [.inr 0, .inl 1, .inr 1, .inl 3, .inl 4] (by decide +kernel) rfl (fun hP hD => ?_)
        have hw : (0 : Int) ≤ r133.toInt ∧ r133.toInt ≤ (8 : Int) := hw
        obtain ⟨h133_0, h133_1⟩ := hw
        refine va_iast hx hb hK hP hD hS 1 0 rfl rfl (by unfold vp_in; decide +kernel) dX8_minuteOn_136 (fun H locs hP hD hS => ?_)
        obtain ⟨f136, ef136⟩ : ∃ g9 : Nat → Int32, g9 = upd f127 (19 : Int32).toNatClampNeg r133 := ⟨_, rfl⟩
        refine zs_1 (y := (a1, .inl (ka1, 23, .inl (f136)))) hP hD (by rw [ef136]) (fun hP hD => ?_)
        have bf136 : ((∀ k : Nat, 0 ≤ k → k ≤ 8 → (0 : Int) ≤ (f136 k).toInt ∧ (f136 k).toInt ≤ 8) ∧ (∀ k : Nat, 19 ≤ k → k ≤ 19 → (0 : Int) ≤ (f136 k).toInt ∧ (f136 k).toInt ≤ 8) ∧ (∀ k : Nat, 20 ≤ k → k ≤ 20 → (0 : Int) ≤ (f136 k).toInt ∧ (f136 k).toInt ≤ 19)) := by rw [ef136]; exact ⟨ai_updO bf127.1 _ (Or.inr (ai_ngt_of zq160 (by decide) (by decide))), ai_updS bf127.2.1 _ ⟨h133_0, h133_1⟩, ai_updO bf127.2.2 _ (Or.inl (ai_nlt_of zq160 zq161 (by decide) (by decide)))⟩
        have kf136_19 : f136 19 = r133 := by rw [ef136]; exact ai_k1 (by decide +kernel)
        have kf136_20 : f136 20 = 0 := by rw [ef136]; exact ai_k2 (by decide +kernel) kf127_20
        have kf136_21 : f136 21 = x99 := by rw [ef136]; exact ai_k2 (by decide +kernel) kf127_21
        exact W.vret hx hb hr (fun t ht hW => ⟨⟨(), rfl, trivial, x3, x89, 0, f136, bf136, by rw [ht]; exact hP, va_K.moved hW.alike hK, hD⟩, hS.F ht⟩) hS.2.2 dX8_minuteOn_137
      · have gc119 := ai_nle c119
        have u119f_x107 : x107.toInt ≤ (19 : Int) := ai_lthi gc119 bx118.2
        have u119f_x105 : x105.toInt ≤ (18 : Int) := by have h1 := wx107; have h2 := u119f_x107; omega
        have l119f_x118 : (2 : Int) ≤ x118.toInt := ai_ltlo gc119 bx107.1
        exact W.vret hx hb hr (fun t ht hW => ⟨⟨(), rfl, trivial, x3, x89, 0, f108, ⟨bf108.1, bf108.2.1, ai_one (by rw [kf108_20]; exact ⟨(Int.le_trans zq4 bx107.1), u119f_x107⟩)⟩, by rw [ht]; exact hP, va_K.moved hW.alike hK, hD⟩, hS.F ht⟩) hS.2.2 dX8_minuteOn_122
  · subst hw
    refine lv_if_ne (tgt := 66) hx hb dX8_minuteOn_18 (by decide) (fun c18 => absurd (by decide +kernel) c18) (fun _ => ?_)
    refine lv_aload_n hx hb dX8_minuteOn_21 rfl (lv_at hl 1 rfl) ?_
    refine va_get (D := (dC, dI)) (ci := 8) (v := .ref a0_15) (C := RX8) (T := TX8) (N := 40) hx hb hts zi_X8_minuteOn_8 hown hK hP 0 rfl rfl 15 (by decide) (hts (.fieldLink RX8 20 "WaxTurnsModel" "\x72" "[I") (zm_X8_minuteOn_r1 (List.mem_of_getElem? (i := 1) rfl))) (fun _ h9 => h9) rfl dX8_minuteOn_22 ?_
    refine lv_bipush (v := 12) hx hb dX8_minuteOn_25 zk_bipush_12 ?_
    refine lv_iconst (v := 2) hx hb dX8_minuteOn_27 zk_iconst_2 ?_
    refine lv_iload_n hx hb dX8_minuteOn_28 rfl (lv_at hl 0 rfl) ?_
    refine lv_imul hx hb dX8_minuteOn_29 ?_
    refine lv_topi (fun x29 ex29 => ?_)
    have qx29 : x29.toInt = (2 : Int32).toInt * x3.toInt ∧ (0 : Int) ≤ x29.toInt ∧ x29.toInt ≤ 16 := ai_mul ex29 ⟨zq12, zq13⟩ ⟨bx3.1, bx3.2⟩ (by decide) (by decide) zq155
    have wx29 : x29.toInt = 2 * x3.toInt := qx29.1
    refine lv_iadd hx hb dX8_minuteOn_30 ?_
    refine lv_topi (fun x30 ex30 => ?_)
    have qx30 : x30.toInt = (12 : Int32).toInt + x29.toInt := ai_add ex30 ⟨zq119, zq120⟩ ⟨qx29.2.1, qx29.2.2⟩ (by decide) (by decide)
    have bx30 : (12 : Int) ≤ x30.toInt ∧ x30.toInt ≤ 28 := ⟨by rw [qx30]; exact Int.add_le_add zq119 qx29.2.1, by rw [qx30]; exact Int.add_le_add zq120 qx29.2.2⟩
    have wx30 : x30.toInt = 12 + x29.toInt := qx30
    refine va_iald hx hb hK hP 2 1 rfl rfl (ai_in bx30.1 bx30.2 (by decide) (by decide)) dX8_minuteOn_31 ?_
    refine lv_topi (fun x31 ex31 => ?_)
    have bx31 : (0 : Int) ≤ x31.toInt ∧ x31.toInt ≤ 20 := by rw [ex31]; exact ai_rd bfa0_15.2.2.2.2.2.2.2.2.1 bx30.1 bx30.2 (by decide) (by decide) (by decide)
    refine lv_iconst (v := 1) hx hb dX8_minuteOn_32 zk_iconst_1 ?_
    refine lv_icmp_ne (tgt := 45) hx hb dX8_minuteOn_33 (by decide) (fun c33 => ?_) (fun c33 => ?_)
    · have gc33 := ai_ne c33
      refine lv_aload_n hx hb dX8_minuteOn_45 rfl (lv_at hl 1 rfl) ?_
      refine va_get (D := (dC, dI)) (ci := 8) (v := .ref a0_15) (C := RX8) (T := TX8) (N := 40) hx hb hts zi_X8_minuteOn_8 hown hK hP 0 rfl rfl 15 (by decide) (hts (.fieldLink RX8 20 "WaxTurnsModel" "\x72" "[I") (zm_X8_minuteOn_r1 (List.mem_of_getElem? (i := 1) rfl))) (fun _ h9 => h9) rfl dX8_minuteOn_46 ?_
      refine lv_bipush (v := 12) hx hb dX8_minuteOn_49 zk_bipush_12 ?_
      refine lv_iconst (v := 2) hx hb dX8_minuteOn_51 zk_iconst_2 ?_
      refine lv_iload_n hx hb dX8_minuteOn_52 rfl (lv_at hl 0 rfl) ?_
      refine lv_imul hx hb dX8_minuteOn_53 ?_
      refine ax_ti x29 ex29.symm ?_
      refine lv_iadd hx hb dX8_minuteOn_54 ?_
      refine ax_ti x30 ex30.symm ?_
      refine va_iald hx hb hK hP 2 1 rfl rfl (ai_in bx30.1 bx30.2 (by decide) (by decide)) dX8_minuteOn_55 ?_
      refine ax_ti x31 ex31.symm ?_
      refine lv_iconst (v := 2) hx hb dX8_minuteOn_56 zk_iconst_2 ?_
      refine lv_icmp_ne (tgt := 66) hx hb dX8_minuteOn_57 (by decide) (fun c57 => ?_) (fun c57 => ?_)
      · have gc57 := ai_ne c57
        refine lv_aload_n hx hb dX8_minuteOn_66 rfl (lv_at hl 1 rfl) ?_
        refine lv_iload_n hx hb dX8_minuteOn_67 rfl (lv_at hl 0 rfl) ?_
        refine va_put (D := (dC, dI)) (ci := 8) (v := .int x3) (ty := .int) (C := RX8) (T := TX8) (N := 40) hx hb hts zi_X8_minuteOn_8 tyX8 tyX8_ok nmX8 hown hK hP hD hS 0 rfl rfl 26 (by decide) (hts (.fieldLink RX8 258 "WaxTurnsModel" "lived" "I") (zm_X8_minuteOn_r1 (List.mem_of_getElem? (i := 2) rfl))) (fun _ h9 => h9) rfl (tyX8_ok 26 (by decide)) rfl rfl (Nat.le_of_ble_eq_true rfl) dX8_minuteOn_68 (fun H locs hP hD hS => ?_)
        refine zs_0 (y := (a0, .inr (8, [a0g_0, a0g_1, a0g_2, a0g_3, a0g_4, a0g_5, a0g_6, a0g_7, a0g_8, a0g_9, a0g_10, a0g_11, a0g_12, a0g_13, a0g_14, Value.ref a0_15, a0g_16, a0g_17, a0g_18, a0g_19, a0g_20, a0g_21, a0g_22, Value.ref a0_23, Value.ref a0_24, Value.int a0_25, Value.int x3, Value.int a0_27, Value.int 0, a0g_29, a0g_30, a0g_31, a0g_32, a0g_33, a0g_34, a0g_35, a0g_36, a0g_37, a0g_38, a0g_39]))) hP hD rfl (fun hP hD => ?_)
        refine lv_aload_n hx hb dX8_minuteOn_71 rfl (lv_at hl 1 rfl) ?_
        refine lv_aload_n hx hb dX8_minuteOn_72 rfl (lv_at hl 2 rfl) ?_
        refine lv_bipush (v := 18) hx hb dX8_minuteOn_73 zk_bipush_18 ?_
        refine va_iald hx hb hK hP 1 0 rfl rfl (by unfold vp_in; decide +kernel) dX8_minuteOn_75 ?_
        refine ax_ti x13 ex13.symm ?_
        refine lv_iload_n hx hb dX8_minuteOn_76 rfl (lv_at hl 0 rfl) ?_
        refine va_calli (va_runS (As := [.int x13, .int x3]) (rest := [.ref a0]) ⟨hx, hb, hml, hown, hts⟩ (c_X8_hasBit l dC dI H.size x13 x3 ) (va_cwS 2 hts gX8_minuteOn_X8_hasBit rfl rfl rfl zd_X8_hasBit.2 ⟨Nat.le_of_ble_eq_true rfl, Nat.le_of_ble_eq_true rfl⟩) ⟨ax_blind (fun _ _ _ _ _ => trivial), ax_pre (zp_P0 hP) (zp_K hK) (zp_D0 hD) (fun _ _ => trivial)⟩ rfl rfl hl.1 rfl (lv_room (Nat.le_of_ble_eq_true rfl)) dX8_minuteOn_77 ⟨Nat.le_of_ble_eq_true rfl, Nat.le_of_ble_eq_true rfl⟩) hS (fun q _ h => zp_F0 hD hS hA q h) (zp_F0 hD hS hA) (fun r77 u t H locs ht hvm hw hB hz1 hk1 hS1 => zo0 hB ht hP hD hk1 (zp_F0 hD hS hA) hS1 (fun hP hK1 hD hS => ?_))
        rcases hw with hw | hw
        · subst hw
          refine lv_if_eq (tgt := 87) hx hb dX8_minuteOn_80 (by decide) (fun c80 => absurd c80 (by decide +kernel)) (fun _ => ?_)
          refine lv_iconst (v := (-1)) hx hb dX8_minuteOn_83 zk_iconst_n1 ?_
          refine lv_goto (tgt := 90) hx hb dX8_minuteOn_84 (by decide) ?_
          refine va_put (D := (dC, dI)) (ci := 8) (v := .int (-1)) (ty := .int) (C := RX8) (T := TX8) (N := 40) hx hb hts zi_X8_minuteOn_8 tyX8 tyX8_ok nmX8 hown hK hP hD hS 0 rfl rfl 27 (by decide) (hts (.fieldLink RX8 261 "WaxTurnsModel" "livedAt" "I") (zm_X8_minuteOn_r1 (List.mem_of_getElem? (i := 3) rfl))) (fun _ h9 => h9) rfl (tyX8_ok 27 (by decide)) rfl rfl (Nat.le_of_ble_eq_true rfl) dX8_minuteOn_90 (fun H locs hP hD hS => ?_)
          refine zs_0 (y := (a0, .inr (8, [a0g_0, a0g_1, a0g_2, a0g_3, a0g_4, a0g_5, a0g_6, a0g_7, a0g_8, a0g_9, a0g_10, a0g_11, a0g_12, a0g_13, a0g_14, Value.ref a0_15, a0g_16, a0g_17, a0g_18, a0g_19, a0g_20, a0g_21, a0g_22, Value.ref a0_23, Value.ref a0_24, Value.int a0_25, Value.int x3, Value.int (-1), Value.int 0, a0g_29, a0g_30, a0g_31, a0g_32, a0g_33, a0g_34, a0g_35, a0g_36, a0g_37, a0g_38, a0g_39]))) hP hD rfl (fun hP hD => ?_)
          refine lv_aload_n hx hb dX8_minuteOn_93 rfl (lv_at hl 2 rfl) ?_
          refine lv_bipush (v := 21) hx hb dX8_minuteOn_94 zk_bipush_21 ?_
          refine lv_dup2_11 hx hb dX8_minuteOn_96 rfl rfl ?_
          refine va_iald hx hb hK hP 1 0 rfl rfl (by unfold vp_in; decide +kernel) dX8_minuteOn_97 ?_
          refine lv_topi (fun x97 ex97 => ?_)
          refine lv_iconst (v := 1) hx hb dX8_minuteOn_98 zk_iconst_1 ?_
          refine lv_iadd hx hb dX8_minuteOn_99 ?_
          refine lv_topi (fun x99 ex99 => ?_)
          refine va_iast hx hb hK hP hD hS 1 0 rfl rfl (by unfold vp_in; decide +kernel) dX8_minuteOn_100 (fun H locs hP hD hS => ?_)
          obtain ⟨f100, ef100⟩ : ∃ g9 : Nat → Int32, g9 = upd fa1 (21 : Int32).toNatClampNeg x99 := ⟨_, rfl⟩
          refine zs_1 (y := (a1, .inl (ka1, 23, .inl (f100)))) hP hD (by rw [ef100]) (fun hP hD => ?_)
          have bf100 : ((∀ k : Nat, 0 ≤ k → k ≤ 8 → (0 : Int) ≤ (f100 k).toInt ∧ (f100 k).toInt ≤ 8) ∧ (∀ k : Nat, 19 ≤ k → k ≤ 19 → (0 : Int) ≤ (f100 k).toInt ∧ (f100 k).toInt ≤ 8) ∧ (∀ k : Nat, 20 ≤ k → k ≤ 20 → (0 : Int) ≤ (f100 k).toInt ∧ (f100 k).toInt ≤ 19)) := by rw [ef100]; exact ⟨ai_updO bfa1.1 _ (Or.inr (ai_ngt_of zq162 (by decide) (by decide))), ai_updO bfa1.2.1 _ (Or.inr (ai_ngt_of zq162 (by decide) (by decide))), ai_updO bfa1.2.2 _ (Or.inr (ai_ngt_of zq162 (by decide) (by decide)))⟩
          have kf100_21 : f100 21 = x99 := by rw [ef100]; exact ai_k1 (by decide +kernel)
          refine lv_aload_n hx hb dX8_minuteOn_101 rfl (lv_at hl 2 rfl) ?_
          refine lv_bipush (v := 20) hx hb dX8_minuteOn_102 zk_bipush_20 ?_
          refine lv_dup2_11 hx hb dX8_minuteOn_104 rfl rfl ?_
          refine va_iald hx hb hK hP 1 0 rfl rfl (by unfold vp_in; decide +kernel) dX8_minuteOn_105 ?_
          refine lv_topi (fun x105 ex105 => ?_)
          have bx105 : (0 : Int) ≤ x105.toInt ∧ x105.toInt ≤ 19 := by rw [ex105]; exact ai_rd bf100.2.2 zq153 zq154 (by decide) (by decide) (by decide)
          refine lv_iconst (v := 1) hx hb dX8_minuteOn_106 zk_iconst_1 ?_
          refine lv_iadd hx hb dX8_minuteOn_107 ?_
          refine lv_topi (fun x107 ex107 => ?_)
          have qx107 : x107.toInt = x105.toInt + (1 : Int32).toInt := ai_add ex107 ⟨bx105.1, bx105.2⟩ ⟨zq1, zq0⟩ (by decide) (by decide)
          have bx107 : (1 : Int) ≤ x107.toInt ∧ x107.toInt ≤ 20 := ⟨by rw [qx107]; exact Int.add_le_add bx105.1 zq1, by rw [qx107]; exact Int.add_le_add bx105.2 zq0⟩
          have wx107 : x107.toInt = x105.toInt + 1 := qx107
          refine va_iast hx hb hK hP hD hS 1 0 rfl rfl (by unfold vp_in; decide +kernel) dX8_minuteOn_108 (fun H locs hP hD hS => ?_)
          obtain ⟨f108, ef108⟩ : ∃ g9 : Nat → Int32, g9 = upd f100 (20 : Int32).toNatClampNeg x107 := ⟨_, rfl⟩
          refine zs_1 (y := (a1, .inl (ka1, 23, .inl (f108)))) hP hD (by rw [ef108]) (fun hP hD => ?_)
          have bf108 : ((∀ k : Nat, 0 ≤ k → k ≤ 8 → (0 : Int) ≤ (f108 k).toInt ∧ (f108 k).toInt ≤ 8) ∧ (∀ k : Nat, 19 ≤ k → k ≤ 19 → (0 : Int) ≤ (f108 k).toInt ∧ (f108 k).toInt ≤ 8) ∧ True) := by rw [ef108]; exact ⟨ai_updO bf100.1 _ (Or.inr (ai_ngt_of zq153 (by decide) (by decide))), ai_updO bf100.2.1 _ (Or.inr (ai_ngt_of zq153 (by decide) (by decide))), trivial⟩
          have kf108_20 : f108 20 = x107 := by rw [ef108]; exact ai_k1 (by decide +kernel)
          have kf108_21 : f108 21 = x99 := by rw [ef108]; exact ai_k2 (by decide +kernel) kf100_21
          refine lv_aload_n hx hb dX8_minuteOn_109 rfl (lv_at hl 2 rfl) ?_
          refine lv_bipush (v := 20) hx hb dX8_minuteOn_110 zk_bipush_20 ?_
          refine va_iald hx hb hK hP 1 0 rfl rfl (by unfold vp_in; decide +kernel) dX8_minuteOn_112 ?_
          refine ax_ti x107 ((congrArg f108 (by decide +kernel : (20 : Int32).toNatClampNeg = 20)).trans kf108_20) ?_
          refine lv_aload_n hx hb dX8_minuteOn_113 rfl (lv_at hl 1 rfl) ?_
          refine va_get (D := (dC, dI)) (ci := 8) (v := .ref a0_15) (C := RX8) (T := TX8) (N := 40) hx hb hts zi_X8_minuteOn_8 hown hK hP 0 rfl rfl 15 (by decide) (hts (.fieldLink RX8 20 "WaxTurnsModel" "\x72" "[I") (zm_X8_minuteOn_r1 (List.mem_of_getElem? (i := 1) rfl))) (fun _ h9 => h9) rfl dX8_minuteOn_114 ?_
          refine lv_iconst (v := 1) hx hb dX8_minuteOn_117 zk_iconst_1 ?_
          refine va_iald hx hb hK hP 2 1 rfl rfl (by unfold vp_in; decide +kernel) dX8_minuteOn_118 ?_
          refine lv_topi (fun x118 ex118 => ?_)
          have bx118 : (1 : Int) ≤ x118.toInt ∧ x118.toInt ≤ 20 := by rw [ex118]; exact ai_rd bfa0_15.2.1 zq1 zq0 (by decide) (by decide) (by decide)
          refine lv_icmp_ge (tgt := 123) hx hb dX8_minuteOn_119 (by decide) (fun c119 => ?_) (fun c119 => ?_)
          · have gc119 := ai_le c119
            have u119t_x118 : x118.toInt ≤ (20 : Int) := bx118.2
            have l119t_x107 : (1 : Int) ≤ x107.toInt := bx107.1
            refine lv_aload_n hx hb dX8_minuteOn_123 rfl (lv_at hl 2 rfl) ?_
            refine lv_bipush (v := 20) hx hb dX8_minuteOn_124 zk_bipush_20 ?_
            refine lv_iconst (v := 0) hx hb dX8_minuteOn_126 zk_iconst_0 ?_
            refine va_iast hx hb hK hP hD hS 1 0 rfl rfl (by unfold vp_in; decide +kernel) dX8_minuteOn_127 (fun H locs hP hD hS => ?_)
            obtain ⟨f127, ef127⟩ : ∃ g9 : Nat → Int32, g9 = upd f108 (20 : Int32).toNatClampNeg (0 : Int32) := ⟨_, rfl⟩
            refine zs_1 (y := (a1, .inl (ka1, 23, .inl (f127)))) hP hD (by rw [ef127]) (fun hP hD => ?_)
            have bf127 : ((∀ k : Nat, 0 ≤ k → k ≤ 8 → (0 : Int) ≤ (f127 k).toInt ∧ (f127 k).toInt ≤ 8) ∧ (∀ k : Nat, 19 ≤ k → k ≤ 19 → (0 : Int) ≤ (f127 k).toInt ∧ (f127 k).toInt ≤ 8) ∧ (∀ k : Nat, 20 ≤ k → k ≤ 20 → (0 : Int) ≤ (f127 k).toInt ∧ (f127 k).toInt ≤ 19)) := by rw [ef127]; exact ⟨ai_updO bf108.1 _ (Or.inr (ai_ngt_of zq153 (by decide) (by decide))), ai_updO bf108.2.1 _ (Or.inr (ai_ngt_of zq153 (by decide) (by decide))), ai_new (by decide +kernel) ⟨zq5, (Int.le_trans zq6 zq163)⟩⟩
            have kf127_20 : f127 20 = 0 := by rw [ef127]; exact ai_k1 (by decide +kernel)
            have kf127_21 : f127 21 = x99 := by rw [ef127]; exact ai_k2 (by decide +kernel) kf108_21
            refine lv_aload_n hx hb dX8_minuteOn_128 rfl (lv_at hl 2 rfl) ?_
            refine lv_bipush (v := 19) hx hb dX8_minuteOn_129 zk_bipush_19 ?_
            refine lv_aload_n hx hb dX8_minuteOn_131 rfl (lv_at hl 1 rfl) ?_
            refine lv_iload_n hx hb dX8_minuteOn_132 rfl (lv_at hl 0 rfl) ?_
            refine zc_cutc (wc := [(a0, .inr (8, [a0g_0, a0g_1, a0g_2, a0g_3, a0g_4, a0g_5, a0g_6, a0g_7, a0g_8, a0g_9, a0g_10, a0g_11, a0g_12, a0g_13, a0g_14, Value.ref a0_15, a0g_16, a0g_17, a0g_18, a0g_19, a0g_20, a0g_21, a0g_22, Value.ref a0_23, Value.ref a0_24, Value.int a0_25, Value.int x3, Value.int (-1), Value.int 0, a0g_29, a0g_30, a0g_31, a0g_32, a0g_33, a0g_34, a0g_35, a0g_36, a0g_37, a0g_38, a0g_39])), (a0_15, .inl (ka0_15, 156, .inl (fa0_15)))]) hP hD hS hA [0, 2] (by decide +kernel) rfl (fun hPc hDc hFc hCc => ?_)
            have hKc := hK.sub (tys' := [(ka0_15, .int)]) [1] rfl
            refine va_calli (va_runV (As := [.int x3]) (rest := [.int 19, .ref a1]) ⟨hx, hb, hml, hown, hts⟩ (c_X8_nextOf l dC dI H.size a0 x3 a0g_0 a0g_1 a0g_2 a0g_3 a0g_4 a0g_5 a0g_6 a0g_7 a0g_8 a0g_9 a0g_10 a0g_11 a0g_12 a0g_13 a0g_14 a0g_16 a0g_17 a0g_18 a0g_19 a0g_20 a0g_21 a0g_22 (Value.ref a0_23) (Value.ref a0_24) (Value.int a0_25) (Value.int x3) (Value.int (-1)) (Value.int 0) a0g_29 a0g_30 a0g_31 a0g_32 a0g_33 a0g_34 a0g_35 a0g_36 a0g_37 a0g_38 a0g_39 a0_15 ka0_15 fa0_15 bx3.1 bx3.2 bfa0_15) (cwV 1 hts gX8_minuteOn_X8_nextOf rfl rfl rfl zd_X8_nextOf ⟨Nat.le_of_ble_eq_true rfl, Nat.le_of_ble_eq_true rfl⟩) ⟨ax_blind (fun _ _ _ _ _ => trivial), zr_8 hKc hPc (q0 := 0) rfl, ax_pre hPc hKc hDc (fun _ _ => trivial)⟩ rfl rfl hl.1 rfl (lv_room (Nat.le_of_ble_eq_true rfl)) dX8_minuteOn_133 ⟨Nat.le_of_ble_eq_true rfl, Nat.le_of_ble_eq_true rfl⟩) hS (fun q _ h => hFc q h) hFc (fun r133 u t H locs ht hvm hw hB hz1 hk1 hS1 => zo hB ht hS1 (fun hP1 hK1 hD1 hS => ?_))
            refine zc_backc (w := [(a0, .inr (8, [a0g_0, a0g_1, a0g_2, a0g_3, a0g_4, a0g_5, a0g_6, a0g_7, a0g_8, a0g_9, a0g_10, a0g_11, a0g_12, a0g_13, a0g_14, Value.ref a0_15, a0g_16, a0g_17, a0g_18, a0g_19, a0g_20, a0g_21, a0g_22, Value.ref a0_23, Value.ref a0_24, Value.int a0_25, Value.int x3, Value.int (-1), Value.int 0, a0g_29, a0g_30, a0g_31, a0g_32, a0g_33, a0g_34, a0g_35, a0g_36, a0g_37, a0g_38, a0g_39])), (a1, .inl (ka1, 23, .inl (f127))), (a0_15, .inl (ka0_15, 156, .inl (fa0_15))), (a0_24, .inl (ka0_24, 3, .inl (fa0_24))), (a0_23, .inl (ka0_23, 3, .inl (fa0_23)))]) hP hD hCc hk1 hFc hP1 hD1 [.inr 0, .inl 1, .inr 1, .inl 3, .inl 4] (by decide +kernel) rfl (fun hP hD => ?_)
            have hw : (0 : Int) ≤ r133.toInt ∧ r133.toInt ≤ (8 : Int) := hw
            obtain ⟨h133_0, h133_1⟩ := hw
            refine va_iast hx hb hK hP hD hS 1 0 rfl rfl (by unfold vp_in; decide +kernel) dX8_minuteOn_136 (fun H locs hP hD hS => ?_)
            obtain ⟨f136, ef136⟩ : ∃ g9 : Nat → Int32, g9 = upd f127 (19 : Int32).toNatClampNeg r133 := ⟨_, rfl⟩
            refine zs_1 (y := (a1, .inl (ka1, 23, .inl (f136)))) hP hD (by rw [ef136]) (fun hP hD => ?_)
            have bf136 : ((∀ k : Nat, 0 ≤ k → k ≤ 8 → (0 : Int) ≤ (f136 k).toInt ∧ (f136 k).toInt ≤ 8) ∧ (∀ k : Nat, 19 ≤ k → k ≤ 19 → (0 : Int) ≤ (f136 k).toInt ∧ (f136 k).toInt ≤ 8) ∧ (∀ k : Nat, 20 ≤ k → k ≤ 20 → (0 : Int) ≤ (f136 k).toInt ∧ (f136 k).toInt ≤ 19)) := by rw [ef136]; exact ⟨ai_updO bf127.1 _ (Or.inr (ai_ngt_of zq160 (by decide) (by decide))), ai_updS bf127.2.1 _ ⟨h133_0, h133_1⟩, ai_updO bf127.2.2 _ (Or.inl (ai_nlt_of zq160 zq161 (by decide) (by decide)))⟩
            have kf136_19 : f136 19 = r133 := by rw [ef136]; exact ai_k1 (by decide +kernel)
            have kf136_20 : f136 20 = 0 := by rw [ef136]; exact ai_k2 (by decide +kernel) kf127_20
            have kf136_21 : f136 21 = x99 := by rw [ef136]; exact ai_k2 (by decide +kernel) kf127_21
            exact W.vret hx hb hr (fun t ht hW => ⟨⟨(), rfl, trivial, x3, (-1), 0, f136, bf136, by rw [ht]; exact hP, va_K.moved hW.alike hK, hD⟩, hS.F ht⟩) hS.2.2 dX8_minuteOn_137
          · have gc119 := ai_nle c119
            have u119f_x107 : x107.toInt ≤ (19 : Int) := ai_lthi gc119 bx118.2
            have u119f_x105 : x105.toInt ≤ (18 : Int) := by have h1 := wx107; have h2 := u119f_x107; omega
            have l119f_x118 : (2 : Int) ≤ x118.toInt := ai_ltlo gc119 bx107.1
            exact W.vret hx hb hr (fun t ht hW => ⟨⟨(), rfl, trivial, x3, (-1), 0, f108, ⟨bf108.1, bf108.2.1, ai_one (by rw [kf108_20]; exact ⟨(Int.le_trans zq4 bx107.1), u119f_x107⟩)⟩, by rw [ht]; exact hP, va_K.moved hW.alike hK, hD⟩, hS.F ht⟩) hS.2.2 dX8_minuteOn_122
        · subst hw
          refine lv_if_eq (tgt := 87) hx hb dX8_minuteOn_80 (by decide) (fun _ => ?_) (fun c80 => absurd (by decide +kernel) c80)
          refine lv_aload_n hx hb dX8_minuteOn_87 rfl (lv_at hl 2 rfl) ?_
          refine lv_iload_n hx hb dX8_minuteOn_88 rfl (lv_at hl 0 rfl) ?_
          refine va_iald hx hb hK hP 1 0 rfl rfl (ai_in bx3.1 bx3.2 (by decide) (by decide)) dX8_minuteOn_89 ?_
          refine lv_topi (fun x89 ex89 => ?_)
          have bx89 : (0 : Int) ≤ x89.toInt ∧ x89.toInt ≤ 8 := by rw [ex89]; exact ai_rd bfa1.1 bx3.1 bx3.2 (by decide) (by decide) (by decide)
          refine va_put (D := (dC, dI)) (ci := 8) (v := .int x89) (ty := .int) (C := RX8) (T := TX8) (N := 40) hx hb hts zi_X8_minuteOn_8 tyX8 tyX8_ok nmX8 hown hK hP hD hS 0 rfl rfl 27 (by decide) (hts (.fieldLink RX8 261 "WaxTurnsModel" "livedAt" "I") (zm_X8_minuteOn_r1 (List.mem_of_getElem? (i := 3) rfl))) (fun _ h9 => h9) rfl (tyX8_ok 27 (by decide)) rfl rfl (Nat.le_of_ble_eq_true rfl) dX8_minuteOn_90 (fun H locs hP hD hS => ?_)
          refine zs_0 (y := (a0, .inr (8, [a0g_0, a0g_1, a0g_2, a0g_3, a0g_4, a0g_5, a0g_6, a0g_7, a0g_8, a0g_9, a0g_10, a0g_11, a0g_12, a0g_13, a0g_14, Value.ref a0_15, a0g_16, a0g_17, a0g_18, a0g_19, a0g_20, a0g_21, a0g_22, Value.ref a0_23, Value.ref a0_24, Value.int a0_25, Value.int x3, Value.int x89, Value.int 0, a0g_29, a0g_30, a0g_31, a0g_32, a0g_33, a0g_34, a0g_35, a0g_36, a0g_37, a0g_38, a0g_39]))) hP hD rfl (fun hP hD => ?_)
          refine lv_aload_n hx hb dX8_minuteOn_93 rfl (lv_at hl 2 rfl) ?_
          refine lv_bipush (v := 21) hx hb dX8_minuteOn_94 zk_bipush_21 ?_
          refine lv_dup2_11 hx hb dX8_minuteOn_96 rfl rfl ?_
          refine va_iald hx hb hK hP 1 0 rfl rfl (by unfold vp_in; decide +kernel) dX8_minuteOn_97 ?_
          refine lv_topi (fun x97 ex97 => ?_)
          refine lv_iconst (v := 1) hx hb dX8_minuteOn_98 zk_iconst_1 ?_
          refine lv_iadd hx hb dX8_minuteOn_99 ?_
          refine lv_topi (fun x99 ex99 => ?_)
          refine va_iast hx hb hK hP hD hS 1 0 rfl rfl (by unfold vp_in; decide +kernel) dX8_minuteOn_100 (fun H locs hP hD hS => ?_)
          obtain ⟨f100, ef100⟩ : ∃ g9 : Nat → Int32, g9 = upd fa1 (21 : Int32).toNatClampNeg x99 := ⟨_, rfl⟩
          refine zs_1 (y := (a1, .inl (ka1, 23, .inl (f100)))) hP hD (by rw [ef100]) (fun hP hD => ?_)
          have bf100 : ((∀ k : Nat, 0 ≤ k → k ≤ 8 → (0 : Int) ≤ (f100 k).toInt ∧ (f100 k).toInt ≤ 8) ∧ (∀ k : Nat, 19 ≤ k → k ≤ 19 → (0 : Int) ≤ (f100 k).toInt ∧ (f100 k).toInt ≤ 8) ∧ (∀ k : Nat, 20 ≤ k → k ≤ 20 → (0 : Int) ≤ (f100 k).toInt ∧ (f100 k).toInt ≤ 19)) := by rw [ef100]; exact ⟨ai_updO bfa1.1 _ (Or.inr (ai_ngt_of zq162 (by decide) (by decide))), ai_updO bfa1.2.1 _ (Or.inr (ai_ngt_of zq162 (by decide) (by decide))), ai_updO bfa1.2.2 _ (Or.inr (ai_ngt_of zq162 (by decide) (by decide)))⟩
          have kf100_21 : f100 21 = x99 := by rw [ef100]; exact ai_k1 (by decide +kernel)
          refine lv_aload_n hx hb dX8_minuteOn_101 rfl (lv_at hl 2 rfl) ?_
          refine lv_bipush (v := 20) hx hb dX8_minuteOn_102 zk_bipush_20 ?_
          refine lv_dup2_11 hx hb dX8_minuteOn_104 rfl rfl ?_
          refine va_iald hx hb hK hP 1 0 rfl rfl (by unfold vp_in; decide +kernel) dX8_minuteOn_105 ?_
          refine lv_topi (fun x105 ex105 => ?_)
          have bx105 : (0 : Int) ≤ x105.toInt ∧ x105.toInt ≤ 19 := by rw [ex105]; exact ai_rd bf100.2.2 zq153 zq154 (by decide) (by decide) (by decide)
          refine lv_iconst (v := 1) hx hb dX8_minuteOn_106 zk_iconst_1 ?_
          refine lv_iadd hx hb dX8_minuteOn_107 ?_
          refine lv_topi (fun x107 ex107 => ?_)
          have qx107 : x107.toInt = x105.toInt + (1 : Int32).toInt := ai_add ex107 ⟨bx105.1, bx105.2⟩ ⟨zq1, zq0⟩ (by decide) (by decide)
          have bx107 : (1 : Int) ≤ x107.toInt ∧ x107.toInt ≤ 20 := ⟨by rw [qx107]; exact Int.add_le_add bx105.1 zq1, by rw [qx107]; exact Int.add_le_add bx105.2 zq0⟩
          have wx107 : x107.toInt = x105.toInt + 1 := qx107
          refine va_iast hx hb hK hP hD hS 1 0 rfl rfl (by unfold vp_in; decide +kernel) dX8_minuteOn_108 (fun H locs hP hD hS => ?_)
          obtain ⟨f108, ef108⟩ : ∃ g9 : Nat → Int32, g9 = upd f100 (20 : Int32).toNatClampNeg x107 := ⟨_, rfl⟩
          refine zs_1 (y := (a1, .inl (ka1, 23, .inl (f108)))) hP hD (by rw [ef108]) (fun hP hD => ?_)
          have bf108 : ((∀ k : Nat, 0 ≤ k → k ≤ 8 → (0 : Int) ≤ (f108 k).toInt ∧ (f108 k).toInt ≤ 8) ∧ (∀ k : Nat, 19 ≤ k → k ≤ 19 → (0 : Int) ≤ (f108 k).toInt ∧ (f108 k).toInt ≤ 8) ∧ True) := by rw [ef108]; exact ⟨ai_updO bf100.1 _ (Or.inr (ai_ngt_of zq153 (by decide) (by decide))), ai_updO bf100.2.1 _ (Or.inr (ai_ngt_of zq153 (by decide) (by decide))), trivial⟩
          have kf108_20 : f108 20 = x107 := by rw [ef108]; exact ai_k1 (by decide +kernel)
          have kf108_21 : f108 21 = x99 := by rw [ef108]; exact ai_k2 (by decide +kernel) kf100_21
          refine lv_aload_n hx hb dX8_minuteOn_109 rfl (lv_at hl 2 rfl) ?_
          refine lv_bipush (v := 20) hx hb dX8_minuteOn_110 zk_bipush_20 ?_
          refine va_iald hx hb hK hP 1 0 rfl rfl (by unfold vp_in; decide +kernel) dX8_minuteOn_112 ?_
          refine ax_ti x107 ((congrArg f108 (by decide +kernel : (20 : Int32).toNatClampNeg = 20)).trans kf108_20) ?_
          refine lv_aload_n hx hb dX8_minuteOn_113 rfl (lv_at hl 1 rfl) ?_
          refine va_get (D := (dC, dI)) (ci := 8) (v := .ref a0_15) (C := RX8) (T := TX8) (N := 40) hx hb hts zi_X8_minuteOn_8 hown hK hP 0 rfl rfl 15 (by decide) (hts (.fieldLink RX8 20 "WaxTurnsModel" "\x72" "[I") (zm_X8_minuteOn_r1 (List.mem_of_getElem? (i := 1) rfl))) (fun _ h9 => h9) rfl dX8_minuteOn_114 ?_
          refine lv_iconst (v := 1) hx hb dX8_minuteOn_117 zk_iconst_1 ?_
          refine va_iald hx hb hK hP 2 1 rfl rfl (by unfold vp_in; decide +kernel) dX8_minuteOn_118 ?_
          refine lv_topi (fun x118 ex118 => ?_)
          have bx118 : (1 : Int) ≤ x118.toInt ∧ x118.toInt ≤ 20 := by rw [ex118]; exact ai_rd bfa0_15.2.1 zq1 zq0 (by decide) (by decide) (by decide)
          refine lv_icmp_ge (tgt := 123) hx hb dX8_minuteOn_119 (by decide) (fun c119 => ?_) (fun c119 => ?_)
          · have gc119 := ai_le c119
            have u119t_x118 : x118.toInt ≤ (20 : Int) := bx118.2
            have l119t_x107 : (1 : Int) ≤ x107.toInt := bx107.1
            refine lv_aload_n hx hb dX8_minuteOn_123 rfl (lv_at hl 2 rfl) ?_
            refine lv_bipush (v := 20) hx hb dX8_minuteOn_124 zk_bipush_20 ?_
            refine lv_iconst (v := 0) hx hb dX8_minuteOn_126 zk_iconst_0 ?_
            refine va_iast hx hb hK hP hD hS 1 0 rfl rfl (by unfold vp_in; decide +kernel) dX8_minuteOn_127 (fun H locs hP hD hS => ?_)
            obtain ⟨f127, ef127⟩ : ∃ g9 : Nat → Int32, g9 = upd f108 (20 : Int32).toNatClampNeg (0 : Int32) := ⟨_, rfl⟩
            refine zs_1 (y := (a1, .inl (ka1, 23, .inl (f127)))) hP hD (by rw [ef127]) (fun hP hD => ?_)
            have bf127 : ((∀ k : Nat, 0 ≤ k → k ≤ 8 → (0 : Int) ≤ (f127 k).toInt ∧ (f127 k).toInt ≤ 8) ∧ (∀ k : Nat, 19 ≤ k → k ≤ 19 → (0 : Int) ≤ (f127 k).toInt ∧ (f127 k).toInt ≤ 8) ∧ (∀ k : Nat, 20 ≤ k → k ≤ 20 → (0 : Int) ≤ (f127 k).toInt ∧ (f127 k).toInt ≤ 19)) := by rw [ef127]; exact ⟨ai_updO bf108.1 _ (Or.inr (ai_ngt_of zq153 (by decide) (by decide))), ai_updO bf108.2.1 _ (Or.inr (ai_ngt_of zq153 (by decide) (by decide))), ai_new (by decide +kernel) ⟨zq5, (Int.le_trans zq6 zq163)⟩⟩
            have kf127_20 : f127 20 = 0 := by rw [ef127]; exact ai_k1 (by decide +kernel)
            have kf127_21 : f127 21 = x99 := by rw [ef127]; exact ai_k2 (by decide +kernel) kf108_21
            refine lv_aload_n hx hb dX8_minuteOn_128 rfl (lv_at hl 2 rfl) ?_
            refine lv_bipush (v := 19) hx hb dX8_minuteOn_129 zk_bipush_19 ?_
            refine lv_aload_n hx hb dX8_minuteOn_131 rfl (lv_at hl 1 rfl) ?_
            refine lv_iload_n hx hb dX8_minuteOn_132 rfl (lv_at hl 0 rfl) ?_
            refine zc_cutc (wc := [(a0, .inr (8, [a0g_0, a0g_1, a0g_2, a0g_3, a0g_4, a0g_5, a0g_6, a0g_7, a0g_8, a0g_9, a0g_10, a0g_11, a0g_12, a0g_13, a0g_14, Value.ref a0_15, a0g_16, a0g_17, a0g_18, a0g_19, a0g_20, a0g_21, a0g_22, Value.ref a0_23, Value.ref a0_24, Value.int a0_25, Value.int x3, Value.int x89, Value.int 0, a0g_29, a0g_30, a0g_31, a0g_32, a0g_33, a0g_34, a0g_35, a0g_36, a0g_37, a0g_38, a0g_39])), (a0_15, .inl (ka0_15, 156, .inl (fa0_15)))]) hP hD hS hA [0, 2] (by decide +kernel) rfl (fun hPc hDc hFc hCc => ?_)
            have hKc := hK.sub (tys' := [(ka0_15, .int)]) [1] rfl
            refine va_calli (va_runV (As := [.int x3]) (rest := [.int 19, .ref a1]) ⟨hx, hb, hml, hown, hts⟩ (c_X8_nextOf l dC dI H.size a0 x3 a0g_0 a0g_1 a0g_2 a0g_3 a0g_4 a0g_5 a0g_6 a0g_7 a0g_8 a0g_9 a0g_10 a0g_11 a0g_12 a0g_13 a0g_14 a0g_16 a0g_17 a0g_18 a0g_19 a0g_20 a0g_21 a0g_22 (Value.ref a0_23) (Value.ref a0_24) (Value.int a0_25) (Value.int x3) (Value.int x89) (Value.int 0) a0g_29 a0g_30 a0g_31 a0g_32 a0g_33 a0g_34 a0g_35 a0g_36 a0g_37 a0g_38 a0g_39 a0_15 ka0_15 fa0_15 bx3.1 bx3.2 bfa0_15) (cwV 1 hts gX8_minuteOn_X8_nextOf rfl rfl rfl zd_X8_nextOf ⟨Nat.le_of_ble_eq_true rfl, Nat.le_of_ble_eq_true rfl⟩) ⟨ax_blind (fun _ _ _ _ _ => trivial), zr_8 hKc hPc (q0 := 0) rfl, ax_pre hPc hKc hDc (fun _ _ => trivial)⟩ rfl rfl hl.1 rfl (lv_room (Nat.le_of_ble_eq_true rfl)) dX8_minuteOn_133 ⟨Nat.le_of_ble_eq_true rfl, Nat.le_of_ble_eq_true rfl⟩) hS (fun q _ h => hFc q h) hFc (fun r133 u t H locs ht hvm hw hB hz1 hk1 hS1 => zo hB ht hS1 (fun hP1 hK1 hD1 hS => ?_))
            refine zc_backc (w := [(a0, .inr (8, [a0g_0, a0g_1, a0g_2, a0g_3, a0g_4, a0g_5, a0g_6, a0g_7, a0g_8, a0g_9, a0g_10, a0g_11, a0g_12, a0g_13, a0g_14, Value.ref a0_15, a0g_16, a0g_17, a0g_18, a0g_19, a0g_20, a0g_21, a0g_22, Value.ref a0_23, Value.ref a0_24, Value.int a0_25, Value.int x3, Value.int x89, Value.int 0, a0g_29, a0g_30, a0g_31, a0g_32, a0g_33, a0g_34, a0g_35, a0g_36, a0g_37, a0g_38, a0g_39])), (a1, .inl (ka1, 23, .inl (f127))), (a0_15, .inl (ka0_15, 156, .inl (fa0_15))), (a0_24, .inl (ka0_24, 3, .inl (fa0_24))), (a0_23, .inl (ka0_23, 3, .inl (fa0_23)))]) hP hD hCc hk1 hFc hP1 hD1 [.inr 0, .inl 1, .inr 1, .inl 3, .inl 4] (by decide +kernel) rfl (fun hP hD => ?_)
            have hw : (0 : Int) ≤ r133.toInt ∧ r133.toInt ≤ (8 : Int) := hw
            obtain ⟨h133_0, h133_1⟩ := hw
            refine va_iast hx hb hK hP hD hS 1 0 rfl rfl (by unfold vp_in; decide +kernel) dX8_minuteOn_136 (fun H locs hP hD hS => ?_)
            obtain ⟨f136, ef136⟩ : ∃ g9 : Nat → Int32, g9 = upd f127 (19 : Int32).toNatClampNeg r133 := ⟨_, rfl⟩
            refine zs_1 (y := (a1, .inl (ka1, 23, .inl (f136)))) hP hD (by rw [ef136]) (fun hP hD => ?_)
            have bf136 : ((∀ k : Nat, 0 ≤ k → k ≤ 8 → (0 : Int) ≤ (f136 k).toInt ∧ (f136 k).toInt ≤ 8) ∧ (∀ k : Nat, 19 ≤ k → k ≤ 19 → (0 : Int) ≤ (f136 k).toInt ∧ (f136 k).toInt ≤ 8) ∧ (∀ k : Nat, 20 ≤ k → k ≤ 20 → (0 : Int) ≤ (f136 k).toInt ∧ (f136 k).toInt ≤ 19)) := by rw [ef136]; exact ⟨ai_updO bf127.1 _ (Or.inr (ai_ngt_of zq160 (by decide) (by decide))), ai_updS bf127.2.1 _ ⟨h133_0, h133_1⟩, ai_updO bf127.2.2 _ (Or.inl (ai_nlt_of zq160 zq161 (by decide) (by decide)))⟩
            have kf136_19 : f136 19 = r133 := by rw [ef136]; exact ai_k1 (by decide +kernel)
            have kf136_20 : f136 20 = 0 := by rw [ef136]; exact ai_k2 (by decide +kernel) kf127_20
            have kf136_21 : f136 21 = x99 := by rw [ef136]; exact ai_k2 (by decide +kernel) kf127_21
            exact W.vret hx hb hr (fun t ht hW => ⟨⟨(), rfl, trivial, x3, x89, 0, f136, bf136, by rw [ht]; exact hP, va_K.moved hW.alike hK, hD⟩, hS.F ht⟩) hS.2.2 dX8_minuteOn_137
          · have gc119 := ai_nle c119
            have u119f_x107 : x107.toInt ≤ (19 : Int) := ai_lthi gc119 bx118.2
            have u119f_x105 : x105.toInt ≤ (18 : Int) := by have h1 := wx107; have h2 := u119f_x107; omega
            have l119f_x118 : (2 : Int) ≤ x118.toInt := ai_ltlo gc119 bx107.1
            exact W.vret hx hb hr (fun t ht hW => ⟨⟨(), rfl, trivial, x3, x89, 0, f108, ⟨bf108.1, bf108.2.1, ai_one (by rw [kf108_20]; exact ⟨(Int.le_trans zq4 bx107.1), u119f_x107⟩)⟩, by rw [ht]; exact hP, va_K.moved hW.alike hK, hD⟩, hS.F ht⟩) hS.2.2 dX8_minuteOn_122
      · have gc57 := ai_eq c57
        have u57f_x31 : x31.toInt ≤ (2 : Int) := Int.le_trans (Int.le_of_eq gc57) zq13
        have l57f_x31 : (2 : Int) ≤ x31.toInt := Int.le_trans zq12 (Int.le_of_eq gc57.symm)
        refine lv_aload_n hx hb dX8_minuteOn_60 rfl (lv_at hl 1 rfl) ?_
        refine lv_aload_n hx hb dX8_minuteOn_61 rfl (lv_at hl 2 rfl) ?_
        refine lv_iload_n hx hb dX8_minuteOn_62 rfl (lv_at hl 0 rfl) ?_
        have hKc := hK.sub (tys' := [(ka1, .int), (ka0_15, .int), (ka0_24, .int), (ka0_23, .int)]) [0, 1, 2, 3] rfl
        refine va_callv (va_runV (As := [.ref a1, .int x3]) (rest := []) ⟨hx, hb, hml, hown, hts⟩ (c_X8_speakOn l dC dI H.size a0 a1 x3 a0g_0 a0g_1 a0g_2 a0g_3 a0g_4 a0g_5 a0g_6 a0g_7 a0g_8 a0g_9 a0g_10 a0g_11 a0g_12 a0g_13 a0g_14 a0g_16 a0g_17 a0g_18 a0g_19 a0g_20 a0g_21 a0g_22 (Value.int a0_26) (Value.int a0_27) a0g_29 a0g_30 a0g_31 a0g_32 a0g_33 a0g_34 a0g_35 a0g_36 a0g_37 a0g_38 a0g_39 a0_15 a0_23 a0_24 a0_25 0 ka1 fa1 ka0_15 fa0_15 ka0_24 fa0_24 ka0_23 fa0_23 bx3.1 bx3.2 bfa1 bfa0_15 bfa0_24 bfa0_23) (cwV 2 hts gX8_minuteOn_X8_speakOn rfl rfl rfl zd_X8_speakOn ⟨Nat.le_of_ble_eq_true rfl, Nat.le_of_ble_eq_true rfl⟩) ⟨ax_blind (fun _ _ _ _ _ => trivial), zr_8 hKc (zp_P5 hP) (q0 := 0) rfl, ax_pre (zp_P5 hP) hKc (zp_D5 hD) (fun _ _ => trivial)⟩ rfl rfl hl.1 rfl (lv_room (Nat.le_of_ble_eq_true rfl)) dX8_minuteOn_63 ⟨Nat.le_of_ble_eq_true rfl, Nat.le_of_ble_eq_true rfl⟩) hS (fun q _ h => zp_F5 hD hS hA q h) (zp_F5 hD hS hA) (fun u t H locs ht hvm hw => zx_2 (fun v63na0_28 v63nfa1 => zy_1 (fun bv63nfa1 hB hz1 hk1 hS1 => zo5 hB ht hP hD hk1 (zp_F5 hD hS hA) hS1 (fun hP hK1 hD hS => ?_))))
        refine lv_aload_n hx hb dX8_minuteOn_66 rfl (lv_at hl 1 rfl) ?_
        refine lv_iload_n hx hb dX8_minuteOn_67 rfl (lv_at hl 0 rfl) ?_
        refine va_put (D := (dC, dI)) (ci := 8) (v := .int x3) (ty := .int) (C := RX8) (T := TX8) (N := 40) hx hb hts zi_X8_minuteOn_8 tyX8 tyX8_ok nmX8 hown hK hP hD hS 0 rfl rfl 26 (by decide) (hts (.fieldLink RX8 258 "WaxTurnsModel" "lived" "I") (zm_X8_minuteOn_r1 (List.mem_of_getElem? (i := 2) rfl))) (fun _ h9 => h9) rfl (tyX8_ok 26 (by decide)) rfl rfl (Nat.le_of_ble_eq_true rfl) dX8_minuteOn_68 (fun H locs hP hD hS => ?_)
        refine zs_0 (y := (a0, .inr (8, [a0g_0, a0g_1, a0g_2, a0g_3, a0g_4, a0g_5, a0g_6, a0g_7, a0g_8, a0g_9, a0g_10, a0g_11, a0g_12, a0g_13, a0g_14, Value.ref a0_15, a0g_16, a0g_17, a0g_18, a0g_19, a0g_20, a0g_21, a0g_22, Value.ref a0_23, Value.ref a0_24, Value.int a0_25, Value.int x3, Value.int a0_27, Value.int v63na0_28, a0g_29, a0g_30, a0g_31, a0g_32, a0g_33, a0g_34, a0g_35, a0g_36, a0g_37, a0g_38, a0g_39]))) hP hD rfl (fun hP hD => ?_)
        refine lv_aload_n hx hb dX8_minuteOn_71 rfl (lv_at hl 1 rfl) ?_
        refine lv_aload_n hx hb dX8_minuteOn_72 rfl (lv_at hl 2 rfl) ?_
        refine lv_bipush (v := 18) hx hb dX8_minuteOn_73 zk_bipush_18 ?_
        refine va_iald hx hb hK hP 1 0 rfl rfl (by unfold vp_in; decide +kernel) dX8_minuteOn_75 ?_
        refine lv_topi (fun x75 ex75 => ?_)
        refine lv_iload_n hx hb dX8_minuteOn_76 rfl (lv_at hl 0 rfl) ?_
        refine va_calli (va_runS (As := [.int x75, .int x3]) (rest := [.ref a0]) ⟨hx, hb, hml, hown, hts⟩ (c_X8_hasBit l dC dI H.size x75 x3 ) (va_cwS 2 hts gX8_minuteOn_X8_hasBit rfl rfl rfl zd_X8_hasBit.2 ⟨Nat.le_of_ble_eq_true rfl, Nat.le_of_ble_eq_true rfl⟩) ⟨ax_blind (fun _ _ _ _ _ => trivial), ax_pre (zp_P0 hP) (zp_K hK) (zp_D0 hD) (fun _ _ => trivial)⟩ rfl rfl hl.1 rfl (lv_room (Nat.le_of_ble_eq_true rfl)) dX8_minuteOn_77 ⟨Nat.le_of_ble_eq_true rfl, Nat.le_of_ble_eq_true rfl⟩) hS (fun q _ h => zp_F0 hD hS hA q h) (zp_F0 hD hS hA) (fun r77 u t H locs ht hvm hw hB hz1 hk1 hS1 => zo0 hB ht hP hD hk1 (zp_F0 hD hS hA) hS1 (fun hP hK1 hD hS => ?_))
        rcases hw with hw | hw
        · subst hw
          refine lv_if_eq (tgt := 87) hx hb dX8_minuteOn_80 (by decide) (fun c80 => absurd c80 (by decide +kernel)) (fun _ => ?_)
          refine lv_iconst (v := (-1)) hx hb dX8_minuteOn_83 zk_iconst_n1 ?_
          refine lv_goto (tgt := 90) hx hb dX8_minuteOn_84 (by decide) ?_
          refine va_put (D := (dC, dI)) (ci := 8) (v := .int (-1)) (ty := .int) (C := RX8) (T := TX8) (N := 40) hx hb hts zi_X8_minuteOn_8 tyX8 tyX8_ok nmX8 hown hK hP hD hS 0 rfl rfl 27 (by decide) (hts (.fieldLink RX8 261 "WaxTurnsModel" "livedAt" "I") (zm_X8_minuteOn_r1 (List.mem_of_getElem? (i := 3) rfl))) (fun _ h9 => h9) rfl (tyX8_ok 27 (by decide)) rfl rfl (Nat.le_of_ble_eq_true rfl) dX8_minuteOn_90 (fun H locs hP hD hS => ?_)
          refine zs_0 (y := (a0, .inr (8, [a0g_0, a0g_1, a0g_2, a0g_3, a0g_4, a0g_5, a0g_6, a0g_7, a0g_8, a0g_9, a0g_10, a0g_11, a0g_12, a0g_13, a0g_14, Value.ref a0_15, a0g_16, a0g_17, a0g_18, a0g_19, a0g_20, a0g_21, a0g_22, Value.ref a0_23, Value.ref a0_24, Value.int a0_25, Value.int x3, Value.int (-1), Value.int v63na0_28, a0g_29, a0g_30, a0g_31, a0g_32, a0g_33, a0g_34, a0g_35, a0g_36, a0g_37, a0g_38, a0g_39]))) hP hD rfl (fun hP hD => ?_)
          refine lv_aload_n hx hb dX8_minuteOn_93 rfl (lv_at hl 2 rfl) ?_
          refine lv_bipush (v := 21) hx hb dX8_minuteOn_94 zk_bipush_21 ?_
          refine lv_dup2_11 hx hb dX8_minuteOn_96 rfl rfl ?_
          refine va_iald hx hb hK hP 1 0 rfl rfl (by unfold vp_in; decide +kernel) dX8_minuteOn_97 ?_
          refine lv_topi (fun x97 ex97 => ?_)
          refine lv_iconst (v := 1) hx hb dX8_minuteOn_98 zk_iconst_1 ?_
          refine lv_iadd hx hb dX8_minuteOn_99 ?_
          refine lv_topi (fun x99 ex99 => ?_)
          refine va_iast hx hb hK hP hD hS 1 0 rfl rfl (by unfold vp_in; decide +kernel) dX8_minuteOn_100 (fun H locs hP hD hS => ?_)
          obtain ⟨f100, ef100⟩ : ∃ g9 : Nat → Int32, g9 = upd v63nfa1 (21 : Int32).toNatClampNeg x99 := ⟨_, rfl⟩
          refine zs_1 (y := (a1, .inl (ka1, 23, .inl (f100)))) hP hD (by rw [ef100]) (fun hP hD => ?_)
          have bf100 : ((∀ k : Nat, 0 ≤ k → k ≤ 8 → (0 : Int) ≤ (f100 k).toInt ∧ (f100 k).toInt ≤ 8) ∧ (∀ k : Nat, 19 ≤ k → k ≤ 19 → (0 : Int) ≤ (f100 k).toInt ∧ (f100 k).toInt ≤ 8) ∧ (∀ k : Nat, 20 ≤ k → k ≤ 20 → (0 : Int) ≤ (f100 k).toInt ∧ (f100 k).toInt ≤ 19)) := by rw [ef100]; exact ⟨ai_updO bv63nfa1.1 _ (Or.inr (ai_ngt_of zq162 (by decide) (by decide))), ai_updO bv63nfa1.2.1 _ (Or.inr (ai_ngt_of zq162 (by decide) (by decide))), ai_updO bv63nfa1.2.2 _ (Or.inr (ai_ngt_of zq162 (by decide) (by decide)))⟩
          have kf100_21 : f100 21 = x99 := by rw [ef100]; exact ai_k1 (by decide +kernel)
          refine lv_aload_n hx hb dX8_minuteOn_101 rfl (lv_at hl 2 rfl) ?_
          refine lv_bipush (v := 20) hx hb dX8_minuteOn_102 zk_bipush_20 ?_
          refine lv_dup2_11 hx hb dX8_minuteOn_104 rfl rfl ?_
          refine va_iald hx hb hK hP 1 0 rfl rfl (by unfold vp_in; decide +kernel) dX8_minuteOn_105 ?_
          refine lv_topi (fun x105 ex105 => ?_)
          have bx105 : (0 : Int) ≤ x105.toInt ∧ x105.toInt ≤ 19 := by rw [ex105]; exact ai_rd bf100.2.2 zq153 zq154 (by decide) (by decide) (by decide)
          refine lv_iconst (v := 1) hx hb dX8_minuteOn_106 zk_iconst_1 ?_
          refine lv_iadd hx hb dX8_minuteOn_107 ?_
          refine lv_topi (fun x107 ex107 => ?_)
          have qx107 : x107.toInt = x105.toInt + (1 : Int32).toInt := ai_add ex107 ⟨bx105.1, bx105.2⟩ ⟨zq1, zq0⟩ (by decide) (by decide)
          have bx107 : (1 : Int) ≤ x107.toInt ∧ x107.toInt ≤ 20 := ⟨by rw [qx107]; exact Int.add_le_add bx105.1 zq1, by rw [qx107]; exact Int.add_le_add bx105.2 zq0⟩
          have wx107 : x107.toInt = x105.toInt + 1 := qx107
          refine va_iast hx hb hK hP hD hS 1 0 rfl rfl (by unfold vp_in; decide +kernel) dX8_minuteOn_108 (fun H locs hP hD hS => ?_)
          obtain ⟨f108, ef108⟩ : ∃ g9 : Nat → Int32, g9 = upd f100 (20 : Int32).toNatClampNeg x107 := ⟨_, rfl⟩
          refine zs_1 (y := (a1, .inl (ka1, 23, .inl (f108)))) hP hD (by rw [ef108]) (fun hP hD => ?_)
          have bf108 : ((∀ k : Nat, 0 ≤ k → k ≤ 8 → (0 : Int) ≤ (f108 k).toInt ∧ (f108 k).toInt ≤ 8) ∧ (∀ k : Nat, 19 ≤ k → k ≤ 19 → (0 : Int) ≤ (f108 k).toInt ∧ (f108 k).toInt ≤ 8) ∧ True) := by rw [ef108]; exact ⟨ai_updO bf100.1 _ (Or.inr (ai_ngt_of zq153 (by decide) (by decide))), ai_updO bf100.2.1 _ (Or.inr (ai_ngt_of zq153 (by decide) (by decide))), trivial⟩
          have kf108_20 : f108 20 = x107 := by rw [ef108]; exact ai_k1 (by decide +kernel)
          have kf108_21 : f108 21 = x99 := by rw [ef108]; exact ai_k2 (by decide +kernel) kf100_21
          refine lv_aload_n hx hb dX8_minuteOn_109 rfl (lv_at hl 2 rfl) ?_
          refine lv_bipush (v := 20) hx hb dX8_minuteOn_110 zk_bipush_20 ?_
          refine va_iald hx hb hK hP 1 0 rfl rfl (by unfold vp_in; decide +kernel) dX8_minuteOn_112 ?_
          refine ax_ti x107 ((congrArg f108 (by decide +kernel : (20 : Int32).toNatClampNeg = 20)).trans kf108_20) ?_
          refine lv_aload_n hx hb dX8_minuteOn_113 rfl (lv_at hl 1 rfl) ?_
          refine va_get (D := (dC, dI)) (ci := 8) (v := .ref a0_15) (C := RX8) (T := TX8) (N := 40) hx hb hts zi_X8_minuteOn_8 hown hK hP 0 rfl rfl 15 (by decide) (hts (.fieldLink RX8 20 "WaxTurnsModel" "\x72" "[I") (zm_X8_minuteOn_r1 (List.mem_of_getElem? (i := 1) rfl))) (fun _ h9 => h9) rfl dX8_minuteOn_114 ?_
          refine lv_iconst (v := 1) hx hb dX8_minuteOn_117 zk_iconst_1 ?_
          refine va_iald hx hb hK hP 2 1 rfl rfl (by unfold vp_in; decide +kernel) dX8_minuteOn_118 ?_
          refine lv_topi (fun x118 ex118 => ?_)
          have bx118 : (1 : Int) ≤ x118.toInt ∧ x118.toInt ≤ 20 := by rw [ex118]; exact ai_rd bfa0_15.2.1 zq1 zq0 (by decide) (by decide) (by decide)
          refine lv_icmp_ge (tgt := 123) hx hb dX8_minuteOn_119 (by decide) (fun c119 => ?_) (fun c119 => ?_)
          · have gc119 := ai_le c119
            have u119t_x118 : x118.toInt ≤ (20 : Int) := bx118.2
            have l119t_x107 : (1 : Int) ≤ x107.toInt := bx107.1
            refine lv_aload_n hx hb dX8_minuteOn_123 rfl (lv_at hl 2 rfl) ?_
            refine lv_bipush (v := 20) hx hb dX8_minuteOn_124 zk_bipush_20 ?_
            refine lv_iconst (v := 0) hx hb dX8_minuteOn_126 zk_iconst_0 ?_
            refine va_iast hx hb hK hP hD hS 1 0 rfl rfl (by unfold vp_in; decide +kernel) dX8_minuteOn_127 (fun H locs hP hD hS => ?_)
            obtain ⟨f127, ef127⟩ : ∃ g9 : Nat → Int32, g9 = upd f108 (20 : Int32).toNatClampNeg (0 : Int32) := ⟨_, rfl⟩
            refine zs_1 (y := (a1, .inl (ka1, 23, .inl (f127)))) hP hD (by rw [ef127]) (fun hP hD => ?_)
            have bf127 : ((∀ k : Nat, 0 ≤ k → k ≤ 8 → (0 : Int) ≤ (f127 k).toInt ∧ (f127 k).toInt ≤ 8) ∧ (∀ k : Nat, 19 ≤ k → k ≤ 19 → (0 : Int) ≤ (f127 k).toInt ∧ (f127 k).toInt ≤ 8) ∧ (∀ k : Nat, 20 ≤ k → k ≤ 20 → (0 : Int) ≤ (f127 k).toInt ∧ (f127 k).toInt ≤ 19)) := by rw [ef127]; exact ⟨ai_updO bf108.1 _ (Or.inr (ai_ngt_of zq153 (by decide) (by decide))), ai_updO bf108.2.1 _ (Or.inr (ai_ngt_of zq153 (by decide) (by decide))), ai_new (by decide +kernel) ⟨zq5, (Int.le_trans zq6 zq163)⟩⟩
            have kf127_20 : f127 20 = 0 := by rw [ef127]; exact ai_k1 (by decide +kernel)
            have kf127_21 : f127 21 = x99 := by rw [ef127]; exact ai_k2 (by decide +kernel) kf108_21
            refine lv_aload_n hx hb dX8_minuteOn_128 rfl (lv_at hl 2 rfl) ?_
            refine lv_bipush (v := 19) hx hb dX8_minuteOn_129 zk_bipush_19 ?_
            refine lv_aload_n hx hb dX8_minuteOn_131 rfl (lv_at hl 1 rfl) ?_
            refine lv_iload_n hx hb dX8_minuteOn_132 rfl (lv_at hl 0 rfl) ?_
            refine zc_cutc (wc := [(a0, .inr (8, [a0g_0, a0g_1, a0g_2, a0g_3, a0g_4, a0g_5, a0g_6, a0g_7, a0g_8, a0g_9, a0g_10, a0g_11, a0g_12, a0g_13, a0g_14, Value.ref a0_15, a0g_16, a0g_17, a0g_18, a0g_19, a0g_20, a0g_21, a0g_22, Value.ref a0_23, Value.ref a0_24, Value.int a0_25, Value.int x3, Value.int (-1), Value.int v63na0_28, a0g_29, a0g_30, a0g_31, a0g_32, a0g_33, a0g_34, a0g_35, a0g_36, a0g_37, a0g_38, a0g_39])), (a0_15, .inl (ka0_15, 156, .inl (fa0_15)))]) hP hD hS hA [0, 2] (by decide +kernel) rfl (fun hPc hDc hFc hCc => ?_)
            have hKc := hK.sub (tys' := [(ka0_15, .int)]) [1] rfl
            refine va_calli (va_runV (As := [.int x3]) (rest := [.int 19, .ref a1]) ⟨hx, hb, hml, hown, hts⟩ (c_X8_nextOf l dC dI H.size a0 x3 a0g_0 a0g_1 a0g_2 a0g_3 a0g_4 a0g_5 a0g_6 a0g_7 a0g_8 a0g_9 a0g_10 a0g_11 a0g_12 a0g_13 a0g_14 a0g_16 a0g_17 a0g_18 a0g_19 a0g_20 a0g_21 a0g_22 (Value.ref a0_23) (Value.ref a0_24) (Value.int a0_25) (Value.int x3) (Value.int (-1)) (Value.int v63na0_28) a0g_29 a0g_30 a0g_31 a0g_32 a0g_33 a0g_34 a0g_35 a0g_36 a0g_37 a0g_38 a0g_39 a0_15 ka0_15 fa0_15 bx3.1 bx3.2 bfa0_15) (cwV 1 hts gX8_minuteOn_X8_nextOf rfl rfl rfl zd_X8_nextOf ⟨Nat.le_of_ble_eq_true rfl, Nat.le_of_ble_eq_true rfl⟩) ⟨ax_blind (fun _ _ _ _ _ => trivial), zr_8 hKc hPc (q0 := 0) rfl, ax_pre hPc hKc hDc (fun _ _ => trivial)⟩ rfl rfl hl.1 rfl (lv_room (Nat.le_of_ble_eq_true rfl)) dX8_minuteOn_133 ⟨Nat.le_of_ble_eq_true rfl, Nat.le_of_ble_eq_true rfl⟩) hS (fun q _ h => hFc q h) hFc (fun r133 u t H locs ht hvm hw hB hz1 hk1 hS1 => zo hB ht hS1 (fun hP1 hK1 hD1 hS => ?_))
            refine zc_backc (w := [(a0, .inr (8, [a0g_0, a0g_1, a0g_2, a0g_3, a0g_4, a0g_5, a0g_6, a0g_7, a0g_8, a0g_9, a0g_10, a0g_11, a0g_12, a0g_13, a0g_14, Value.ref a0_15, a0g_16, a0g_17, a0g_18, a0g_19, a0g_20, a0g_21, a0g_22, Value.ref a0_23, Value.ref a0_24, Value.int a0_25, Value.int x3, Value.int (-1), Value.int v63na0_28, a0g_29, a0g_30, a0g_31, a0g_32, a0g_33, a0g_34, a0g_35, a0g_36, a0g_37, a0g_38, a0g_39])), (a1, .inl (ka1, 23, .inl (f127))), (a0_15, .inl (ka0_15, 156, .inl (fa0_15))), (a0_24, .inl (ka0_24, 3, .inl (fa0_24))), (a0_23, .inl (ka0_23, 3, .inl (fa0_23)))]) hP hD hCc hk1 hFc hP1 hD1 [.inr 0, .inl 1, .inr 1, .inl 3, .inl 4] (by decide +kernel) rfl (fun hP hD => ?_)
            have hw : (0 : Int) ≤ r133.toInt ∧ r133.toInt ≤ (8 : Int) := hw
            obtain ⟨h133_0, h133_1⟩ := hw
            refine va_iast hx hb hK hP hD hS 1 0 rfl rfl (by unfold vp_in; decide +kernel) dX8_minuteOn_136 (fun H locs hP hD hS => ?_)
            obtain ⟨f136, ef136⟩ : ∃ g9 : Nat → Int32, g9 = upd f127 (19 : Int32).toNatClampNeg r133 := ⟨_, rfl⟩
            refine zs_1 (y := (a1, .inl (ka1, 23, .inl (f136)))) hP hD (by rw [ef136]) (fun hP hD => ?_)
            have bf136 : ((∀ k : Nat, 0 ≤ k → k ≤ 8 → (0 : Int) ≤ (f136 k).toInt ∧ (f136 k).toInt ≤ 8) ∧ (∀ k : Nat, 19 ≤ k → k ≤ 19 → (0 : Int) ≤ (f136 k).toInt ∧ (f136 k).toInt ≤ 8) ∧ (∀ k : Nat, 20 ≤ k → k ≤ 20 → (0 : Int) ≤ (f136 k).toInt ∧ (f136 k).toInt ≤ 19)) := by rw [ef136]; exact ⟨ai_updO bf127.1 _ (Or.inr (ai_ngt_of zq160 (by decide) (by decide))), ai_updS bf127.2.1 _ ⟨h133_0, h133_1⟩, ai_updO bf127.2.2 _ (Or.inl (ai_nlt_of zq160 zq161 (by decide) (by decide)))⟩
            have kf136_19 : f136 19 = r133 := by rw [ef136]; exact ai_k1 (by decide +kernel)
            have kf136_20 : f136 20 = 0 := by rw [ef136]; exact ai_k2 (by decide +kernel) kf127_20
            have kf136_21 : f136 21 = x99 := by rw [ef136]; exact ai_k2 (by decide +kernel) kf127_21
            exact W.vret hx hb hr (fun t ht hW => ⟨⟨(), rfl, trivial, x3, (-1), v63na0_28, f136, bf136, by rw [ht]; exact hP, va_K.moved hW.alike hK, hD⟩, hS.F ht⟩) hS.2.2 dX8_minuteOn_137
          · have gc119 := ai_nle c119
            have u119f_x107 : x107.toInt ≤ (19 : Int) := ai_lthi gc119 bx118.2
            have u119f_x105 : x105.toInt ≤ (18 : Int) := by have h1 := wx107; have h2 := u119f_x107; omega
            have l119f_x118 : (2 : Int) ≤ x118.toInt := ai_ltlo gc119 bx107.1
            exact W.vret hx hb hr (fun t ht hW => ⟨⟨(), rfl, trivial, x3, (-1), v63na0_28, f108, ⟨bf108.1, bf108.2.1, ai_one (by rw [kf108_20]; exact ⟨(Int.le_trans zq4 bx107.1), u119f_x107⟩)⟩, by rw [ht]; exact hP, va_K.moved hW.alike hK, hD⟩, hS.F ht⟩) hS.2.2 dX8_minuteOn_122
        · subst hw
          refine lv_if_eq (tgt := 87) hx hb dX8_minuteOn_80 (by decide) (fun _ => ?_) (fun c80 => absurd (by decide +kernel) c80)
          refine lv_aload_n hx hb dX8_minuteOn_87 rfl (lv_at hl 2 rfl) ?_
          refine lv_iload_n hx hb dX8_minuteOn_88 rfl (lv_at hl 0 rfl) ?_
          refine va_iald hx hb hK hP 1 0 rfl rfl (ai_in bx3.1 bx3.2 (by decide) (by decide)) dX8_minuteOn_89 ?_
          refine lv_topi (fun x89 ex89 => ?_)
          have bx89 : (0 : Int) ≤ x89.toInt ∧ x89.toInt ≤ 8 := by rw [ex89]; exact ai_rd bv63nfa1.1 bx3.1 bx3.2 (by decide) (by decide) (by decide)
          refine va_put (D := (dC, dI)) (ci := 8) (v := .int x89) (ty := .int) (C := RX8) (T := TX8) (N := 40) hx hb hts zi_X8_minuteOn_8 tyX8 tyX8_ok nmX8 hown hK hP hD hS 0 rfl rfl 27 (by decide) (hts (.fieldLink RX8 261 "WaxTurnsModel" "livedAt" "I") (zm_X8_minuteOn_r1 (List.mem_of_getElem? (i := 3) rfl))) (fun _ h9 => h9) rfl (tyX8_ok 27 (by decide)) rfl rfl (Nat.le_of_ble_eq_true rfl) dX8_minuteOn_90 (fun H locs hP hD hS => ?_)
          refine zs_0 (y := (a0, .inr (8, [a0g_0, a0g_1, a0g_2, a0g_3, a0g_4, a0g_5, a0g_6, a0g_7, a0g_8, a0g_9, a0g_10, a0g_11, a0g_12, a0g_13, a0g_14, Value.ref a0_15, a0g_16, a0g_17, a0g_18, a0g_19, a0g_20, a0g_21, a0g_22, Value.ref a0_23, Value.ref a0_24, Value.int a0_25, Value.int x3, Value.int x89, Value.int v63na0_28, a0g_29, a0g_30, a0g_31, a0g_32, a0g_33, a0g_34, a0g_35, a0g_36, a0g_37, a0g_38, a0g_39]))) hP hD rfl (fun hP hD => ?_)
          refine lv_aload_n hx hb dX8_minuteOn_93 rfl (lv_at hl 2 rfl) ?_
          refine lv_bipush (v := 21) hx hb dX8_minuteOn_94 zk_bipush_21 ?_
          refine lv_dup2_11 hx hb dX8_minuteOn_96 rfl rfl ?_
          refine va_iald hx hb hK hP 1 0 rfl rfl (by unfold vp_in; decide +kernel) dX8_minuteOn_97 ?_
          refine lv_topi (fun x97 ex97 => ?_)
          refine lv_iconst (v := 1) hx hb dX8_minuteOn_98 zk_iconst_1 ?_
          refine lv_iadd hx hb dX8_minuteOn_99 ?_
          refine lv_topi (fun x99 ex99 => ?_)
          refine va_iast hx hb hK hP hD hS 1 0 rfl rfl (by unfold vp_in; decide +kernel) dX8_minuteOn_100 (fun H locs hP hD hS => ?_)
          obtain ⟨f100, ef100⟩ : ∃ g9 : Nat → Int32, g9 = upd v63nfa1 (21 : Int32).toNatClampNeg x99 := ⟨_, rfl⟩
          refine zs_1 (y := (a1, .inl (ka1, 23, .inl (f100)))) hP hD (by rw [ef100]) (fun hP hD => ?_)
          have bf100 : ((∀ k : Nat, 0 ≤ k → k ≤ 8 → (0 : Int) ≤ (f100 k).toInt ∧ (f100 k).toInt ≤ 8) ∧ (∀ k : Nat, 19 ≤ k → k ≤ 19 → (0 : Int) ≤ (f100 k).toInt ∧ (f100 k).toInt ≤ 8) ∧ (∀ k : Nat, 20 ≤ k → k ≤ 20 → (0 : Int) ≤ (f100 k).toInt ∧ (f100 k).toInt ≤ 19)) := by rw [ef100]; exact ⟨ai_updO bv63nfa1.1 _ (Or.inr (ai_ngt_of zq162 (by decide) (by decide))), ai_updO bv63nfa1.2.1 _ (Or.inr (ai_ngt_of zq162 (by decide) (by decide))), ai_updO bv63nfa1.2.2 _ (Or.inr (ai_ngt_of zq162 (by decide) (by decide)))⟩
          have kf100_21 : f100 21 = x99 := by rw [ef100]; exact ai_k1 (by decide +kernel)
          refine lv_aload_n hx hb dX8_minuteOn_101 rfl (lv_at hl 2 rfl) ?_
          refine lv_bipush (v := 20) hx hb dX8_minuteOn_102 zk_bipush_20 ?_
          refine lv_dup2_11 hx hb dX8_minuteOn_104 rfl rfl ?_
          refine va_iald hx hb hK hP 1 0 rfl rfl (by unfold vp_in; decide +kernel) dX8_minuteOn_105 ?_
          refine lv_topi (fun x105 ex105 => ?_)
          have bx105 : (0 : Int) ≤ x105.toInt ∧ x105.toInt ≤ 19 := by rw [ex105]; exact ai_rd bf100.2.2 zq153 zq154 (by decide) (by decide) (by decide)
          refine lv_iconst (v := 1) hx hb dX8_minuteOn_106 zk_iconst_1 ?_
          refine lv_iadd hx hb dX8_minuteOn_107 ?_
          refine lv_topi (fun x107 ex107 => ?_)
          have qx107 : x107.toInt = x105.toInt + (1 : Int32).toInt := ai_add ex107 ⟨bx105.1, bx105.2⟩ ⟨zq1, zq0⟩ (by decide) (by decide)
          have bx107 : (1 : Int) ≤ x107.toInt ∧ x107.toInt ≤ 20 := ⟨by rw [qx107]; exact Int.add_le_add bx105.1 zq1, by rw [qx107]; exact Int.add_le_add bx105.2 zq0⟩
          have wx107 : x107.toInt = x105.toInt + 1 := qx107
          refine va_iast hx hb hK hP hD hS 1 0 rfl rfl (by unfold vp_in; decide +kernel) dX8_minuteOn_108 (fun H locs hP hD hS => ?_)
          obtain ⟨f108, ef108⟩ : ∃ g9 : Nat → Int32, g9 = upd f100 (20 : Int32).toNatClampNeg x107 := ⟨_, rfl⟩
          refine zs_1 (y := (a1, .inl (ka1, 23, .inl (f108)))) hP hD (by rw [ef108]) (fun hP hD => ?_)
          have bf108 : ((∀ k : Nat, 0 ≤ k → k ≤ 8 → (0 : Int) ≤ (f108 k).toInt ∧ (f108 k).toInt ≤ 8) ∧ (∀ k : Nat, 19 ≤ k → k ≤ 19 → (0 : Int) ≤ (f108 k).toInt ∧ (f108 k).toInt ≤ 8) ∧ True) := by rw [ef108]; exact ⟨ai_updO bf100.1 _ (Or.inr (ai_ngt_of zq153 (by decide) (by decide))), ai_updO bf100.2.1 _ (Or.inr (ai_ngt_of zq153 (by decide) (by decide))), trivial⟩
          have kf108_20 : f108 20 = x107 := by rw [ef108]; exact ai_k1 (by decide +kernel)
          have kf108_21 : f108 21 = x99 := by rw [ef108]; exact ai_k2 (by decide +kernel) kf100_21
          refine lv_aload_n hx hb dX8_minuteOn_109 rfl (lv_at hl 2 rfl) ?_
          refine lv_bipush (v := 20) hx hb dX8_minuteOn_110 zk_bipush_20 ?_
          refine va_iald hx hb hK hP 1 0 rfl rfl (by unfold vp_in; decide +kernel) dX8_minuteOn_112 ?_
          refine ax_ti x107 ((congrArg f108 (by decide +kernel : (20 : Int32).toNatClampNeg = 20)).trans kf108_20) ?_
          refine lv_aload_n hx hb dX8_minuteOn_113 rfl (lv_at hl 1 rfl) ?_
          refine va_get (D := (dC, dI)) (ci := 8) (v := .ref a0_15) (C := RX8) (T := TX8) (N := 40) hx hb hts zi_X8_minuteOn_8 hown hK hP 0 rfl rfl 15 (by decide) (hts (.fieldLink RX8 20 "WaxTurnsModel" "\x72" "[I") (zm_X8_minuteOn_r1 (List.mem_of_getElem? (i := 1) rfl))) (fun _ h9 => h9) rfl dX8_minuteOn_114 ?_
          refine lv_iconst (v := 1) hx hb dX8_minuteOn_117 zk_iconst_1 ?_
          refine va_iald hx hb hK hP 2 1 rfl rfl (by unfold vp_in; decide +kernel) dX8_minuteOn_118 ?_
          refine lv_topi (fun x118 ex118 => ?_)
          have bx118 : (1 : Int) ≤ x118.toInt ∧ x118.toInt ≤ 20 := by rw [ex118]; exact ai_rd bfa0_15.2.1 zq1 zq0 (by decide) (by decide) (by decide)
          refine lv_icmp_ge (tgt := 123) hx hb dX8_minuteOn_119 (by decide) (fun c119 => ?_) (fun c119 => ?_)
          · have gc119 := ai_le c119
            have u119t_x118 : x118.toInt ≤ (20 : Int) := bx118.2
            have l119t_x107 : (1 : Int) ≤ x107.toInt := bx107.1
            refine lv_aload_n hx hb dX8_minuteOn_123 rfl (lv_at hl 2 rfl) ?_
            refine lv_bipush (v := 20) hx hb dX8_minuteOn_124 zk_bipush_20 ?_
            refine lv_iconst (v := 0) hx hb dX8_minuteOn_126 zk_iconst_0 ?_
            refine va_iast hx hb hK hP hD hS 1 0 rfl rfl (by unfold vp_in; decide +kernel) dX8_minuteOn_127 (fun H locs hP hD hS => ?_)
            obtain ⟨f127, ef127⟩ : ∃ g9 : Nat → Int32, g9 = upd f108 (20 : Int32).toNatClampNeg (0 : Int32) := ⟨_, rfl⟩
            refine zs_1 (y := (a1, .inl (ka1, 23, .inl (f127)))) hP hD (by rw [ef127]) (fun hP hD => ?_)
            have bf127 : ((∀ k : Nat, 0 ≤ k → k ≤ 8 → (0 : Int) ≤ (f127 k).toInt ∧ (f127 k).toInt ≤ 8) ∧ (∀ k : Nat, 19 ≤ k → k ≤ 19 → (0 : Int) ≤ (f127 k).toInt ∧ (f127 k).toInt ≤ 8) ∧ (∀ k : Nat, 20 ≤ k → k ≤ 20 → (0 : Int) ≤ (f127 k).toInt ∧ (f127 k).toInt ≤ 19)) := by rw [ef127]; exact ⟨ai_updO bf108.1 _ (Or.inr (ai_ngt_of zq153 (by decide) (by decide))), ai_updO bf108.2.1 _ (Or.inr (ai_ngt_of zq153 (by decide) (by decide))), ai_new (by decide +kernel) ⟨zq5, (Int.le_trans zq6 zq163)⟩⟩
            have kf127_20 : f127 20 = 0 := by rw [ef127]; exact ai_k1 (by decide +kernel)
            have kf127_21 : f127 21 = x99 := by rw [ef127]; exact ai_k2 (by decide +kernel) kf108_21
            refine lv_aload_n hx hb dX8_minuteOn_128 rfl (lv_at hl 2 rfl) ?_
            refine lv_bipush (v := 19) hx hb dX8_minuteOn_129 zk_bipush_19 ?_
            refine lv_aload_n hx hb dX8_minuteOn_131 rfl (lv_at hl 1 rfl) ?_
            refine lv_iload_n hx hb dX8_minuteOn_132 rfl (lv_at hl 0 rfl) ?_
            refine zc_cutc (wc := [(a0, .inr (8, [a0g_0, a0g_1, a0g_2, a0g_3, a0g_4, a0g_5, a0g_6, a0g_7, a0g_8, a0g_9, a0g_10, a0g_11, a0g_12, a0g_13, a0g_14, Value.ref a0_15, a0g_16, a0g_17, a0g_18, a0g_19, a0g_20, a0g_21, a0g_22, Value.ref a0_23, Value.ref a0_24, Value.int a0_25, Value.int x3, Value.int x89, Value.int v63na0_28, a0g_29, a0g_30, a0g_31, a0g_32, a0g_33, a0g_34, a0g_35, a0g_36, a0g_37, a0g_38, a0g_39])), (a0_15, .inl (ka0_15, 156, .inl (fa0_15)))]) hP hD hS hA [0, 2] (by decide +kernel) rfl (fun hPc hDc hFc hCc => ?_)
            have hKc := hK.sub (tys' := [(ka0_15, .int)]) [1] rfl
            refine va_calli (va_runV (As := [.int x3]) (rest := [.int 19, .ref a1]) ⟨hx, hb, hml, hown, hts⟩ (c_X8_nextOf l dC dI H.size a0 x3 a0g_0 a0g_1 a0g_2 a0g_3 a0g_4 a0g_5 a0g_6 a0g_7 a0g_8 a0g_9 a0g_10 a0g_11 a0g_12 a0g_13 a0g_14 a0g_16 a0g_17 a0g_18 a0g_19 a0g_20 a0g_21 a0g_22 (Value.ref a0_23) (Value.ref a0_24) (Value.int a0_25) (Value.int x3) (Value.int x89) (Value.int v63na0_28) a0g_29 a0g_30 a0g_31 a0g_32 a0g_33 a0g_34 a0g_35 a0g_36 a0g_37 a0g_38 a0g_39 a0_15 ka0_15 fa0_15 bx3.1 bx3.2 bfa0_15) (cwV 1 hts gX8_minuteOn_X8_nextOf rfl rfl rfl zd_X8_nextOf ⟨Nat.le_of_ble_eq_true rfl, Nat.le_of_ble_eq_true rfl⟩) ⟨ax_blind (fun _ _ _ _ _ => trivial), zr_8 hKc hPc (q0 := 0) rfl, ax_pre hPc hKc hDc (fun _ _ => trivial)⟩ rfl rfl hl.1 rfl (lv_room (Nat.le_of_ble_eq_true rfl)) dX8_minuteOn_133 ⟨Nat.le_of_ble_eq_true rfl, Nat.le_of_ble_eq_true rfl⟩) hS (fun q _ h => hFc q h) hFc (fun r133 u t H locs ht hvm hw hB hz1 hk1 hS1 => zo hB ht hS1 (fun hP1 hK1 hD1 hS => ?_))
            refine zc_backc (w := [(a0, .inr (8, [a0g_0, a0g_1, a0g_2, a0g_3, a0g_4, a0g_5, a0g_6, a0g_7, a0g_8, a0g_9, a0g_10, a0g_11, a0g_12, a0g_13, a0g_14, Value.ref a0_15, a0g_16, a0g_17, a0g_18, a0g_19, a0g_20, a0g_21, a0g_22, Value.ref a0_23, Value.ref a0_24, Value.int a0_25, Value.int x3, Value.int x89, Value.int v63na0_28, a0g_29, a0g_30, a0g_31, a0g_32, a0g_33, a0g_34, a0g_35, a0g_36, a0g_37, a0g_38, a0g_39])), (a1, .inl (ka1, 23, .inl (f127))), (a0_15, .inl (ka0_15, 156, .inl (fa0_15))), (a0_24, .inl (ka0_24, 3, .inl (fa0_24))), (a0_23, .inl (ka0_23, 3, .inl (fa0_23)))]) hP hD hCc hk1 hFc hP1 hD1 [.inr 0, .inl 1, .inr 1, .inl 3, .inl 4] (by decide +kernel) rfl (fun hP hD => ?_)
            have hw : (0 : Int) ≤ r133.toInt ∧ r133.toInt ≤ (8 : Int) := hw
            obtain ⟨h133_0, h133_1⟩ := hw
            refine va_iast hx hb hK hP hD hS 1 0 rfl rfl (by unfold vp_in; decide +kernel) dX8_minuteOn_136 (fun H locs hP hD hS => ?_)
            obtain ⟨f136, ef136⟩ : ∃ g9 : Nat → Int32, g9 = upd f127 (19 : Int32).toNatClampNeg r133 := ⟨_, rfl⟩
            refine zs_1 (y := (a1, .inl (ka1, 23, .inl (f136)))) hP hD (by rw [ef136]) (fun hP hD => ?_)
            have bf136 : ((∀ k : Nat, 0 ≤ k → k ≤ 8 → (0 : Int) ≤ (f136 k).toInt ∧ (f136 k).toInt ≤ 8) ∧ (∀ k : Nat, 19 ≤ k → k ≤ 19 → (0 : Int) ≤ (f136 k).toInt ∧ (f136 k).toInt ≤ 8) ∧ (∀ k : Nat, 20 ≤ k → k ≤ 20 → (0 : Int) ≤ (f136 k).toInt ∧ (f136 k).toInt ≤ 19)) := by rw [ef136]; exact ⟨ai_updO bf127.1 _ (Or.inr (ai_ngt_of zq160 (by decide) (by decide))), ai_updS bf127.2.1 _ ⟨h133_0, h133_1⟩, ai_updO bf127.2.2 _ (Or.inl (ai_nlt_of zq160 zq161 (by decide) (by decide)))⟩
            have kf136_19 : f136 19 = r133 := by rw [ef136]; exact ai_k1 (by decide +kernel)
            have kf136_20 : f136 20 = 0 := by rw [ef136]; exact ai_k2 (by decide +kernel) kf127_20
            have kf136_21 : f136 21 = x99 := by rw [ef136]; exact ai_k2 (by decide +kernel) kf127_21
            exact W.vret hx hb hr (fun t ht hW => ⟨⟨(), rfl, trivial, x3, x89, v63na0_28, f136, bf136, by rw [ht]; exact hP, va_K.moved hW.alike hK, hD⟩, hS.F ht⟩) hS.2.2 dX8_minuteOn_137
          · have gc119 := ai_nle c119
            have u119f_x107 : x107.toInt ≤ (19 : Int) := ai_lthi gc119 bx118.2
            have u119f_x105 : x105.toInt ≤ (18 : Int) := by have h1 := wx107; have h2 := u119f_x107; omega
            have l119f_x118 : (2 : Int) ≤ x118.toInt := ai_ltlo gc119 bx107.1
            exact W.vret hx hb hr (fun t ht hW => ⟨⟨(), rfl, trivial, x3, x89, v63na0_28, f108, ⟨bf108.1, bf108.2.1, ai_one (by rw [kf108_20]; exact ⟨(Int.le_trans zq4 bx107.1), u119f_x107⟩)⟩, by rw [ht]; exact hP, va_K.moved hW.alike hK, hD⟩, hS.F ht⟩) hS.2.2 dX8_minuteOn_122
    · have gc33 := ai_eq c33
      have u33f_x31 : x31.toInt ≤ (1 : Int) := Int.le_trans (Int.le_of_eq gc33) zq0
      have l33f_x31 : (1 : Int) ≤ x31.toInt := Int.le_trans zq1 (Int.le_of_eq gc33.symm)
      refine lv_aload_n hx hb dX8_minuteOn_36 rfl (lv_at hl 1 rfl) ?_
      refine lv_aload_n hx hb dX8_minuteOn_37 rfl (lv_at hl 2 rfl) ?_
      refine lv_iload_n hx hb dX8_minuteOn_38 rfl (lv_at hl 0 rfl) ?_
      have hKc := hK.sub (tys' := [(ka1, .int), (ka0_15, .int), (ka0_24, .int), (ka0_23, .int)]) [0, 1, 2, 3] rfl
      refine va_callv (va_runV (As := [.ref a1, .int x3]) (rest := []) ⟨hx, hb, hml, hown, hts⟩ (c_X8_walkOn l dC dI H.size a0 a1 x3 a0g_0 a0g_1 a0g_2 a0g_3 a0g_4 a0g_5 a0g_6 a0g_7 a0g_8 a0g_9 a0g_10 a0g_11 a0g_12 a0g_13 a0g_14 a0g_16 a0g_17 a0g_18 a0g_19 a0g_20 a0g_21 a0g_22 (Value.int a0_26) (Value.int a0_27) (Value.int 0) a0g_29 a0g_30 a0g_31 a0g_32 a0g_33 a0g_34 a0g_35 a0g_36 a0g_37 a0g_38 a0g_39 a0_15 a0_23 a0_24 a0_25 ka1 fa1 ka0_15 fa0_15 ka0_24 fa0_24 ka0_23 fa0_23 bx3.1 bx3.2 bfa1 bfa0_15 bfa0_24 bfa0_23 (fun i hi => hkm x3 x30 i bx3.1 bx3.2 (by omega) (by omega) (by rw [← ex31]; exact (ai_eq c33)))) (cwV 2 hts gX8_minuteOn_X8_walkOn rfl rfl rfl zd_X8_walkOn ⟨Nat.le_of_ble_eq_true rfl, Nat.le_of_ble_eq_true rfl⟩) ⟨ax_blind (fun _ _ _ _ _ => trivial), zr_8 hKc (zp_P5 hP) (q0 := 0) rfl, ax_pre (zp_P5 hP) hKc (zp_D5 hD) (fun _ _ => trivial)⟩ rfl rfl hl.1 rfl (lv_room (Nat.le_of_ble_eq_true rfl)) dX8_minuteOn_39 ⟨Nat.le_of_ble_eq_true rfl, Nat.le_of_ble_eq_true rfl⟩) hS (fun q _ h => zp_F5 hD hS hA q h) (zp_F5 hD hS hA) (fun u t H locs ht hvm hw => zx_1 (fun v39nfa1 => zy_1 (fun bv39nfa1 hB hz1 hk1 hS1 => zo5 hB ht hP hD hk1 (zp_F5 hD hS hA) hS1 (fun hP hK1 hD hS => ?_))))
      refine lv_goto (tgt := 66) hx hb dX8_minuteOn_42 (by decide) ?_
      refine lv_aload_n hx hb dX8_minuteOn_66 rfl (lv_at hl 1 rfl) ?_
      refine lv_iload_n hx hb dX8_minuteOn_67 rfl (lv_at hl 0 rfl) ?_
      refine va_put (D := (dC, dI)) (ci := 8) (v := .int x3) (ty := .int) (C := RX8) (T := TX8) (N := 40) hx hb hts zi_X8_minuteOn_8 tyX8 tyX8_ok nmX8 hown hK hP hD hS 0 rfl rfl 26 (by decide) (hts (.fieldLink RX8 258 "WaxTurnsModel" "lived" "I") (zm_X8_minuteOn_r1 (List.mem_of_getElem? (i := 2) rfl))) (fun _ h9 => h9) rfl (tyX8_ok 26 (by decide)) rfl rfl (Nat.le_of_ble_eq_true rfl) dX8_minuteOn_68 (fun H locs hP hD hS => ?_)
      refine zs_0 (y := (a0, .inr (8, [a0g_0, a0g_1, a0g_2, a0g_3, a0g_4, a0g_5, a0g_6, a0g_7, a0g_8, a0g_9, a0g_10, a0g_11, a0g_12, a0g_13, a0g_14, Value.ref a0_15, a0g_16, a0g_17, a0g_18, a0g_19, a0g_20, a0g_21, a0g_22, Value.ref a0_23, Value.ref a0_24, Value.int a0_25, Value.int x3, Value.int a0_27, Value.int 0, a0g_29, a0g_30, a0g_31, a0g_32, a0g_33, a0g_34, a0g_35, a0g_36, a0g_37, a0g_38, a0g_39]))) hP hD rfl (fun hP hD => ?_)
      refine lv_aload_n hx hb dX8_minuteOn_71 rfl (lv_at hl 1 rfl) ?_
      refine lv_aload_n hx hb dX8_minuteOn_72 rfl (lv_at hl 2 rfl) ?_
      refine lv_bipush (v := 18) hx hb dX8_minuteOn_73 zk_bipush_18 ?_
      refine va_iald hx hb hK hP 1 0 rfl rfl (by unfold vp_in; decide +kernel) dX8_minuteOn_75 ?_
      refine lv_topi (fun x75 ex75 => ?_)
      refine lv_iload_n hx hb dX8_minuteOn_76 rfl (lv_at hl 0 rfl) ?_
      refine va_calli (va_runS (As := [.int x75, .int x3]) (rest := [.ref a0]) ⟨hx, hb, hml, hown, hts⟩ (c_X8_hasBit l dC dI H.size x75 x3 ) (va_cwS 2 hts gX8_minuteOn_X8_hasBit rfl rfl rfl zd_X8_hasBit.2 ⟨Nat.le_of_ble_eq_true rfl, Nat.le_of_ble_eq_true rfl⟩) ⟨ax_blind (fun _ _ _ _ _ => trivial), ax_pre (zp_P0 hP) (zp_K hK) (zp_D0 hD) (fun _ _ => trivial)⟩ rfl rfl hl.1 rfl (lv_room (Nat.le_of_ble_eq_true rfl)) dX8_minuteOn_77 ⟨Nat.le_of_ble_eq_true rfl, Nat.le_of_ble_eq_true rfl⟩) hS (fun q _ h => zp_F0 hD hS hA q h) (zp_F0 hD hS hA) (fun r77 u t H locs ht hvm hw hB hz1 hk1 hS1 => zo0 hB ht hP hD hk1 (zp_F0 hD hS hA) hS1 (fun hP hK1 hD hS => ?_))
      rcases hw with hw | hw
      · subst hw
        refine lv_if_eq (tgt := 87) hx hb dX8_minuteOn_80 (by decide) (fun c80 => absurd c80 (by decide +kernel)) (fun _ => ?_)
        refine lv_iconst (v := (-1)) hx hb dX8_minuteOn_83 zk_iconst_n1 ?_
        refine lv_goto (tgt := 90) hx hb dX8_minuteOn_84 (by decide) ?_
        refine va_put (D := (dC, dI)) (ci := 8) (v := .int (-1)) (ty := .int) (C := RX8) (T := TX8) (N := 40) hx hb hts zi_X8_minuteOn_8 tyX8 tyX8_ok nmX8 hown hK hP hD hS 0 rfl rfl 27 (by decide) (hts (.fieldLink RX8 261 "WaxTurnsModel" "livedAt" "I") (zm_X8_minuteOn_r1 (List.mem_of_getElem? (i := 3) rfl))) (fun _ h9 => h9) rfl (tyX8_ok 27 (by decide)) rfl rfl (Nat.le_of_ble_eq_true rfl) dX8_minuteOn_90 (fun H locs hP hD hS => ?_)
        refine zs_0 (y := (a0, .inr (8, [a0g_0, a0g_1, a0g_2, a0g_3, a0g_4, a0g_5, a0g_6, a0g_7, a0g_8, a0g_9, a0g_10, a0g_11, a0g_12, a0g_13, a0g_14, Value.ref a0_15, a0g_16, a0g_17, a0g_18, a0g_19, a0g_20, a0g_21, a0g_22, Value.ref a0_23, Value.ref a0_24, Value.int a0_25, Value.int x3, Value.int (-1), Value.int 0, a0g_29, a0g_30, a0g_31, a0g_32, a0g_33, a0g_34, a0g_35, a0g_36, a0g_37, a0g_38, a0g_39]))) hP hD rfl (fun hP hD => ?_)
        refine lv_aload_n hx hb dX8_minuteOn_93 rfl (lv_at hl 2 rfl) ?_
        refine lv_bipush (v := 21) hx hb dX8_minuteOn_94 zk_bipush_21 ?_
        refine lv_dup2_11 hx hb dX8_minuteOn_96 rfl rfl ?_
        refine va_iald hx hb hK hP 1 0 rfl rfl (by unfold vp_in; decide +kernel) dX8_minuteOn_97 ?_
        refine lv_topi (fun x97 ex97 => ?_)
        refine lv_iconst (v := 1) hx hb dX8_minuteOn_98 zk_iconst_1 ?_
        refine lv_iadd hx hb dX8_minuteOn_99 ?_
        refine lv_topi (fun x99 ex99 => ?_)
        refine va_iast hx hb hK hP hD hS 1 0 rfl rfl (by unfold vp_in; decide +kernel) dX8_minuteOn_100 (fun H locs hP hD hS => ?_)
        obtain ⟨f100, ef100⟩ : ∃ g9 : Nat → Int32, g9 = upd v39nfa1 (21 : Int32).toNatClampNeg x99 := ⟨_, rfl⟩
        refine zs_1 (y := (a1, .inl (ka1, 23, .inl (f100)))) hP hD (by rw [ef100]) (fun hP hD => ?_)
        have bf100 : ((∀ k : Nat, 0 ≤ k → k ≤ 8 → (0 : Int) ≤ (f100 k).toInt ∧ (f100 k).toInt ≤ 8) ∧ (∀ k : Nat, 19 ≤ k → k ≤ 19 → (0 : Int) ≤ (f100 k).toInt ∧ (f100 k).toInt ≤ 8) ∧ (∀ k : Nat, 20 ≤ k → k ≤ 20 → (0 : Int) ≤ (f100 k).toInt ∧ (f100 k).toInt ≤ 19)) := by rw [ef100]; exact ⟨ai_updO bv39nfa1.1 _ (Or.inr (ai_ngt_of zq162 (by decide) (by decide))), ai_updO bv39nfa1.2.1 _ (Or.inr (ai_ngt_of zq162 (by decide) (by decide))), ai_updO bv39nfa1.2.2 _ (Or.inr (ai_ngt_of zq162 (by decide) (by decide)))⟩
        have kf100_21 : f100 21 = x99 := by rw [ef100]; exact ai_k1 (by decide +kernel)
        refine lv_aload_n hx hb dX8_minuteOn_101 rfl (lv_at hl 2 rfl) ?_
        refine lv_bipush (v := 20) hx hb dX8_minuteOn_102 zk_bipush_20 ?_
        refine lv_dup2_11 hx hb dX8_minuteOn_104 rfl rfl ?_
        refine va_iald hx hb hK hP 1 0 rfl rfl (by unfold vp_in; decide +kernel) dX8_minuteOn_105 ?_
        refine lv_topi (fun x105 ex105 => ?_)
        have bx105 : (0 : Int) ≤ x105.toInt ∧ x105.toInt ≤ 19 := by rw [ex105]; exact ai_rd bf100.2.2 zq153 zq154 (by decide) (by decide) (by decide)
        refine lv_iconst (v := 1) hx hb dX8_minuteOn_106 zk_iconst_1 ?_
        refine lv_iadd hx hb dX8_minuteOn_107 ?_
        refine lv_topi (fun x107 ex107 => ?_)
        have qx107 : x107.toInt = x105.toInt + (1 : Int32).toInt := ai_add ex107 ⟨bx105.1, bx105.2⟩ ⟨zq1, zq0⟩ (by decide) (by decide)
        have bx107 : (1 : Int) ≤ x107.toInt ∧ x107.toInt ≤ 20 := ⟨by rw [qx107]; exact Int.add_le_add bx105.1 zq1, by rw [qx107]; exact Int.add_le_add bx105.2 zq0⟩
        have wx107 : x107.toInt = x105.toInt + 1 := qx107
        refine va_iast hx hb hK hP hD hS 1 0 rfl rfl (by unfold vp_in; decide +kernel) dX8_minuteOn_108 (fun H locs hP hD hS => ?_)
        obtain ⟨f108, ef108⟩ : ∃ g9 : Nat → Int32, g9 = upd f100 (20 : Int32).toNatClampNeg x107 := ⟨_, rfl⟩
        refine zs_1 (y := (a1, .inl (ka1, 23, .inl (f108)))) hP hD (by rw [ef108]) (fun hP hD => ?_)
        have bf108 : ((∀ k : Nat, 0 ≤ k → k ≤ 8 → (0 : Int) ≤ (f108 k).toInt ∧ (f108 k).toInt ≤ 8) ∧ (∀ k : Nat, 19 ≤ k → k ≤ 19 → (0 : Int) ≤ (f108 k).toInt ∧ (f108 k).toInt ≤ 8) ∧ True) := by rw [ef108]; exact ⟨ai_updO bf100.1 _ (Or.inr (ai_ngt_of zq153 (by decide) (by decide))), ai_updO bf100.2.1 _ (Or.inr (ai_ngt_of zq153 (by decide) (by decide))), trivial⟩
        have kf108_20 : f108 20 = x107 := by rw [ef108]; exact ai_k1 (by decide +kernel)
        have kf108_21 : f108 21 = x99 := by rw [ef108]; exact ai_k2 (by decide +kernel) kf100_21
        refine lv_aload_n hx hb dX8_minuteOn_109 rfl (lv_at hl 2 rfl) ?_
        refine lv_bipush (v := 20) hx hb dX8_minuteOn_110 zk_bipush_20 ?_
        refine va_iald hx hb hK hP 1 0 rfl rfl (by unfold vp_in; decide +kernel) dX8_minuteOn_112 ?_
        refine ax_ti x107 ((congrArg f108 (by decide +kernel : (20 : Int32).toNatClampNeg = 20)).trans kf108_20) ?_
        refine lv_aload_n hx hb dX8_minuteOn_113 rfl (lv_at hl 1 rfl) ?_
        refine va_get (D := (dC, dI)) (ci := 8) (v := .ref a0_15) (C := RX8) (T := TX8) (N := 40) hx hb hts zi_X8_minuteOn_8 hown hK hP 0 rfl rfl 15 (by decide) (hts (.fieldLink RX8 20 "WaxTurnsModel" "\x72" "[I") (zm_X8_minuteOn_r1 (List.mem_of_getElem? (i := 1) rfl))) (fun _ h9 => h9) rfl dX8_minuteOn_114 ?_
        refine lv_iconst (v := 1) hx hb dX8_minuteOn_117 zk_iconst_1 ?_
        refine va_iald hx hb hK hP 2 1 rfl rfl (by unfold vp_in; decide +kernel) dX8_minuteOn_118 ?_
        refine lv_topi (fun x118 ex118 => ?_)
        have bx118 : (1 : Int) ≤ x118.toInt ∧ x118.toInt ≤ 20 := by rw [ex118]; exact ai_rd bfa0_15.2.1 zq1 zq0 (by decide) (by decide) (by decide)
        refine lv_icmp_ge (tgt := 123) hx hb dX8_minuteOn_119 (by decide) (fun c119 => ?_) (fun c119 => ?_)
        · have gc119 := ai_le c119
          have u119t_x118 : x118.toInt ≤ (20 : Int) := bx118.2
          have l119t_x107 : (1 : Int) ≤ x107.toInt := bx107.1
          refine lv_aload_n hx hb dX8_minuteOn_123 rfl (lv_at hl 2 rfl) ?_
          refine lv_bipush (v := 20) hx hb dX8_minuteOn_124 zk_bipush_20 ?_
          refine lv_iconst (v := 0) hx hb dX8_minuteOn_126 zk_iconst_0 ?_
          refine va_iast hx hb hK hP hD hS 1 0 rfl rfl (by unfold vp_in; decide +kernel) dX8_minuteOn_127 (fun H locs hP hD hS => ?_)
          obtain ⟨f127, ef127⟩ : ∃ g9 : Nat → Int32, g9 = upd f108 (20 : Int32).toNatClampNeg (0 : Int32) := ⟨_, rfl⟩
          refine zs_1 (y := (a1, .inl (ka1, 23, .inl (f127)))) hP hD (by rw [ef127]) (fun hP hD => ?_)
          have bf127 : ((∀ k : Nat, 0 ≤ k → k ≤ 8 → (0 : Int) ≤ (f127 k).toInt ∧ (f127 k).toInt ≤ 8) ∧ (∀ k : Nat, 19 ≤ k → k ≤ 19 → (0 : Int) ≤ (f127 k).toInt ∧ (f127 k).toInt ≤ 8) ∧ (∀ k : Nat, 20 ≤ k → k ≤ 20 → (0 : Int) ≤ (f127 k).toInt ∧ (f127 k).toInt ≤ 19)) := by rw [ef127]; exact ⟨ai_updO bf108.1 _ (Or.inr (ai_ngt_of zq153 (by decide) (by decide))), ai_updO bf108.2.1 _ (Or.inr (ai_ngt_of zq153 (by decide) (by decide))), ai_new (by decide +kernel) ⟨zq5, (Int.le_trans zq6 zq163)⟩⟩
          have kf127_20 : f127 20 = 0 := by rw [ef127]; exact ai_k1 (by decide +kernel)
          have kf127_21 : f127 21 = x99 := by rw [ef127]; exact ai_k2 (by decide +kernel) kf108_21
          refine lv_aload_n hx hb dX8_minuteOn_128 rfl (lv_at hl 2 rfl) ?_
          refine lv_bipush (v := 19) hx hb dX8_minuteOn_129 zk_bipush_19 ?_
          refine lv_aload_n hx hb dX8_minuteOn_131 rfl (lv_at hl 1 rfl) ?_
          refine lv_iload_n hx hb dX8_minuteOn_132 rfl (lv_at hl 0 rfl) ?_
          refine zc_cutc (wc := [(a0, .inr (8, [a0g_0, a0g_1, a0g_2, a0g_3, a0g_4, a0g_5, a0g_6, a0g_7, a0g_8, a0g_9, a0g_10, a0g_11, a0g_12, a0g_13, a0g_14, Value.ref a0_15, a0g_16, a0g_17, a0g_18, a0g_19, a0g_20, a0g_21, a0g_22, Value.ref a0_23, Value.ref a0_24, Value.int a0_25, Value.int x3, Value.int (-1), Value.int 0, a0g_29, a0g_30, a0g_31, a0g_32, a0g_33, a0g_34, a0g_35, a0g_36, a0g_37, a0g_38, a0g_39])), (a0_15, .inl (ka0_15, 156, .inl (fa0_15)))]) hP hD hS hA [0, 2] (by decide +kernel) rfl (fun hPc hDc hFc hCc => ?_)
          have hKc := hK.sub (tys' := [(ka0_15, .int)]) [1] rfl
          refine va_calli (va_runV (As := [.int x3]) (rest := [.int 19, .ref a1]) ⟨hx, hb, hml, hown, hts⟩ (c_X8_nextOf l dC dI H.size a0 x3 a0g_0 a0g_1 a0g_2 a0g_3 a0g_4 a0g_5 a0g_6 a0g_7 a0g_8 a0g_9 a0g_10 a0g_11 a0g_12 a0g_13 a0g_14 a0g_16 a0g_17 a0g_18 a0g_19 a0g_20 a0g_21 a0g_22 (Value.ref a0_23) (Value.ref a0_24) (Value.int a0_25) (Value.int x3) (Value.int (-1)) (Value.int 0) a0g_29 a0g_30 a0g_31 a0g_32 a0g_33 a0g_34 a0g_35 a0g_36 a0g_37 a0g_38 a0g_39 a0_15 ka0_15 fa0_15 bx3.1 bx3.2 bfa0_15) (cwV 1 hts gX8_minuteOn_X8_nextOf rfl rfl rfl zd_X8_nextOf ⟨Nat.le_of_ble_eq_true rfl, Nat.le_of_ble_eq_true rfl⟩) ⟨ax_blind (fun _ _ _ _ _ => trivial), zr_8 hKc hPc (q0 := 0) rfl, ax_pre hPc hKc hDc (fun _ _ => trivial)⟩ rfl rfl hl.1 rfl (lv_room (Nat.le_of_ble_eq_true rfl)) dX8_minuteOn_133 ⟨Nat.le_of_ble_eq_true rfl, Nat.le_of_ble_eq_true rfl⟩) hS (fun q _ h => hFc q h) hFc (fun r133 u t H locs ht hvm hw hB hz1 hk1 hS1 => zo hB ht hS1 (fun hP1 hK1 hD1 hS => ?_))
          refine zc_backc (w := [(a0, .inr (8, [a0g_0, a0g_1, a0g_2, a0g_3, a0g_4, a0g_5, a0g_6, a0g_7, a0g_8, a0g_9, a0g_10, a0g_11, a0g_12, a0g_13, a0g_14, Value.ref a0_15, a0g_16, a0g_17, a0g_18, a0g_19, a0g_20, a0g_21, a0g_22, Value.ref a0_23, Value.ref a0_24, Value.int a0_25, Value.int x3, Value.int (-1), Value.int 0, a0g_29, a0g_30, a0g_31, a0g_32, a0g_33, a0g_34, a0g_35, a0g_36, a0g_37, a0g_38, a0g_39])), (a1, .inl (ka1, 23, .inl (f127))), (a0_15, .inl (ka0_15, 156, .inl (fa0_15))), (a0_24, .inl (ka0_24, 3, .inl (fa0_24))), (a0_23, .inl (ka0_23, 3, .inl (fa0_23)))]) hP hD hCc hk1 hFc hP1 hD1 [.inr 0, .inl 1, .inr 1, .inl 3, .inl 4] (by decide +kernel) rfl (fun hP hD => ?_)
          have hw : (0 : Int) ≤ r133.toInt ∧ r133.toInt ≤ (8 : Int) := hw
          obtain ⟨h133_0, h133_1⟩ := hw
          refine va_iast hx hb hK hP hD hS 1 0 rfl rfl (by unfold vp_in; decide +kernel) dX8_minuteOn_136 (fun H locs hP hD hS => ?_)
          obtain ⟨f136, ef136⟩ : ∃ g9 : Nat → Int32, g9 = upd f127 (19 : Int32).toNatClampNeg r133 := ⟨_, rfl⟩
          refine zs_1 (y := (a1, .inl (ka1, 23, .inl (f136)))) hP hD (by rw [ef136]) (fun hP hD => ?_)
          have bf136 : ((∀ k : Nat, 0 ≤ k → k ≤ 8 → (0 : Int) ≤ (f136 k).toInt ∧ (f136 k).toInt ≤ 8) ∧ (∀ k : Nat, 19 ≤ k → k ≤ 19 → (0 : Int) ≤ (f136 k).toInt ∧ (f136 k).toInt ≤ 8) ∧ (∀ k : Nat, 20 ≤ k → k ≤ 20 → (0 : Int) ≤ (f136 k).toInt ∧ (f136 k).toInt ≤ 19)) := by rw [ef136]; exact ⟨ai_updO bf127.1 _ (Or.inr (ai_ngt_of zq160 (by decide) (by decide))), ai_updS bf127.2.1 _ ⟨h133_0, h133_1⟩, ai_updO bf127.2.2 _ (Or.inl (ai_nlt_of zq160 zq161 (by decide) (by decide)))⟩
          have kf136_19 : f136 19 = r133 := by rw [ef136]; exact ai_k1 (by decide +kernel)
          have kf136_20 : f136 20 = 0 := by rw [ef136]; exact ai_k2 (by decide +kernel) kf127_20
          have kf136_21 : f136 21 = x99 := by rw [ef136]; exact ai_k2 (by decide +kernel) kf127_21
          exact W.vret hx hb hr (fun t ht hW => ⟨⟨(), rfl, trivial, x3, (-1), 0, f136, bf136, by rw [ht]; exact hP, va_K.moved hW.alike hK, hD⟩, hS.F ht⟩) hS.2.2 dX8_minuteOn_137
        · have gc119 := ai_nle c119
          have u119f_x107 : x107.toInt ≤ (19 : Int) := ai_lthi gc119 bx118.2
          have u119f_x105 : x105.toInt ≤ (18 : Int) := by have h1 := wx107; have h2 := u119f_x107; omega
          have l119f_x118 : (2 : Int) ≤ x118.toInt := ai_ltlo gc119 bx107.1
          exact W.vret hx hb hr (fun t ht hW => ⟨⟨(), rfl, trivial, x3, (-1), 0, f108, ⟨bf108.1, bf108.2.1, ai_one (by rw [kf108_20]; exact ⟨(Int.le_trans zq4 bx107.1), u119f_x107⟩)⟩, by rw [ht]; exact hP, va_K.moved hW.alike hK, hD⟩, hS.F ht⟩) hS.2.2 dX8_minuteOn_122
      · subst hw
        refine lv_if_eq (tgt := 87) hx hb dX8_minuteOn_80 (by decide) (fun _ => ?_) (fun c80 => absurd (by decide +kernel) c80)
        refine lv_aload_n hx hb dX8_minuteOn_87 rfl (lv_at hl 2 rfl) ?_
        refine lv_iload_n hx hb dX8_minuteOn_88 rfl (lv_at hl 0 rfl) ?_
        refine va_iald hx hb hK hP 1 0 rfl rfl (ai_in bx3.1 bx3.2 (by decide) (by decide)) dX8_minuteOn_89 ?_
        refine lv_topi (fun x89 ex89 => ?_)
        have bx89 : (0 : Int) ≤ x89.toInt ∧ x89.toInt ≤ 8 := by rw [ex89]; exact ai_rd bv39nfa1.1 bx3.1 bx3.2 (by decide) (by decide) (by decide)
        refine va_put (D := (dC, dI)) (ci := 8) (v := .int x89) (ty := .int) (C := RX8) (T := TX8) (N := 40) hx hb hts zi_X8_minuteOn_8 tyX8 tyX8_ok nmX8 hown hK hP hD hS 0 rfl rfl 27 (by decide) (hts (.fieldLink RX8 261 "WaxTurnsModel" "livedAt" "I") (zm_X8_minuteOn_r1 (List.mem_of_getElem? (i := 3) rfl))) (fun _ h9 => h9) rfl (tyX8_ok 27 (by decide)) rfl rfl (Nat.le_of_ble_eq_true rfl) dX8_minuteOn_90 (fun H locs hP hD hS => ?_)
        refine zs_0 (y := (a0, .inr (8, [a0g_0, a0g_1, a0g_2, a0g_3, a0g_4, a0g_5, a0g_6, a0g_7, a0g_8, a0g_9, a0g_10, a0g_11, a0g_12, a0g_13, a0g_14, Value.ref a0_15, a0g_16, a0g_17, a0g_18, a0g_19, a0g_20, a0g_21, a0g_22, Value.ref a0_23, Value.ref a0_24, Value.int a0_25, Value.int x3, Value.int x89, Value.int 0, a0g_29, a0g_30, a0g_31, a0g_32, a0g_33, a0g_34, a0g_35, a0g_36, a0g_37, a0g_38, a0g_39]))) hP hD rfl (fun hP hD => ?_)
        refine lv_aload_n hx hb dX8_minuteOn_93 rfl (lv_at hl 2 rfl) ?_
        refine lv_bipush (v := 21) hx hb dX8_minuteOn_94 zk_bipush_21 ?_
        refine lv_dup2_11 hx hb dX8_minuteOn_96 rfl rfl ?_
        refine va_iald hx hb hK hP 1 0 rfl rfl (by unfold vp_in; decide +kernel) dX8_minuteOn_97 ?_
        refine lv_topi (fun x97 ex97 => ?_)
        refine lv_iconst (v := 1) hx hb dX8_minuteOn_98 zk_iconst_1 ?_
        refine lv_iadd hx hb dX8_minuteOn_99 ?_
        refine lv_topi (fun x99 ex99 => ?_)
        refine va_iast hx hb hK hP hD hS 1 0 rfl rfl (by unfold vp_in; decide +kernel) dX8_minuteOn_100 (fun H locs hP hD hS => ?_)
        obtain ⟨f100, ef100⟩ : ∃ g9 : Nat → Int32, g9 = upd v39nfa1 (21 : Int32).toNatClampNeg x99 := ⟨_, rfl⟩
        refine zs_1 (y := (a1, .inl (ka1, 23, .inl (f100)))) hP hD (by rw [ef100]) (fun hP hD => ?_)
        have bf100 : ((∀ k : Nat, 0 ≤ k → k ≤ 8 → (0 : Int) ≤ (f100 k).toInt ∧ (f100 k).toInt ≤ 8) ∧ (∀ k : Nat, 19 ≤ k → k ≤ 19 → (0 : Int) ≤ (f100 k).toInt ∧ (f100 k).toInt ≤ 8) ∧ (∀ k : Nat, 20 ≤ k → k ≤ 20 → (0 : Int) ≤ (f100 k).toInt ∧ (f100 k).toInt ≤ 19)) := by rw [ef100]; exact ⟨ai_updO bv39nfa1.1 _ (Or.inr (ai_ngt_of zq162 (by decide) (by decide))), ai_updO bv39nfa1.2.1 _ (Or.inr (ai_ngt_of zq162 (by decide) (by decide))), ai_updO bv39nfa1.2.2 _ (Or.inr (ai_ngt_of zq162 (by decide) (by decide)))⟩
        have kf100_21 : f100 21 = x99 := by rw [ef100]; exact ai_k1 (by decide +kernel)
        refine lv_aload_n hx hb dX8_minuteOn_101 rfl (lv_at hl 2 rfl) ?_
        refine lv_bipush (v := 20) hx hb dX8_minuteOn_102 zk_bipush_20 ?_
        refine lv_dup2_11 hx hb dX8_minuteOn_104 rfl rfl ?_
        refine va_iald hx hb hK hP 1 0 rfl rfl (by unfold vp_in; decide +kernel) dX8_minuteOn_105 ?_
        refine lv_topi (fun x105 ex105 => ?_)
        have bx105 : (0 : Int) ≤ x105.toInt ∧ x105.toInt ≤ 19 := by rw [ex105]; exact ai_rd bf100.2.2 zq153 zq154 (by decide) (by decide) (by decide)
        refine lv_iconst (v := 1) hx hb dX8_minuteOn_106 zk_iconst_1 ?_
        refine lv_iadd hx hb dX8_minuteOn_107 ?_
        refine lv_topi (fun x107 ex107 => ?_)
        have qx107 : x107.toInt = x105.toInt + (1 : Int32).toInt := ai_add ex107 ⟨bx105.1, bx105.2⟩ ⟨zq1, zq0⟩ (by decide) (by decide)
        have bx107 : (1 : Int) ≤ x107.toInt ∧ x107.toInt ≤ 20 := ⟨by rw [qx107]; exact Int.add_le_add bx105.1 zq1, by rw [qx107]; exact Int.add_le_add bx105.2 zq0⟩
        have wx107 : x107.toInt = x105.toInt + 1 := qx107
        refine va_iast hx hb hK hP hD hS 1 0 rfl rfl (by unfold vp_in; decide +kernel) dX8_minuteOn_108 (fun H locs hP hD hS => ?_)
        obtain ⟨f108, ef108⟩ : ∃ g9 : Nat → Int32, g9 = upd f100 (20 : Int32).toNatClampNeg x107 := ⟨_, rfl⟩
        refine zs_1 (y := (a1, .inl (ka1, 23, .inl (f108)))) hP hD (by rw [ef108]) (fun hP hD => ?_)
        have bf108 : ((∀ k : Nat, 0 ≤ k → k ≤ 8 → (0 : Int) ≤ (f108 k).toInt ∧ (f108 k).toInt ≤ 8) ∧ (∀ k : Nat, 19 ≤ k → k ≤ 19 → (0 : Int) ≤ (f108 k).toInt ∧ (f108 k).toInt ≤ 8) ∧ True) := by rw [ef108]; exact ⟨ai_updO bf100.1 _ (Or.inr (ai_ngt_of zq153 (by decide) (by decide))), ai_updO bf100.2.1 _ (Or.inr (ai_ngt_of zq153 (by decide) (by decide))), trivial⟩
        have kf108_20 : f108 20 = x107 := by rw [ef108]; exact ai_k1 (by decide +kernel)
        have kf108_21 : f108 21 = x99 := by rw [ef108]; exact ai_k2 (by decide +kernel) kf100_21
        refine lv_aload_n hx hb dX8_minuteOn_109 rfl (lv_at hl 2 rfl) ?_
        refine lv_bipush (v := 20) hx hb dX8_minuteOn_110 zk_bipush_20 ?_
        refine va_iald hx hb hK hP 1 0 rfl rfl (by unfold vp_in; decide +kernel) dX8_minuteOn_112 ?_
        refine ax_ti x107 ((congrArg f108 (by decide +kernel : (20 : Int32).toNatClampNeg = 20)).trans kf108_20) ?_
        refine lv_aload_n hx hb dX8_minuteOn_113 rfl (lv_at hl 1 rfl) ?_
        refine va_get (D := (dC, dI)) (ci := 8) (v := .ref a0_15) (C := RX8) (T := TX8) (N := 40) hx hb hts zi_X8_minuteOn_8 hown hK hP 0 rfl rfl 15 (by decide) (hts (.fieldLink RX8 20 "WaxTurnsModel" "\x72" "[I") (zm_X8_minuteOn_r1 (List.mem_of_getElem? (i := 1) rfl))) (fun _ h9 => h9) rfl dX8_minuteOn_114 ?_
        refine lv_iconst (v := 1) hx hb dX8_minuteOn_117 zk_iconst_1 ?_
        refine va_iald hx hb hK hP 2 1 rfl rfl (by unfold vp_in; decide +kernel) dX8_minuteOn_118 ?_
        refine lv_topi (fun x118 ex118 => ?_)
        have bx118 : (1 : Int) ≤ x118.toInt ∧ x118.toInt ≤ 20 := by rw [ex118]; exact ai_rd bfa0_15.2.1 zq1 zq0 (by decide) (by decide) (by decide)
        refine lv_icmp_ge (tgt := 123) hx hb dX8_minuteOn_119 (by decide) (fun c119 => ?_) (fun c119 => ?_)
        · have gc119 := ai_le c119
          have u119t_x118 : x118.toInt ≤ (20 : Int) := bx118.2
          have l119t_x107 : (1 : Int) ≤ x107.toInt := bx107.1
          refine lv_aload_n hx hb dX8_minuteOn_123 rfl (lv_at hl 2 rfl) ?_
          refine lv_bipush (v := 20) hx hb dX8_minuteOn_124 zk_bipush_20 ?_
          refine lv_iconst (v := 0) hx hb dX8_minuteOn_126 zk_iconst_0 ?_
          refine va_iast hx hb hK hP hD hS 1 0 rfl rfl (by unfold vp_in; decide +kernel) dX8_minuteOn_127 (fun H locs hP hD hS => ?_)
          obtain ⟨f127, ef127⟩ : ∃ g9 : Nat → Int32, g9 = upd f108 (20 : Int32).toNatClampNeg (0 : Int32) := ⟨_, rfl⟩
          refine zs_1 (y := (a1, .inl (ka1, 23, .inl (f127)))) hP hD (by rw [ef127]) (fun hP hD => ?_)
          have bf127 : ((∀ k : Nat, 0 ≤ k → k ≤ 8 → (0 : Int) ≤ (f127 k).toInt ∧ (f127 k).toInt ≤ 8) ∧ (∀ k : Nat, 19 ≤ k → k ≤ 19 → (0 : Int) ≤ (f127 k).toInt ∧ (f127 k).toInt ≤ 8) ∧ (∀ k : Nat, 20 ≤ k → k ≤ 20 → (0 : Int) ≤ (f127 k).toInt ∧ (f127 k).toInt ≤ 19)) := by rw [ef127]; exact ⟨ai_updO bf108.1 _ (Or.inr (ai_ngt_of zq153 (by decide) (by decide))), ai_updO bf108.2.1 _ (Or.inr (ai_ngt_of zq153 (by decide) (by decide))), ai_new (by decide +kernel) ⟨zq5, (Int.le_trans zq6 zq163)⟩⟩
          have kf127_20 : f127 20 = 0 := by rw [ef127]; exact ai_k1 (by decide +kernel)
          have kf127_21 : f127 21 = x99 := by rw [ef127]; exact ai_k2 (by decide +kernel) kf108_21
          refine lv_aload_n hx hb dX8_minuteOn_128 rfl (lv_at hl 2 rfl) ?_
          refine lv_bipush (v := 19) hx hb dX8_minuteOn_129 zk_bipush_19 ?_
          refine lv_aload_n hx hb dX8_minuteOn_131 rfl (lv_at hl 1 rfl) ?_
          refine lv_iload_n hx hb dX8_minuteOn_132 rfl (lv_at hl 0 rfl) ?_
          refine zc_cutc (wc := [(a0, .inr (8, [a0g_0, a0g_1, a0g_2, a0g_3, a0g_4, a0g_5, a0g_6, a0g_7, a0g_8, a0g_9, a0g_10, a0g_11, a0g_12, a0g_13, a0g_14, Value.ref a0_15, a0g_16, a0g_17, a0g_18, a0g_19, a0g_20, a0g_21, a0g_22, Value.ref a0_23, Value.ref a0_24, Value.int a0_25, Value.int x3, Value.int x89, Value.int 0, a0g_29, a0g_30, a0g_31, a0g_32, a0g_33, a0g_34, a0g_35, a0g_36, a0g_37, a0g_38, a0g_39])), (a0_15, .inl (ka0_15, 156, .inl (fa0_15)))]) hP hD hS hA [0, 2] (by decide +kernel) rfl (fun hPc hDc hFc hCc => ?_)
          have hKc := hK.sub (tys' := [(ka0_15, .int)]) [1] rfl
          refine va_calli (va_runV (As := [.int x3]) (rest := [.int 19, .ref a1]) ⟨hx, hb, hml, hown, hts⟩ (c_X8_nextOf l dC dI H.size a0 x3 a0g_0 a0g_1 a0g_2 a0g_3 a0g_4 a0g_5 a0g_6 a0g_7 a0g_8 a0g_9 a0g_10 a0g_11 a0g_12 a0g_13 a0g_14 a0g_16 a0g_17 a0g_18 a0g_19 a0g_20 a0g_21 a0g_22 (Value.ref a0_23) (Value.ref a0_24) (Value.int a0_25) (Value.int x3) (Value.int x89) (Value.int 0) a0g_29 a0g_30 a0g_31 a0g_32 a0g_33 a0g_34 a0g_35 a0g_36 a0g_37 a0g_38 a0g_39 a0_15 ka0_15 fa0_15 bx3.1 bx3.2 bfa0_15) (cwV 1 hts gX8_minuteOn_X8_nextOf rfl rfl rfl zd_X8_nextOf ⟨Nat.le_of_ble_eq_true rfl, Nat.le_of_ble_eq_true rfl⟩) ⟨ax_blind (fun _ _ _ _ _ => trivial), zr_8 hKc hPc (q0 := 0) rfl, ax_pre hPc hKc hDc (fun _ _ => trivial)⟩ rfl rfl hl.1 rfl (lv_room (Nat.le_of_ble_eq_true rfl)) dX8_minuteOn_133 ⟨Nat.le_of_ble_eq_true rfl, Nat.le_of_ble_eq_true rfl⟩) hS (fun q _ h => hFc q h) hFc (fun r133 u t H locs ht hvm hw hB hz1 hk1 hS1 => zo hB ht hS1 (fun hP1 hK1 hD1 hS => ?_))
          refine zc_backc (w := [(a0, .inr (8, [a0g_0, a0g_1, a0g_2, a0g_3, a0g_4, a0g_5, a0g_6, a0g_7, a0g_8, a0g_9, a0g_10, a0g_11, a0g_12, a0g_13, a0g_14, Value.ref a0_15, a0g_16, a0g_17, a0g_18, a0g_19, a0g_20, a0g_21, a0g_22, Value.ref a0_23, Value.ref a0_24, Value.int a0_25, Value.int x3, Value.int x89, Value.int 0, a0g_29, a0g_30, a0g_31, a0g_32, a0g_33, a0g_34, a0g_35, a0g_36, a0g_37, a0g_38, a0g_39])), (a1, .inl (ka1, 23, .inl (f127))), (a0_15, .inl (ka0_15, 156, .inl (fa0_15))), (a0_24, .inl (ka0_24, 3, .inl (fa0_24))), (a0_23, .inl (ka0_23, 3, .inl (fa0_23)))]) hP hD hCc hk1 hFc hP1 hD1 [.inr 0, .inl 1, .inr 1, .inl 3, .inl 4] (by decide +kernel) rfl (fun hP hD => ?_)
          have hw : (0 : Int) ≤ r133.toInt ∧ r133.toInt ≤ (8 : Int) := hw
          obtain ⟨h133_0, h133_1⟩ := hw
          refine va_iast hx hb hK hP hD hS 1 0 rfl rfl (by unfold vp_in; decide +kernel) dX8_minuteOn_136 (fun H locs hP hD hS => ?_)
          obtain ⟨f136, ef136⟩ : ∃ g9 : Nat → Int32, g9 = upd f127 (19 : Int32).toNatClampNeg r133 := ⟨_, rfl⟩
          refine zs_1 (y := (a1, .inl (ka1, 23, .inl (f136)))) hP hD (by rw [ef136]) (fun hP hD => ?_)
          have bf136 : ((∀ k : Nat, 0 ≤ k → k ≤ 8 → (0 : Int) ≤ (f136 k).toInt ∧ (f136 k).toInt ≤ 8) ∧ (∀ k : Nat, 19 ≤ k → k ≤ 19 → (0 : Int) ≤ (f136 k).toInt ∧ (f136 k).toInt ≤ 8) ∧ (∀ k : Nat, 20 ≤ k → k ≤ 20 → (0 : Int) ≤ (f136 k).toInt ∧ (f136 k).toInt ≤ 19)) := by rw [ef136]; exact ⟨ai_updO bf127.1 _ (Or.inr (ai_ngt_of zq160 (by decide) (by decide))), ai_updS bf127.2.1 _ ⟨h133_0, h133_1⟩, ai_updO bf127.2.2 _ (Or.inl (ai_nlt_of zq160 zq161 (by decide) (by decide)))⟩
          have kf136_19 : f136 19 = r133 := by rw [ef136]; exact ai_k1 (by decide +kernel)
          have kf136_20 : f136 20 = 0 := by rw [ef136]; exact ai_k2 (by decide +kernel) kf127_20
          have kf136_21 : f136 21 = x99 := by rw [ef136]; exact ai_k2 (by decide +kernel) kf127_21
          exact W.vret hx hb hr (fun t ht hW => ⟨⟨(), rfl, trivial, x3, x89, 0, f136, bf136, by rw [ht]; exact hP, va_K.moved hW.alike hK, hD⟩, hS.F ht⟩) hS.2.2 dX8_minuteOn_137
        · have gc119 := ai_nle c119
          have u119f_x107 : x107.toInt ≤ (19 : Int) := ai_lthi gc119 bx118.2
          have u119f_x105 : x105.toInt ≤ (18 : Int) := by have h1 := wx107; have h2 := u119f_x107; omega
          have l119f_x118 : (2 : Int) ≤ x118.toInt := ai_ltlo gc119 bx107.1
          exact W.vret hx hb hr (fun t ht hW => ⟨⟨(), rfl, trivial, x3, x89, 0, f108, ⟨bf108.1, bf108.2.1, ai_one (by rw [kf108_20]; exact ⟨(Int.le_trans zq4 bx107.1), u119f_x107⟩)⟩, by rw [ht]; exact hP, va_K.moved hW.alike hK, hD⟩, hS.F ht⟩) hS.2.2 dX8_minuteOn_122
end P132_safe
section P200_good
set_option maxRecDepth 20000 in
theorem gX3_read_X0_clear : GoodIn wsX3_read (wsV RX3 39 RX0 yX0_clear wsX0_clear) := goodIn_s _ [(14, 13), (202, 19)] rfl (by decide +kernel)
set_option maxRecDepth 20000 in
theorem gX3_read_X3_advance : GoodIn wsX3_read (wsV RX3 54 RX3 yX3_advance wsX3_advance) := goodIn_s _ [(27, 5), (11, 1), (6, 1), (32, 2), (12, 1), (34, 3), (30, 1), (37, 7), (188, 14)] rfl (by decide +kernel)
set_option maxRecDepth 20000 in
theorem gX3_read_X3_readLine : GoodIn wsX3_read (wsV RX3 57 RX3 yX3_readLine wsX3_readLine) := goodIn_s _ [(44, 3), (30, 1), (47, 1), (7, 1), (48, 1), (13, 1), (49, 7), (30, 1), (56, 1), (12, 1), (38, 1), (57, 53), (9, 1), (33, 1), (10, 1), (110, 8), (27, 3), (31, 1), (11, 1), (6, 1), (32, 1), (34, 4), (39, 5), (118, 33), (8, 1), (151, 10), (17, 1), (161, 1), (21, 1), (25, 2), (162, 20), (22, 1), (182, 39)] rfl (by decide +kernel)
set_option maxRecDepth 20000 in
theorem gX3_read_X3_fails : GoodIn wsX3_read (wsV RX3 64 RX3 yX3_fails wsX3_fails) := goodIn_s _ [(106, 3), (30, 1), (109, 1), (9, 1), (33, 1), (10, 1), (188, 14)] rfl (by decide +kernel)
set_option maxRecDepth 20000 in
theorem gX3_isWord_J0_length_8abf5 : GoodIn wsX3_isWord (wsV RX3 88 RJ0 yJ0_length_8abf5 wsJ0_length_8abf5) := goodIn_s _ [(3, 9), (6, 1), (12, 3)] rfl (by decide +kernel)
set_option maxRecDepth 20000 in
theorem gX3_isWord_J0_charAt_5068e : GoodIn wsX3_isWord (wsV RX3 94 RJ0 yJ0_charAt_5068e wsJ0_charAt_5068e) := goodIn_s _ [(15, 3), (6, 1), (18, 1), (8, 1), (19, 3), (6, 1), (22, 1), (13, 2), (23, 29)] rfl (by decide +kernel)
set_option maxRecDepth 20000 in
theorem gX3_readLine_X3_isWord : GoodIn wsX3_readLine (wsV RX3 100 RX3 yX3_isWord wsX3_isWord) := goodIn_s _ [(8, 56), (171, 14)] rfl (by decide +kernel)
set_option maxRecDepth 20000 in
theorem gX3_readLine_X3_fails : GoodIn wsX3_readLine (wsV RX3 64 RX3 yX3_fails wsX3_fails) := goodIn_s _ [(64, 3), (11, 1), (67, 4), (171, 14)] rfl (by decide +kernel)
set_option maxRecDepth 20000 in
theorem gX3_readLine_X3_readHall : GoodIn wsX3_readLine (wsV RX3 107 RX3 yX3_readHall wsX3_readHall) := goodIn_s _ [(71, 3), (11, 1), (74, 2), (1, 1), (76, 3), (2, 1), (79, 3), (11, 1), (82, 4), (69, 1), (13, 1), (86, 4), (14, 1), (90, 9), (8, 3), (12, 1), (15, 54), (70, 1), (99, 7), (171, 29)] rfl (by decide +kernel)
set_option maxRecDepth 20000 in
theorem gX3_readLine_X3_readLaw : GoodIn wsX3_readLine (wsV RX3 118 RX3 yX3_readLaw wsX3_readLaw) := goodIn_s _ [(106, 3), (11, 1), (109, 1), (1, 2), (75, 1), (110, 3), (3, 1), (79, 3), (11, 1), (82, 4), (69, 1), (13, 1), (86, 4), (14, 1), (90, 9), (8, 3), (12, 1), (15, 54), (70, 1), (99, 7), (171, 29)] rfl (by decide +kernel)
set_option maxRecDepth 20000 in
theorem gX3_readLine_J6_bitCount_0f7a4 : GoodIn wsX3_readLine (va_wsS RX3 124 yJ6_bitCount_0f7a4 wsJ6_bitCount_0f7a4) := goodIn_s _ [(113, 7)] rfl (by decide +kernel)
set_option maxRecDepth 20000 in
theorem gX3_readLine_X3_readFigure : GoodIn wsX3_readLine (wsV RX3 130 RX3 yX3_readFigure wsX3_readFigure) := goodIn_s _ [(120, 3), (11, 1), (123, 1), (1, 2), (94, 1), (4, 1), (75, 1), (79, 3), (11, 1), (82, 4), (69, 1), (13, 1), (86, 4), (14, 1), (90, 4), (124, 6), (8, 3), (12, 1), (15, 54), (70, 1), (130, 4), (99, 7), (134, 2), (95, 4), (136, 8), (171, 29)] rfl (by decide +kernel)
set_option maxRecDepth 20000 in
theorem gX3_readLine_X3_readWatcher : GoodIn wsX3_readLine (wsV RX3 142 RX3 yX3_readWatcher wsX3_readWatcher) := goodIn_s _ [(144, 3), (11, 1), (147, 1), (1, 2), (75, 1), (5, 1), (79, 3), (11, 1), (82, 4), (69, 1), (13, 1), (86, 4), (14, 1), (90, 5), (124, 6), (8, 3), (12, 1), (15, 54), (70, 1), (95, 11), (148, 8), (171, 33)] rfl (by decide +kernel)
set_option maxRecDepth 20000 in
theorem gX3_readLine_X3_readSeen : GoodIn wsX3_readLine (wsV RX3 148 RX3 yX3_readSeen wsX3_readSeen) := goodIn_s _ [(156, 3), (11, 1), (159, 1), (1, 2), (75, 1), (94, 4), (11, 1), (98, 1), (8, 3), (12, 59), (79, 15), (99, 7), (130, 4), (160, 3), (139, 1), (163, 37)] rfl (by decide +kernel)
set_option maxRecDepth 20000 in
theorem gX3_readHall_X3_advance : GoodIn wsX3_readHall (wsV RX3 54 RX3 yX3_advance wsX3_advance) := goodIn_s _ [(7, 13), (10, 1), (20, 7), (97, 14)] rfl (by decide +kernel)
set_option maxRecDepth 20000 in
theorem gX3_readHall_X3_takeWhole : GoodIn wsX3_readHall (wsV RX3 152 RX3 yX3_takeWhole wsX3_takeWhole) := goodIn_s _ [(27, 3), (10, 1), (30, 1), (26, 1), (1, 1), (31, 3), (10, 1), (34, 1), (16, 1), (21, 1), (35, 54), (15, 1), (89, 1), (7, 3), (11, 4), (17, 4), (22, 4), (90, 21)] rfl (by decide +kernel)
set_option maxRecDepth 20000 in
theorem gX3_readLaw_X3_advance : GoodIn wsX3_readLaw (wsV RX3 54 RX3 yX3_advance wsX3_advance) := goodIn_s _ [(8, 13), (11, 1), (21, 7), (98, 14)] rfl (by decide +kernel)
set_option maxRecDepth 20000 in
theorem gX3_readLaw_X3_takeWhole : GoodIn wsX3_readLaw (wsV RX3 152 RX3 yX3_takeWhole wsX3_takeWhole) := goodIn_s _ [(28, 3), (11, 1), (31, 1), (27, 1), (3, 1), (32, 3), (11, 1), (35, 1), (17, 1), (22, 1), (36, 54), (16, 1), (90, 1), (8, 3), (12, 4), (18, 4), (23, 4), (91, 21)] rfl (by decide +kernel)
set_option maxRecDepth 20000 in
theorem gX3_readFigure_X3_advance : GoodIn wsX3_readFigure (wsV RX3 54 RX3 yX3_advance wsX3_advance) := goodIn_s _ [(6, 13), (9, 1), (19, 6), (3, 1), (115, 14)] rfl (by decide +kernel)
set_option maxRecDepth 20000 in
theorem gX3_readFigure_X3_takeName : GoodIn wsX3_readFigure (wsV RX3 184 RX3 yX3_takeName wsX3_takeName) := goodIn_s _ [(25, 3), (9, 1), (28, 1), (15, 1), (29, 2), (20, 1), (31, 3), (9, 1), (34, 55), (14, 1), (89, 1), (6, 3), (10, 4), (16, 4), (21, 4), (3, 1), (115, 14)] rfl (by decide +kernel)
set_option maxRecDepth 20000 in
theorem gX3_readFigure_X3_takeWord : GoodIn wsX3_readFigure (wsV RX3 189 RX3 yX3_takeWord wsX3_takeWord) := goodIn_s _ [(90, 3), (9, 1), (93, 1), (31, 3), (9, 1), (34, 1), (15, 1), (20, 1), (35, 54), (14, 1), (89, 1), (6, 3), (10, 4), (16, 4), (21, 4), (3, 1), (115, 14)] rfl (by decide +kernel)
set_option maxRecDepth 20000 in
theorem gX3_readFigure_X3_isWholeWithin : GoodIn wsX3_readFigure (wsV RX3 192 RX3 yX3_isWholeWithin wsX3_isWholeWithin) := goodIn_s _ [(94, 3), (9, 1), (97, 1), (15, 1), (3, 1), (84, 3), (9, 1), (87, 2), (14, 1), (89, 1), (98, 3), (115, 14)] rfl (by decide +kernel)
set_option maxRecDepth 20000 in
theorem gX3_readFigure_X7_hasBit_n196 : GoodIn wsX3_readFigure (wsX7_hasBit) := goodIn_s _ [(102, 1)] rfl (by decide +kernel)
set_option maxRecDepth 20000 in
theorem gX3_readFigure_X3_fails : GoodIn wsX3_readFigure (wsV RX3 64 RX3 yX3_fails wsX3_fails) := goodIn_s _ [(84, 3), (9, 1), (87, 2), (14, 1), (89, 1), (115, 14)] rfl (by decide +kernel)
set_option maxRecDepth 20000 in
theorem gX3_readFigure_X3_isWord : GoodIn wsX3_readFigure (wsV RX3 100 RX3 yX3_isWord wsX3_isWord) := goodIn_s _ [(31, 3), (9, 1), (34, 1), (15, 1), (20, 1), (35, 49), (115, 14)] rfl (by decide +kernel)
set_option maxRecDepth 20000 in
theorem gX3_readFigure_X3_takeWhole : GoodIn wsX3_readFigure (wsV RX3 152 RX3 yX3_takeWhole wsX3_takeWhole) := goodIn_s _ [(103, 3), (9, 1), (106, 1), (3, 1), (5, 1), (31, 3), (9, 1), (34, 1), (15, 1), (20, 1), (35, 54), (14, 1), (89, 1), (6, 3), (10, 4), (16, 4), (21, 4), (94, 7), (115, 14)] rfl (by decide +kernel)
set_option maxRecDepth 20000 in
theorem gX3_readFigure_X0_addFigure : GoodIn wsX3_readFigure (wsV RX3 203 RX0 yX0_addFigure wsX0_addFigure) := goodIn_s _ [(107, 8), (129, 15)] rfl (by decide +kernel)
set_option maxRecDepth 20000 in
theorem gX3_readWatcher_X3_advance : GoodIn wsX3_readWatcher (wsV RX3 54 RX3 yX3_advance wsX3_advance) := goodIn_s _ [(5, 13), (8, 1), (18, 7), (109, 14)] rfl (by decide +kernel)
set_option maxRecDepth 20000 in
theorem gX3_readWatcher_X3_takeName : GoodIn wsX3_readWatcher (wsV RX3 184 RX3 yX3_takeName wsX3_takeName) := goodIn_s _ [(25, 3), (8, 1), (28, 1), (14, 1), (29, 2), (19, 1), (31, 3), (8, 1), (34, 55), (13, 1), (89, 1), (5, 3), (9, 4), (15, 4), (20, 5), (109, 14)] rfl (by decide +kernel)
set_option maxRecDepth 20000 in
theorem gX3_readWatcher_X3_takeWhole : GoodIn wsX3_readWatcher (wsV RX3 152 RX3 yX3_takeWhole wsX3_takeWhole) := goodIn_s _ [(90, 3), (8, 1), (93, 1), (24, 1), (3, 1), (31, 3), (8, 1), (34, 1), (14, 1), (19, 1), (35, 54), (13, 1), (89, 1), (5, 3), (9, 4), (15, 4), (20, 4), (94, 7), (109, 14)] rfl (by decide +kernel)
theorem mnX3_read : (Cond.code Lib.Math.min.name Lib.Math.min.code 2 (some .int)) ∈ wsX3_read := List.mem_of_getElem? (i := 5) rfl
end P200_good
section P200_good_1
set_option maxRecDepth 20000 in
theorem gX3_readWatcher_X6_add : GoodIn wsX3_readWatcher (wsV RX3 211 RX6 yX6_add wsX6_add) := goodIn_s _ [(101, 8), (138, 4)] rfl (by decide +kernel)
set_option maxRecDepth 20000 in
theorem gX3_readSeen_X3_takeWhole : GoodIn wsX3_readSeen (wsV RX3 152 RX3 yX3_takeWhole wsX3_takeWhole) := goodIn_s _ [(5, 5), (4, 1), (3, 1), (10, 3), (8, 1), (13, 81), (110, 14)] rfl (by decide +kernel)
set_option maxRecDepth 20000 in
theorem gX3_readSeen_X3_takeWord : GoodIn wsX3_readSeen (wsV RX3 189 RX3 yX3_takeWord wsX3_takeWord) := goodIn_s _ [(94, 3), (8, 1), (97, 1), (10, 3), (8, 1), (13, 74), (4, 1), (110, 14)] rfl (by decide +kernel)
set_option maxRecDepth 20000 in
theorem gX3_readSeen_X3_isWholeWithin : GoodIn wsX3_readSeen (wsV RX3 192 RX3 yX3_isWholeWithin wsX3_isWholeWithin) := goodIn_s _ [(87, 3), (8, 1), (90, 1), (14, 1), (4, 1), (65, 3), (8, 1), (68, 4), (91, 3), (110, 14)] rfl (by decide +kernel)
set_option maxRecDepth 20000 in
theorem gX3_readSeen_X0_isSeenMinute : GoodIn wsX3_readSeen (wsV RX3 217 RX0 yX0_isSeenMinute wsX0_isSeenMinute) := goodIn_s _ [(98, 7), (124, 15)] rfl (by decide +kernel)
set_option maxRecDepth 20000 in
theorem gX3_readSeen_X3_fails : GoodIn wsX3_readSeen (wsV RX3 64 RX3 yX3_fails wsX3_fails) := goodIn_s _ [(65, 3), (8, 1), (68, 4), (110, 14)] rfl (by decide +kernel)
set_option maxRecDepth 20000 in
theorem gX3_readSeen_X0_addSeen : GoodIn wsX3_readSeen (wsV RX3 220 RX0 yX0_addSeen wsX0_addSeen) := goodIn_s _ [(105, 3), (101, 1), (108, 1), (103, 1), (109, 1), (104, 1), (124, 15)] rfl (by decide +kernel)
set_option maxRecDepth 20000 in
theorem gX3_readSeen_X3_advance : GoodIn wsX3_readSeen (wsV RX3 54 RX3 yX3_advance wsX3_advance) := goodIn_s _ [(72, 3), (8, 1), (75, 4), (70, 1), (14, 1), (79, 3), (8, 1), (82, 1), (15, 1), (83, 4), (4, 1), (110, 14)] rfl (by decide +kernel)
set_option maxRecDepth 20000 in
theorem gX3_takeWord_X3_isWord : GoodIn wsX3_takeWord (wsV RX3 100 RX3 yX3_isWord wsX3_isWord) := goodIn_s _ [(1, 56), (80, 14)] rfl (by decide +kernel)
set_option maxRecDepth 20000 in
theorem gX3_takeWord_X3_fails : GoodIn wsX3_takeWord (wsV RX3 64 RX3 yX3_fails wsX3_fails) := goodIn_s _ [(57, 3), (4, 1), (60, 4), (80, 14)] rfl (by decide +kernel)
set_option maxRecDepth 20000 in
theorem gX3_takeWord_X3_advance : GoodIn wsX3_takeWord (wsV RX3 54 RX3 yX3_advance wsX3_advance) := goodIn_s _ [(64, 3), (4, 1), (67, 4), (62, 1), (6, 1), (71, 3), (4, 1), (74, 1), (7, 1), (75, 19)] rfl (by decide +kernel)
set_option maxRecDepth 20000 in
theorem gX3_takeWhole_X3_isWord : GoodIn wsX3_takeWhole (wsV RX3 100 RX3 yX3_isWord wsX3_isWord) := goodIn_s _ [(3, 56), (88, 14)] rfl (by decide +kernel)
set_option maxRecDepth 20000 in
theorem gX3_takeWhole_X3_fails : GoodIn wsX3_takeWhole (wsV RX3 64 RX3 yX3_fails wsX3_fails) := goodIn_s _ [(59, 3), (6, 1), (62, 4), (88, 14)] rfl (by decide +kernel)
set_option maxRecDepth 20000 in
theorem gX3_takeWhole_X3_advance : GoodIn wsX3_takeWhole (wsV RX3 54 RX3 yX3_advance wsX3_advance) := goodIn_s _ [(66, 3), (6, 1), (69, 4), (64, 1), (8, 1), (73, 3), (6, 1), (76, 1), (9, 1), (77, 4), (1, 1), (88, 14)] rfl (by decide +kernel)
set_option maxRecDepth 20000 in
theorem gX3_takeWhole_X3_isWholeWithin : GoodIn wsX3_takeWhole (wsV RX3 192 RX3 yX3_isWholeWithin wsX3_isWholeWithin) := goodIn_s _ [(81, 3), (6, 1), (84, 1), (8, 1), (1, 1), (59, 3), (6, 1), (62, 4), (85, 17)] rfl (by decide +kernel)
set_option maxRecDepth 20000 in
theorem gX3_takeName_X3_isWord : GoodIn wsX3_takeName (wsV RX3 100 RX3 yX3_isWord wsX3_isWord) := goodIn_s _ [(5, 5), (1, 1), (4, 1), (10, 49), (82, 14)] rfl (by decide +kernel)
set_option maxRecDepth 20000 in
theorem gX3_takeName_X3_fails : GoodIn wsX3_takeName (wsV RX3 64 RX3 yX3_fails wsX3_fails) := goodIn_s _ [(59, 3), (8, 1), (62, 4), (82, 14)] rfl (by decide +kernel)
set_option maxRecDepth 20000 in
theorem gX3_takeName_X3_advance : GoodIn wsX3_takeName (wsV RX3 54 RX3 yX3_advance wsX3_advance) := goodIn_s _ [(66, 3), (8, 1), (69, 4), (64, 1), (1, 1), (73, 3), (8, 1), (76, 1), (4, 1), (77, 19)] rfl (by decide +kernel)
set_option maxRecDepth 20000 in
theorem gX7_feed_X3_append : GoodIn wsX7_feed (wsV RX7 74 RX3 yX3_append wsX3_append) := goodIn_s _ [(3, 7), (21, 14)] rfl (by decide +kernel)
set_option maxRecDepth 20000 in
theorem gX7_gallery_X7_within : GoodIn wsX7_gallery (va_wsS RX7 78 yX7_within wsX7_within) := goodIn_s _ [(13, 4)] rfl (by decide +kernel)
set_option maxRecDepth 20000 in
theorem gX7_gallery_X7_refused : GoodIn wsX7_gallery (wsV RX7 82 RX7 yX7_refused wsX7_refused) := goodIn_s _ [(17, 3), (15, 1), (20, 2), (248, 11)] rfl (by decide +kernel)
set_option maxRecDepth 20000 in
theorem gX7_gallery_X3_read : GoodIn wsX7_gallery (wsV RX7 86 RX3 yX3_read wsX3_read) := goodIn_s _ [(22, 34), (25, 1), (56, 95), (14, 3), (151, 59), (259, 33)] rfl (by decide +kernel)
set_option maxRecDepth 20000 in
theorem gX7_gallery_X3_exchange : GoodIn wsX7_gallery (wsV RX7 94 RX3 yX3_exchange wsX3_exchange) := goodIn_s _ [(210, 3), (25, 1), (213, 1), (33, 1), (259, 14)] rfl (by decide +kernel)
set_option maxRecDepth 20000 in
theorem gX7_gallery_X5_begin : GoodIn wsX7_gallery (wsV RX7 101 RX5 yX5_begin wsX5_begin) := goodIn_s _ [(214, 13), (217, 1), (227, 3), (292, 7)] rfl (by decide +kernel)
set_option maxRecDepth 20000 in
theorem gX7_gallery_X1_clear : GoodIn wsX7_gallery (wsV RX7 104 RX1 yX1_clear wsX1_clear) := goodIn_s _ [(230, 7), (299, 5)] rfl (by decide +kernel)
set_option maxRecDepth 20000 in
theorem gX7_gallery_X2_forget : GoodIn wsX7_gallery (wsV RX7 107 RX2 yX2_forget wsX2_forget) := goodIn_s _ [(237, 7), (304, 7)] rfl (by decide +kernel)
set_option maxRecDepth 20000 in
theorem gX7_gallery_X7_answered : GoodIn wsX7_gallery (wsV RX7 113 RX7 yX7_answered wsX7_answered) := goodIn_s _ [(244, 3), (15, 1), (247, 1), (21, 1), (248, 11)] rfl (by decide +kernel)
set_option maxRecDepth 20000 in
theorem gJ0_length_8abf5_J0_coder_7d493 : GoodIn wsJ0_length_8abf5 (wsV RJ0 335 RJ0 yJ0_coder_7d493 wsJ0_coder_7d493) := goodIn_s _ [(2, 7)] rfl (by decide +kernel)
set_option maxRecDepth 20000 in
theorem gJ0_charAt_5068e_J0_isLatin1_aae02 : GoodIn wsJ0_charAt_5068e (wsV RJ0 492 RJ0 yJ0_isLatin1_aae02 wsJ0_isLatin1_aae02) := goodIn_s _ [(2, 7)] rfl (by decide +kernel)
set_option maxRecDepth 20000 in
theorem gJ0_charAt_5068e_J1_charAt_3b067 : GoodIn wsJ0_charAt_5068e (va_wsS RJ0 495 yJ1_charAt_3b067 wsJ1_charAt_3b067) := goodIn_s _ [(9, 6), (5, 1), (15, 6)] rfl (by decide +kernel)
set_option maxRecDepth 20000 in
theorem gJ0_checkIndex_df160_J3_checkIndex_8e157 : GoodIn wsJ0_checkIndex_df160 (va_wsS RJ0 1059 yJ3_checkIndex_8e157 wsJ3_checkIndex_8e157) := goodIn_s _ [(2, 4)] rfl (by decide +kernel)
set_option maxRecDepth 20000 in
theorem gJ1_charAt_3b067_J0_checkIndex_df160 : GoodIn wsJ1_charAt_3b067 (va_wsS RJ1 9 yJ0_checkIndex_df160 wsJ0_checkIndex_df160) := goodIn_s _ [(1, 9)] rfl (by decide +kernel)
end P200_good_1
section P201_str
section STR
/-- what String's own methods rest on beside the tables -/
def sx_Z (A : Nat → Prop) (U : State) : Prop := va_Z "java/lang/String" "COMPACT_STRINGS" "Z" (.int 1) A U U.heap ∧ va_Zq "jdk/internal/util/Preconditions" "SIOOBE_FORMATTER" "Ljava/util/function/BiFunction;" A U U.heap
/-- a row of n bytes at v -/
def sx_V (v n : Nat) (f : Nat → Int32) (A : Nat → Prop) (U : State) : Prop := sx_Z A U ∧ n ≤ 8 ∧ va_T .byte v n (fun j => .int (f j)) A U U.heap
/-- a String of n bytes at w -/
def sx_W (w n : Nat) (A : Nat → Prop) (U : State) : Prop := sx_Z A U ∧ n ≤ 8 ∧ va_O "java/lang/String" w A U U.heap ∧ va_OF "java/lang/String" "code\x72" "B" (.int 0) w A U U.heap ∧ ∃ (v : Nat) (f : Nat → Int32), va_OF "java/lang/String" "value" "[B" (.ref v) w A U U.heap ∧ va_T .byte v n (fun j => .int (f j)) A U U.heap
theorem sx_Z_same {A : Nat → Prop} (a : Array Value) (U : State) (g : JFrame) (mk : MethodId) (h : sx_Z A U) : sx_Z A (U.calling g mk a) :=
  ⟨va_Z.moved (u := U) (U := U.calling g mk a) (Vm.Alike.refl U.vm) h.1, va_Zq.moved (u := U) (U := U.calling g mk a) (Vm.Alike.refl U.vm) h.2⟩
theorem sx_V_same {v n : Nat} {f : Nat → Int32} {A : Nat → Prop} (a : Array Value) (U : State) (g : JFrame) (mk : MethodId) (h : sx_V v n f A U) : sx_V v n f A (U.calling g mk a) :=
  ⟨sx_Z_same a U g mk h.1, h.2.1, va_T.moved (u := U) (U := U.calling g mk a) (Vm.Alike.refl U.vm) h.2.2⟩
theorem sx_Z_to {A B : Nat → Prop} {s U : State} {H : Heap} (h : sx_Z A s) (hq : ∀ a : Nat, a < s.heap.size → ¬ A a → H[a]? = s.heap[a]?) (hAB : ∀ q, B q → A q) (hU : U.heap = H) (hW : s.WarmedH U.vm) : sx_Z B U := by
  subst hU
  exact ⟨((h.1.kept hq).moved hW.alike).narrow hAB, ((h.2.kept hq).moved hW.alike).narrow hAB⟩
theorem sx_V_to {v n : Nat} {f : Nat → Int32} {A B : Nat → Prop} {s U : State} {H : Heap} (h : sx_V v n f A s) (hq : ∀ a : Nat, a < s.heap.size → ¬ A a → H[a]? = s.heap[a]?) (hAB : ∀ q, B q → A q) (hU : U.heap = H) (hW : s.WarmedH U.vm) : sx_V v n f B U := by
  refine ⟨sx_Z_to h.1 hq hAB hU hW, h.2.1, ?_⟩
  subst hU
  exact ((h.2.2.kept hq).moved hW.alike).narrow hAB
theorem sx_recv {w n : Nat} {A : Nat → Prop} {s : State} {H : Heap} {locs : List Loc} (h : sx_W w n A s) (hS : va_S A s.heap H locs) : ∃ cell : Cell, H[w]? = some cell ∧ cell.vm.isStatics = false ∧ s.vm.findClass "java/lang/String" = some cell.cls := by
  obtain ⟨cell, h1, h2, h3, -⟩ := h.2.2.1.kept hS.2.1
  exact ⟨cell, h1, h2, h3⟩
theorem sx_len {n : Nat} (h : n ≤ 8) : ((Int32.ofNat n) >>> ((0 : Int32) &&& 31)).toInt = (n : Int) := by
  have q : ∀ k : Fin 9, ((Int32.ofNat k.val) >>> ((0 : Int32) &&& 31)).toInt = (k.val : Int) := by decide
  exact q ⟨n, by omega⟩
theorem sx_lt {n : Nat} (h : n ≤ 8) : (Int32.ofNat n).toInt = (n : Int) := nI_toInt (by omega)
theorem ax_preE {av : List Value} {s : State} {H : Heap} {A : Nat → Prop} {dC : Nat → ClassId} {dI : Nat → Nat → Nat} {ws : va_W} {tys : List (ClassId × FieldType)} {E : State → Prop}
    (hP : va_P (dC, dI) vwCl ws H) (hK : va_K (dC, dI) vwCl tys s) (hD : va_D A ws) (hE : ∀ U : State, U.heap = H → s.WarmedH U.vm → E U) :
    ∀ U : State, U.heap = H → s.WarmedH U.vm → va_Pc av (ax_C dC dI H.size ws tys E) av.toArray U :=
  fun U hU hW => ⟨rfl, by rw [hU], by rw [hU]; exact hP, va_K.moved hW.alike hK, hD.weaken (fun _ _ _ _ => trivial), hE U hU hW⟩

set_option maxHeartbeats 4000000 in
set_option maxRecDepth 100000 in
theorem c_J3_checkIndex_8e157_r (l : Launch) (dC : Nat → ClassId) (dI : Nat → Nat → Nat) (sz : Nat) (i k : Int32) (q9 : Nat) (h0 : (0 : Int) ≤ i.toInt) (hk : i.toInt < k.toInt) : zm l yJ3_checkIndex_8e157 wsJ3_checkIndex_8e157 ({ frames := 0, cells := 0, slots := 0, locals := 0 }) [.int i, .int k, .ref q9] dC dI sz [] [] (fun A _ => True) (fun A => va_Qi (fun (r : Int32) (_ : Unit) => True) (fun (_ : Unit) (t : State) => ax_B dC dI A [] [] t) A) := by
  refine zh (cc := cJ3_checkIndex_8e157) (maxL := 3) (ret := (some .int)) zn_RJ3 rfl (Nat.le_of_ble_eq_true rfl) (fun p e s m below meth c A ls hx hb hml hr hts (hown : s.vm.findClass RJ3 = some m.cls) hlocks hA hS hP hK hD hE (hl : lv_has ls 3 [(0, .int i), (1, .int k), (2, .ref q9)]) => ?_)
  refine lv_iload_n hx hb dJ3_checkIndex_8e157_0 rfl (lv_at hl 0 rfl) ?_
  refine lv_if_lt (tgt := 9) hx hb dJ3_checkIndex_8e157_1 (by decide) (fun c9 => absurd (ai_lt c9) (by have h9 : (0 : Int32).toInt = 0 := (by decide); omega)) (fun _ => ?_)
  refine lv_iload_n hx hb dJ3_checkIndex_8e157_4 rfl (lv_at hl 0 rfl) ?_
  refine lv_iload_n hx hb dJ3_checkIndex_8e157_5 rfl (lv_at hl 1 rfl) ?_
  refine lv_icmp_lt (tgt := 16) hx hb dJ3_checkIndex_8e157_6 (by decide) (fun _ => ?_) (fun c9 => absurd (Int32.lt_iff_toInt_lt.mpr hk) c9)
  refine lv_iload_n hx hb dJ3_checkIndex_8e157_16 rfl (lv_at hl 0 rfl) ?_
  exact W.iret (v := i) hx hb hr (fun t ht hW => ⟨⟨i, (), rfl, trivial, by rw [ht]; exact hP, va_K.moved hW.alike hK, hD⟩, hS.F ht⟩) hS.2.2 dJ3_checkIndex_8e157_17

set_option maxHeartbeats 4000000 in
set_option maxRecDepth 100000 in
theorem c_J3_checkIndex_8e157_n (l : Launch) (dC : Nat → ClassId) (dI : Nat → Nat → Nat) (sz : Nat) (i k : Int32)  (h0 : (0 : Int) ≤ i.toInt) (hk : i.toInt < k.toInt) : zm l yJ3_checkIndex_8e157 wsJ3_checkIndex_8e157 ({ frames := 0, cells := 0, slots := 0, locals := 0 }) [.int i, .int k, .null] dC dI sz [] [] (fun A _ => True) (fun A => va_Qi (fun (r : Int32) (_ : Unit) => True) (fun (_ : Unit) (t : State) => ax_B dC dI A [] [] t) A) := by
  refine zh (cc := cJ3_checkIndex_8e157) (maxL := 3) (ret := (some .int)) zn_RJ3 rfl (Nat.le_of_ble_eq_true rfl) (fun p e s m below meth c A ls hx hb hml hr hts (hown : s.vm.findClass RJ3 = some m.cls) hlocks hA hS hP hK hD hE (hl : lv_has ls 3 [(0, .int i), (1, .int k), (2, .null)]) => ?_)
  refine lv_iload_n hx hb dJ3_checkIndex_8e157_0 rfl (lv_at hl 0 rfl) ?_
  refine lv_if_lt (tgt := 9) hx hb dJ3_checkIndex_8e157_1 (by decide) (fun c9 => absurd (ai_lt c9) (by have h9 : (0 : Int32).toInt = 0 := (by decide); omega)) (fun _ => ?_)
  refine lv_iload_n hx hb dJ3_checkIndex_8e157_4 rfl (lv_at hl 0 rfl) ?_
  refine lv_iload_n hx hb dJ3_checkIndex_8e157_5 rfl (lv_at hl 1 rfl) ?_
  refine lv_icmp_lt (tgt := 16) hx hb dJ3_checkIndex_8e157_6 (by decide) (fun _ => ?_) (fun c9 => absurd (Int32.lt_iff_toInt_lt.mpr hk) c9)
  refine lv_iload_n hx hb dJ3_checkIndex_8e157_16 rfl (lv_at hl 0 rfl) ?_
  exact W.iret (v := i) hx hb hr (fun t ht hW => ⟨⟨i, (), rfl, trivial, by rw [ht]; exact hP, va_K.moved hW.alike hK, hD⟩, hS.F ht⟩) hS.2.2 dJ3_checkIndex_8e157_17

set_option maxHeartbeats 4000000 in
set_option maxRecDepth 100000 in
theorem c_J0_checkIndex_df160 (l : Launch) (dC : Nat → ClassId) (dI : Nat → Nat → Nat) (sz : Nat) (i k : Int32) (h0 : (0 : Int) ≤ i.toInt) (hk : i.toInt < k.toInt) : Met l yJ0_checkIndex_df160 wsJ0_checkIndex_df160 ({ frames := 1, cells := 0, slots := 0, locals := 22 }) (va_Pc [.int i, .int k] (ax_C dC dI sz [] [] (sx_Z (va_A [] sz)))) (va_Qv (fun (_ : Unit) => True) (fun (_ : Unit) (t : State) => ax_B dC dI (va_A [] sz) [] [] t) (va_A [] sz)) 0 0 (va_A [] sz) := by
  refine Met.ofW (cc := cJ0_checkIndex_df160) (maxL := 2) (ret := none) (by decide) rfl ?_
  intro p e s m args below meth c s₁ B hml hv
  obtain ⟨rfl, hsz, hP, hK, hD0, hE⟩ := hv
  have hx := B.exec
  have hb := B.bytes
  have hr := B.returns
  have hts := atoms_spec (ws := wsJ0_checkIndex_df160) B.pre
  have hown : s.vm.findClass RJ0 = some m.cls := findClass_of_methodNamed B.named
  have hlocks := B.notSynchronized
  subst hsz
  have hD := hD0.self (sz := s.heap.size)
  generalize hAe : va_A [] s.heap.size = A at hD hE ⊢
  have hA : ∀ q : Nat, s.heap.size ≤ q → A q := fun q h => by rw [← hAe]; exact Or.inr h
  have hS : va_S A s.heap s.heap [] := va_S.rf
  have hP : va_P (dC, dI) vwCl [] s.heap := hP
  have hl := lv_entry ([.int i, .int k]) (n := 2) (Nat.le_of_ble_eq_true rfl)
  rw [lg_entry_eq]
  generalize (lg_sl ([.int i, .int k]) ++ List.replicate (2 - (lg_sl ([.int i, .int k])).length) Slot.unset).toArray = ls at hl ⊢
  have hl : lv_has ls 2 [(0, .int i), (1, .int k)] := hl
  refine lv_iload_n hx hb dJ0_checkIndex_df160_0 rfl (lv_at hl 0 rfl) ?_
  refine lv_iload_n hx hb dJ0_checkIndex_df160_1 rfl (lv_at hl 1 rfl) ?_
  rcases hE.2 with hq9 | ⟨q9, hq9⟩
  · refine va_gets hx hb hq9 hS hown (hts (.fieldLink RJ0 1053 "jdk/internal/util/Preconditions" "SIOOBE_FORMATTER" "Ljava/util/function/BiFunction;") (List.mem_cons_of_mem _ (List.mem_of_getElem? (i := 0) rfl))) (fun _ h => h) dJ0_checkIndex_df160_2 ?_
    have hFc := va_free (wc := []) hD hS hA [] rfl
    refine va_calli (va_runS (As := [.int i, .int k, .null]) (rest := []) ⟨hx, hb, hml, hown, hts⟩ (c_J3_checkIndex_8e157_n l dC dI s.heap.size i k h0 hk) (va_cwS 3 hts gJ0_checkIndex_df160_J3_checkIndex_8e157 rfl rfl rfl zd_J3_checkIndex_8e157.2 ⟨Nat.le_of_ble_eq_true rfl, Nat.le_of_ble_eq_true rfl⟩) ⟨ax_blind (fun _ _ _ _ _ => trivial), ax_preE hP hK hD (fun _ _ _ => trivial)⟩ rfl rfl hl.1 rfl (lv_room (Nat.le_of_ble_eq_true rfl)) dJ0_checkIndex_df160_5 ⟨Nat.le_of_ble_eq_true rfl, Nat.le_of_ble_eq_true rfl⟩) hS (fun q _ h => hFc q h) hFc (fun r5 u t H1 locs ht hvm hw hB hz1 hk1 hS => ?_)
    obtain ⟨hP1, hK1, hD1⟩ := hB
    rw [ht] at hP1
    generalize H1 = H at hP1 hS ⊢
    have hP : va_P (dC, dI) vwCl [] H := hP1
    refine lv_pop hx hb dJ0_checkIndex_df160_8 rfl ?_
    exact W.vret hx hb hr (fun t ht hW => ⟨⟨(), rfl, trivial, by rw [ht]; exact hP, va_K.moved hW.alike hK, hD⟩, hS.F ht⟩) hS.2.2 dJ0_checkIndex_df160_9
  · refine va_gets hx hb hq9 hS hown (hts (.fieldLink RJ0 1053 "jdk/internal/util/Preconditions" "SIOOBE_FORMATTER" "Ljava/util/function/BiFunction;") (List.mem_cons_of_mem _ (List.mem_of_getElem? (i := 0) rfl))) (fun _ h => h) dJ0_checkIndex_df160_2 ?_
    have hFc := va_free (wc := []) hD hS hA [] rfl
    refine va_calli (va_runS (As := [.int i, .int k, .ref q9]) (rest := []) ⟨hx, hb, hml, hown, hts⟩ (c_J3_checkIndex_8e157_r l dC dI s.heap.size i k q9 h0 hk) (va_cwS 3 hts gJ0_checkIndex_df160_J3_checkIndex_8e157 rfl rfl rfl zd_J3_checkIndex_8e157.2 ⟨Nat.le_of_ble_eq_true rfl, Nat.le_of_ble_eq_true rfl⟩) ⟨ax_blind (fun _ _ _ _ _ => trivial), ax_preE hP hK hD (fun _ _ _ => trivial)⟩ rfl rfl hl.1 rfl (lv_room (Nat.le_of_ble_eq_true rfl)) dJ0_checkIndex_df160_5 ⟨Nat.le_of_ble_eq_true rfl, Nat.le_of_ble_eq_true rfl⟩) hS (fun q _ h => hFc q h) hFc (fun r5 u t H1 locs ht hvm hw hB hz1 hk1 hS => ?_)
    obtain ⟨hP1, hK1, hD1⟩ := hB
    rw [ht] at hP1
    generalize H1 = H at hP1 hS ⊢
    have hP : va_P (dC, dI) vwCl [] H := hP1
    refine lv_pop hx hb dJ0_checkIndex_df160_8 rfl ?_
    exact W.vret hx hb hr (fun t ht hW => ⟨⟨(), rfl, trivial, by rw [ht]; exact hP, va_K.moved hW.alike hK, hD⟩, hS.F ht⟩) hS.2.2 dJ0_checkIndex_df160_9

end STR
section STX
def sx_ln : List Nat := [7, 3, 6, 7, 4, 7, 4, 6, 4, 5, 4, 5, 2, 5, 6, 4, 2, 2, 7, 3, 6, 7, 4, 7, 4, 6, 4, 5, 4, 5, 2, 5, 6, 4, 2, 2]
end STX
end P201_str
section P222_sxc
section SXC
def sxc_W (w n : Nat) (cs : Nat → Int32) (A : Nat → Prop) (U : State) : Prop := sx_Z A U ∧ n ≤ 8 ∧ va_O "java/lang/String" w A U U.heap ∧ va_OF "java/lang/String" "code\x72" "B" (.int 0) w A U U.heap ∧ (∀ j : Nat, j < n → (0 : Int) ≤ (cs j).toInt ∧ (cs j).toInt ≤ 127) ∧ ∃ v : Nat, va_OF "java/lang/String" "value" "[B" (.ref v) w A U U.heap ∧ va_T .byte v n (fun j => .int (cs j)) A U U.heap
theorem sxc_W_w {w n : Nat} {cs : Nat → Int32} {A : Nat → Prop} {U : State} (h : sxc_W w n cs A U) : sx_W w n A U := by
  obtain ⟨h1, h2, h3, h4, _, v, h5, h6⟩ := h
  exact ⟨h1, h2, h3, h4, v, cs, h5, h6⟩
theorem sxc_W_same {w n : Nat} {cs : Nat → Int32} {A : Nat → Prop} (a : Array Value) (U : State) (g : JFrame) (mk : MethodId) (h : sxc_W w n cs A U) : sxc_W w n cs A (U.calling g mk a) := by
  obtain ⟨h1, h2, h3, h4, h7, v, h5, h6⟩ := h
  exact ⟨sx_Z_same a U g mk h1, h2, va_O.moved (u := U) (U := U.calling g mk a) (Vm.Alike.refl U.vm) h3, va_OF.moved (u := U) (U := U.calling g mk a) (Vm.Alike.refl U.vm) h4, h7, v, va_OF.moved (u := U) (U := U.calling g mk a) (Vm.Alike.refl U.vm) h5, va_T.moved (u := U) (U := U.calling g mk a) (Vm.Alike.refl U.vm) h6⟩
theorem sxc_W_to {w n : Nat} {cs : Nat → Int32} {A B : Nat → Prop} {s U : State} {H : Heap} (h : sxc_W w n cs A s) (hq : ∀ a : Nat, a < s.heap.size → ¬ A a → H[a]? = s.heap[a]?) (hAB : ∀ q, B q → A q) (hU : U.heap = H) (hW : s.WarmedH U.vm) : sxc_W w n cs B U := by
  obtain ⟨h1, h2, h3, h4, h7, v, h5, h6⟩ := h
  refine ⟨sx_Z_to h1 hq hAB hU hW, h2, ?_⟩
  subst hU
  exact ⟨((h3.kept hq).moved hW.alike).narrow hAB, ((h4.kept hq).moved hW.alike).narrow hAB, h7, v, ((h5.kept hq).moved hW.alike).narrow hAB, ((h6.kept hq).moved hW.alike).narrow hAB⟩
theorem sxc_recv {w n : Nat} {cs : Nat → Int32} {A : Nat → Prop} {s : State} {H : Heap} {locs : List Loc} (h : sxc_W w n cs A s) (hS : va_S A s.heap H locs) : ∃ cell : Cell, H[w]? = some cell ∧ cell.vm.isStatics = false ∧ s.vm.findClass "java/lang/String" = some cell.cls := sx_recv (sxc_W_w h) hS
theorem sxc_ch {x : Int32} (h : (0 : Int) ≤ x.toInt ∧ x.toInt ≤ 127) : ((x &&& 255).toUInt32 % 65536).toInt32 = x := by
  have q : ∀ k : Fin 128, (((Int32.ofNat k.val) &&& 255).toUInt32 % 65536).toInt32 = Int32.ofNat k.val := by decide
  have h1 := q ⟨x.toInt.toNat, by omega⟩
  have h2 : Int32.ofNat x.toInt.toNat = x := by
    apply Int32.toInt_inj.mp
    exact (show (Int32.ofNat x.toInt.toNat).toInt = ((x.toInt.toNat : Nat) : Int) from nI_toInt (by omega)).trans (by omega)
  simp only [h2] at h1
  exact h1
set_option maxHeartbeats 4000000 in
set_option maxRecDepth 100000 in
theorem f_J0_coder_7d493 (l : Launch) (dC : Nat → ClassId) (dI : Nat → Nat → Nat) (sz : Nat) (w n : Nat) (cs : Nat → Int32)  : Met l yJ0_coder_7d493 wsJ0_coder_7d493 ({ frames := 0, cells := 0, slots := 0, locals := 0 }) (va_Pc [.ref w] (ax_C dC dI sz [] [] (sxc_W w n cs (va_A [] sz)))) (va_Qi (fun (r : Int32) (_ : Unit) => r = 0) (fun (_ : Unit) (t : State) => ax_B dC dI (va_A [] sz) [] [] t) (va_A [] sz)) 0 0 (va_A [] sz) := by
  refine Met.ofW (cc := cJ0_coder_7d493) (maxL := 1) (ret := (some .byte)) (by decide) rfl ?_
  intro p e s m args below meth c s₁ B hml hv
  obtain ⟨rfl, hsz, hP, hK, hD0, hE⟩ := hv
  have hx := B.exec
  have hb := B.bytes
  have hr := B.returns
  have hts := atoms_spec (ws := wsJ0_coder_7d493) B.pre
  have hown : s.vm.findClass RJ0 = some m.cls := findClass_of_methodNamed B.named
  have hlocks := B.notSynchronized
  subst hsz
  have hD := hD0.self (sz := s.heap.size)
  generalize hAe : va_A [] s.heap.size = A at hD hE ⊢
  have hA : ∀ q : Nat, s.heap.size ≤ q → A q := fun q h => by rw [← hAe]; exact Or.inr h
  have hS : va_S A s.heap s.heap [] := va_S.rf
  have hP : va_P (dC, dI) vwCl [] s.heap := hP
  have hl := lv_entry ([.ref w]) (n := 1) (Nat.le_of_ble_eq_true rfl)
  rw [lg_entry_eq]
  generalize (lg_sl ([.ref w]) ++ List.replicate (1 - (lg_sl ([.ref w])).length) Slot.unset).toArray = ls at hl ⊢
  have hl : lv_has ls 1 [(0, .ref w)] := hl
  obtain ⟨hz, hn, hO, hco, hcb, v, hv, hT⟩ := id hE
  refine va_gets hx hb hz.1 hS hown (hts (.fieldLink RJ0 38 "java/lang/String" "COMPACT_STRINGS" "Z") (List.mem_cons_of_mem _ (List.mem_of_getElem? (i := 0) rfl))) (fun _ h => h) dJ0_coder_7d493_0 ?_
  refine lv_if_eq (tgt := 13) hx hb dJ0_coder_7d493_3 (by decide) (fun c9 => absurd c9 (by decide +kernel)) (fun _ => ?_)
  refine lv_aload_n hx hb dJ0_coder_7d493_6 rfl (lv_at hl 0 rfl) ?_
  refine vk_getf hx hb hco hS hown (hts (.fieldLink RJ0 15 "java/lang/String" "code\x72" "B") (List.mem_cons_of_mem _ (List.mem_of_getElem? (i := 1) rfl))) (fun _ h => h) dJ0_coder_7d493_7 ?_
  refine lv_goto (tgt := 14) hx hb dJ0_coder_7d493_10 (by decide) ?_
  exact W.zret (v := 0) hx hb hr rfl (fun t ht hW => ⟨⟨0, (), rfl, rfl, by rw [ht]; exact hP, va_K.moved hW.alike hK, hD⟩, hS.F ht⟩) hS.2.2 dJ0_coder_7d493_14


set_option maxHeartbeats 4000000 in
set_option maxRecDepth 100000 in
theorem f_J0_isLatin1_aae02 (l : Launch) (dC : Nat → ClassId) (dI : Nat → Nat → Nat) (sz : Nat) (w n : Nat) (cs : Nat → Int32)  : Met l yJ0_isLatin1_aae02 wsJ0_isLatin1_aae02 ({ frames := 0, cells := 0, slots := 0, locals := 0 }) (va_Pc [.ref w] (ax_C dC dI sz [] [] (sxc_W w n cs (va_A [] sz)))) (va_Qi (fun (r : Int32) (_ : Unit) => r = 1) (fun (_ : Unit) (t : State) => ax_B dC dI (va_A [] sz) [] [] t) (va_A [] sz)) 0 0 (va_A [] sz) := by
  refine Met.ofW (cc := cJ0_isLatin1_aae02) (maxL := 1) (ret := (some .boolean)) (by decide) rfl ?_
  intro p e s m args below meth c s₁ B hml hv
  obtain ⟨rfl, hsz, hP, hK, hD0, hE⟩ := hv
  have hx := B.exec
  have hb := B.bytes
  have hr := B.returns
  have hts := atoms_spec (ws := wsJ0_isLatin1_aae02) B.pre
  have hown : s.vm.findClass RJ0 = some m.cls := findClass_of_methodNamed B.named
  have hlocks := B.notSynchronized
  subst hsz
  have hD := hD0.self (sz := s.heap.size)
  generalize hAe : va_A [] s.heap.size = A at hD hE ⊢
  have hA : ∀ q : Nat, s.heap.size ≤ q → A q := fun q h => by rw [← hAe]; exact Or.inr h
  have hS : va_S A s.heap s.heap [] := va_S.rf
  have hP : va_P (dC, dI) vwCl [] s.heap := hP
  have hl := lv_entry ([.ref w]) (n := 1) (Nat.le_of_ble_eq_true rfl)
  rw [lg_entry_eq]
  generalize (lg_sl ([.ref w]) ++ List.replicate (1 - (lg_sl ([.ref w])).length) Slot.unset).toArray = ls at hl ⊢
  have hl : lv_has ls 1 [(0, .ref w)] := hl
  obtain ⟨hz, hn, hO, hco, hcb, v, hv, hT⟩ := id hE
  refine va_gets hx hb hz.1 hS hown (hts (.fieldLink RJ0 38 "java/lang/String" "COMPACT_STRINGS" "Z") (List.mem_cons_of_mem _ (List.mem_of_getElem? (i := 0) rfl))) (fun _ h => h) dJ0_isLatin1_aae02_0 ?_
  refine lv_if_eq (tgt := 17) hx hb dJ0_isLatin1_aae02_3 (by decide) (fun c9 => absurd c9 (by decide +kernel)) (fun _ => ?_)
  refine lv_aload_n hx hb dJ0_isLatin1_aae02_6 rfl (lv_at hl 0 rfl) ?_
  refine vk_getf hx hb hco hS hown (hts (.fieldLink RJ0 15 "java/lang/String" "code\x72" "B") (List.mem_cons_of_mem _ (List.mem_of_getElem? (i := 1) rfl))) (fun _ h => h) dJ0_isLatin1_aae02_7 ?_
  refine lv_if_ne (tgt := 17) hx hb dJ0_isLatin1_aae02_10 (by decide) (fun c9 => absurd (by decide +kernel) c9) (fun _ => ?_)
  refine lv_iconst (v := 1) hx hb dJ0_isLatin1_aae02_13 zk_iconst_1 ?_
  refine lv_goto (tgt := 18) hx hb dJ0_isLatin1_aae02_14 (by decide) ?_
  exact W.zret (v := 1) hx hb hr rfl (fun t ht hW => ⟨⟨1, (), rfl, rfl, by rw [ht]; exact hP, va_K.moved hW.alike hK, hD⟩, hS.F ht⟩) hS.2.2 dJ0_isLatin1_aae02_18


set_option maxHeartbeats 4000000 in
set_option maxRecDepth 100000 in
theorem f_J0_length_8abf5 (l : Launch) (dC : Nat → ClassId) (dI : Nat → Nat → Nat) (sz : Nat) (w n : Nat) (cs : Nat → Int32)  : Met l yJ0_length_8abf5 wsJ0_length_8abf5 ({ frames := 1, cells := 0, slots := 0, locals := 20 }) (va_Pc [.ref w] (ax_C dC dI sz [] [] (sxc_W w n cs (va_A [] sz)))) (va_Qi (fun (r : Int32) (_ : Unit) => (r.toInt = (n : Int) ∧ n ≤ 8) ∧ r.toInt = (n : Int)) (fun (_ : Unit) (t : State) => ax_B dC dI (va_A [] sz) [] [] t) (va_A [] sz)) 0 0 (va_A [] sz) := by
  refine Met.ofW (cc := cJ0_length_8abf5) (maxL := 1) (ret := (some .int)) (by decide) rfl ?_
  intro p e s m args below meth c s₁ B hml hv
  obtain ⟨rfl, hsz, hP, hK, hD0, hE⟩ := hv
  have hx := B.exec
  have hb := B.bytes
  have hr := B.returns
  have hts := atoms_spec (ws := wsJ0_length_8abf5) B.pre
  have hown : s.vm.findClass RJ0 = some m.cls := findClass_of_methodNamed B.named
  have hlocks := B.notSynchronized
  subst hsz
  have hD := hD0.self (sz := s.heap.size)
  generalize hAe : va_A [] s.heap.size = A at hD hE ⊢
  have hA : ∀ q : Nat, s.heap.size ≤ q → A q := fun q h => by rw [← hAe]; exact Or.inr h
  have hS : va_S A s.heap s.heap [] := va_S.rf
  have hP : va_P (dC, dI) vwCl [] s.heap := hP
  have hl := lv_entry ([.ref w]) (n := 1) (Nat.le_of_ble_eq_true rfl)
  rw [lg_entry_eq]
  generalize (lg_sl ([.ref w]) ++ List.replicate (1 - (lg_sl ([.ref w])).length) Slot.unset).toArray = ls at hl ⊢
  have hl : lv_has ls 1 [(0, .ref w)] := hl
  obtain ⟨hz, hn, hO, hco, hcb, v, hv, hT⟩ := id hE
  refine lv_aload_n hx hb dJ0_length_8abf5_0 rfl (lv_at hl 0 rfl) ?_
  refine vk_getf hx hb hv hS hown (hts (.fieldLink RJ0 9 "java/lang/String" "value" "[B") (List.mem_cons_of_mem _ (List.mem_of_getElem? (i := 0) rfl))) (fun _ h => h) dJ0_length_8abf5_1 ?_
  refine va_tlen hx hb hT hS (v := Int32.ofNat n) rfl dJ0_length_8abf5_4 ?_
  refine lv_aload_n hx hb dJ0_length_8abf5_5 rfl (lv_at hl 0 rfl) ?_
  have hFc := va_free (wc := []) hD hS hA [] rfl
  refine va_calli (va_runV (As := []) (rest := [.int (Int32.ofNat n)]) ⟨hx, hb, hml, hown, hts⟩ (f_J0_coder_7d493 l dC dI s.heap.size w n cs) (cwV 0 hts gJ0_length_8abf5_J0_coder_7d493 rfl rfl rfl zd_J0_coder_7d493 ⟨Nat.le_of_ble_eq_true rfl, Nat.le_of_ble_eq_true rfl⟩) ⟨ax_blind sxc_W_same, sxc_recv hE hS, ax_preE hP hK hD (fun U hU hW => sxc_W_to hE hS.2.1 hFc hU hW)⟩ rfl rfl hl.1 rfl (lv_room (Nat.le_of_ble_eq_true rfl)) dJ0_length_8abf5_6 ⟨Nat.le_of_ble_eq_true rfl, Nat.le_of_ble_eq_true rfl⟩) hS (fun q _ h => hFc q h) hFc (fun r6 u t H1 locs ht hvm hw hB hz1 hk1 hS => ?_)
  obtain ⟨hP1, hK1, hD1⟩ := hB
  rw [ht] at hP1
  generalize H1 = H at hP1 hS ⊢
  have hP : va_P (dC, dI) vwCl [] H := hP1
  have hw : r6 = 0 := hw
  subst hw
  refine lv_ishr hx hb dJ0_length_8abf5_9 ?_
  refine lv_topi (fun x9 ex9 => ?_)
  exact W.iret (v := x9) hx hb hr (fun t ht hW => ⟨⟨x9, (), rfl, ⟨⟨by rw [ex9]; exact sx_len hn, hn⟩, by rw [ex9]; exact sx_len hn⟩, by rw [ht]; exact hP, va_K.moved hW.alike hK, hD⟩, hS.F ht⟩) hS.2.2 dJ0_length_8abf5_10


set_option maxHeartbeats 4000000 in
set_option maxRecDepth 100000 in
theorem f_J1_charAt_3b067 (l : Launch) (dC : Nat → ClassId) (dI : Nat → Nat → Nat) (sz : Nat) (v n : Nat) (f : Nat → Int32) (i : Int32) (h0 : (0 : Int) ≤ i.toInt) (hk : i.toInt < (n : Int)) : Met l yJ1_charAt_3b067 wsJ1_charAt_3b067 ({ frames := 2, cells := 0, slots := 0, locals := 43 }) (va_Pc [.ref v, .int i] (ax_C dC dI sz [] [] (sx_V v n f (va_A [] sz)))) (va_Qi (fun (r : Int32) (_ : Unit) => narrow .char (.int r) = .int r ∧ r = ((f i.toNatClampNeg &&& 255).toUInt32 % 65536).toInt32) (fun (_ : Unit) (t : State) => ax_B dC dI (va_A [] sz) [] [] t) (va_A [] sz)) 0 0 (va_A [] sz) := by
  refine Met.ofW (cc := cJ1_charAt_3b067) (maxL := 2) (ret := (some .char)) (by decide) rfl ?_
  intro p e s m args below meth c s₁ B hml hv
  obtain ⟨rfl, hsz, hP, hK, hD0, hE⟩ := hv
  have hx := B.exec
  have hb := B.bytes
  have hr := B.returns
  have hts := atoms_spec (ws := wsJ1_charAt_3b067) B.pre
  have hown : s.vm.findClass RJ1 = some m.cls := findClass_of_methodNamed B.named
  have hlocks := B.notSynchronized
  subst hsz
  have hD := hD0.self (sz := s.heap.size)
  generalize hAe : va_A [] s.heap.size = A at hD hE ⊢
  have hA : ∀ q : Nat, s.heap.size ≤ q → A q := fun q h => by rw [← hAe]; exact Or.inr h
  have hS : va_S A s.heap s.heap [] := va_S.rf
  have hP : va_P (dC, dI) vwCl [] s.heap := hP
  have hl := lv_entry ([.ref v, .int i]) (n := 2) (Nat.le_of_ble_eq_true rfl)
  rw [lg_entry_eq]
  generalize (lg_sl ([.ref v, .int i]) ++ List.replicate (2 - (lg_sl ([.ref v, .int i])).length) Slot.unset).toArray = ls at hl ⊢
  have hl : lv_has ls 2 [(0, .ref v), (1, .int i)] := hl
  obtain ⟨hz, hn, hT⟩ := id hE
  refine lv_iload_n hx hb dJ1_charAt_3b067_0 rfl (lv_at hl 1 rfl) ?_
  refine lv_aload_n hx hb dJ1_charAt_3b067_1 rfl (lv_at hl 0 rfl) ?_
  refine va_tlen hx hb hT hS (v := Int32.ofNat n) rfl dJ1_charAt_3b067_2 ?_
  have hFc := va_free (wc := []) hD hS hA [] rfl
  refine va_callv (va_runS (As := [.int i, .int (Int32.ofNat n)]) (rest := []) ⟨hx, hb, hml, hown, hts⟩ (c_J0_checkIndex_df160 l dC dI s.heap.size i (Int32.ofNat n) h0 (by rw [sx_lt hn]; exact hk)) (va_cwS 2 hts gJ1_charAt_3b067_J0_checkIndex_df160 rfl rfl rfl zd_J0_checkIndex_df160.2 ⟨Nat.le_of_ble_eq_true rfl, Nat.le_of_ble_eq_true rfl⟩) ⟨ax_blind sx_Z_same, ax_preE hP hK hD (fun U hU hW => sx_Z_to hz hS.2.1 hFc hU hW)⟩ rfl rfl hl.1 rfl (lv_room (Nat.le_of_ble_eq_true rfl)) dJ1_charAt_3b067_3 ⟨Nat.le_of_ble_eq_true rfl, Nat.le_of_ble_eq_true rfl⟩) hS (fun q _ h => hFc q h) hFc (fun u t H1 locs ht hvm hw hB hz1 hk1 hS => ?_)
  obtain ⟨hP1, hK1, hD1⟩ := hB
  rw [ht] at hP1
  generalize H1 = H at hP1 hS ⊢
  have hP : va_P (dC, dI) vwCl [] H := hP1
  refine lv_aload_n hx hb dJ1_charAt_3b067_6 rfl (lv_at hl 0 rfl) ?_
  refine lv_iload_n hx hb dJ1_charAt_3b067_7 rfl (lv_at hl 1 rfl) ?_
  refine va_tb hx hb hT hS (vp_in_iff.mpr ⟨h0, hk⟩) (v := .int (f i.toNatClampNeg)) rfl dJ1_charAt_3b067_8 ?_
  refine lv_sipush (v := 255) hx hb dJ1_charAt_3b067_9 zk_sipush_255 ?_
  refine lv_iand hx hb dJ1_charAt_3b067_12 ?_
  refine lv_topi (fun x9 ex9 => ?_)
  refine lv_i2c (v := (x9.toUInt32 % 65536).toInt32) hx hb dJ1_charAt_3b067_13 rfl ?_
  exact W.zret (v := (x9.toUInt32 % 65536).toInt32) hx hb hr (pk_nc x9) (fun t ht hW => ⟨⟨(x9.toUInt32 % 65536).toInt32, (), rfl, ⟨pk_nc x9, by rw [ex9]⟩, by rw [ht]; exact hP, va_K.moved hW.alike hK, hD⟩, hS.F ht⟩) hS.2.2 dJ1_charAt_3b067_14


set_option maxHeartbeats 4000000 in
set_option maxRecDepth 100000 in
theorem f_J0_charAt_5068e (l : Launch) (dC : Nat → ClassId) (dI : Nat → Nat → Nat) (sz : Nat) (w n : Nat) (cs : Nat → Int32) (i : Int32) (h0 : (0 : Int) ≤ i.toInt) (hk : i.toInt < (n : Int)) : Met l yJ0_charAt_5068e wsJ0_charAt_5068e ({ frames := 3, cells := 0, slots := 0, locals := 64 }) (va_Pc [.ref w, .int i] (ax_C dC dI sz [] [] (sxc_W w n cs (va_A [] sz)))) (va_Qi (fun (r : Int32) (_ : Unit) => narrow .char (.int r) = .int r ∧ r.toInt = (cs i.toNatClampNeg).toInt) (fun (_ : Unit) (t : State) => ax_B dC dI (va_A [] sz) [] [] t) (va_A [] sz)) 0 0 (va_A [] sz) := by
  refine Met.ofW (cc := cJ0_charAt_5068e) (maxL := 2) (ret := (some .char)) (by decide) rfl ?_
  intro p e s m args below meth c s₁ B hml hv
  obtain ⟨rfl, hsz, hP, hK, hD0, hE⟩ := hv
  have hx := B.exec
  have hb := B.bytes
  have hr := B.returns
  have hts := atoms_spec (ws := wsJ0_charAt_5068e) B.pre
  have hown : s.vm.findClass RJ0 = some m.cls := findClass_of_methodNamed B.named
  have hlocks := B.notSynchronized
  subst hsz
  have hD := hD0.self (sz := s.heap.size)
  generalize hAe : va_A [] s.heap.size = A at hD hE ⊢
  have hA : ∀ q : Nat, s.heap.size ≤ q → A q := fun q h => by rw [← hAe]; exact Or.inr h
  have hS : va_S A s.heap s.heap [] := va_S.rf
  have hP : va_P (dC, dI) vwCl [] s.heap := hP
  have hl := lv_entry ([.ref w, .int i]) (n := 2) (Nat.le_of_ble_eq_true rfl)
  rw [lg_entry_eq]
  generalize (lg_sl ([.ref w, .int i]) ++ List.replicate (2 - (lg_sl ([.ref w, .int i])).length) Slot.unset).toArray = ls at hl ⊢
  have hl : lv_has ls 2 [(0, .ref w), (1, .int i)] := hl
  obtain ⟨hz, hn, hO, hco, hcb, v, hv, hT⟩ := id hE
  refine lv_aload_n hx hb dJ0_charAt_5068e_0 rfl (lv_at hl 0 rfl) ?_
  have hFc := va_free (wc := []) hD hS hA [] rfl
  refine va_calli (va_runV (As := []) (rest := []) ⟨hx, hb, hml, hown, hts⟩ (f_J0_isLatin1_aae02 l dC dI s.heap.size w n cs) (cwV 0 hts gJ0_charAt_5068e_J0_isLatin1_aae02 rfl rfl rfl zd_J0_isLatin1_aae02 ⟨Nat.le_of_ble_eq_true rfl, Nat.le_of_ble_eq_true rfl⟩) ⟨ax_blind sxc_W_same, sxc_recv hE hS, ax_preE hP hK hD (fun U hU hW => sxc_W_to hE hS.2.1 hFc hU hW)⟩ rfl rfl hl.1 rfl (lv_room (Nat.le_of_ble_eq_true rfl)) dJ0_charAt_5068e_1 ⟨Nat.le_of_ble_eq_true rfl, Nat.le_of_ble_eq_true rfl⟩) hS (fun q _ h => hFc q h) hFc (fun r1 u t H1 locs ht hvm hw hB hz1 hk1 hS => ?_)
  obtain ⟨hP1, hK1, hD1⟩ := hB
  rw [ht] at hP1
  generalize H1 = H at hP1 hS ⊢
  have hP : va_P (dC, dI) vwCl [] H := hP1
  have hw : r1 = 1 := hw
  subst hw
  refine lv_if_eq (tgt := 16) hx hb dJ0_charAt_5068e_4 (by decide) (fun c9 => absurd c9 (by decide +kernel)) (fun _ => ?_)
  refine lv_aload_n hx hb dJ0_charAt_5068e_7 rfl (lv_at hl 0 rfl) ?_
  refine vk_getf hx hb hv hS hown (hts (.fieldLink RJ0 9 "java/lang/String" "value" "[B") (zm_J0_charAt_5068e_r1 (List.mem_of_getElem? (i := 0) rfl))) (fun _ h => h) dJ0_charAt_5068e_8 ?_
  refine lv_iload_n hx hb dJ0_charAt_5068e_11 rfl (lv_at hl 1 rfl) ?_
  have hFc := va_free (wc := []) hD hS hA [] rfl
  refine va_calli (va_runS (As := [.ref v, .int i]) (rest := []) ⟨hx, hb, hml, hown, hts⟩ (f_J1_charAt_3b067 l dC dI H.size v n cs i h0 hk) (va_cwS 2 hts gJ0_charAt_5068e_J1_charAt_3b067 rfl rfl rfl zd_J1_charAt_3b067.2 ⟨Nat.le_of_ble_eq_true rfl, Nat.le_of_ble_eq_true rfl⟩) ⟨ax_blind sx_V_same, ax_preE hP hK hD (fun U hU hW => sx_V_to (⟨hz, hn, hT⟩ : sx_V v n cs A s) hS.2.1 hFc hU hW)⟩ rfl rfl hl.1 rfl (lv_room (Nat.le_of_ble_eq_true rfl)) dJ0_charAt_5068e_12 ⟨Nat.le_of_ble_eq_true rfl, Nat.le_of_ble_eq_true rfl⟩) hS (fun q _ h => hFc q h) hFc (fun r12 u t H1 locs ht hvm hw hB hz1 hk1 hS => ?_)
  obtain ⟨hP1, hK1, hD1⟩ := hB
  rw [ht] at hP1
  generalize H1 = H at hP1 hS ⊢
  have hP : va_P (dC, dI) vwCl [] H := hP1
  exact W.zret (v := r12) hx hb hr hw.1 (fun t ht hW => ⟨⟨r12, (), rfl, ⟨hw.1, by rw [hw.2]; exact congrArg Int32.toInt (sxc_ch (hcb _ (by have e9 : i.toNatClampNeg = i.toInt.toNat := rfl; omega)))⟩, by rw [ht]; exact hP, va_K.moved hW.alike hK, hD⟩, hS.F ht⟩) hS.2.2 dJ0_charAt_5068e_15


def sxc_T (ad : Nat → Nat) (A : Nat → Prop) (U : State) : Prop := (∀ i : Nat, i < 36 → sxc_W (ad i) (sx_ln.getD i 0) (sxc i) A U) ∧ vk_R RX3 98 "gallery" (ad 0) U ∧ vk_R RX3 110 "law" (ad 1) U ∧ vk_R RX3 112 "figure" (ad 2) U ∧ vk_R RX3 114 "watche\x72" (ad 3) U ∧ vk_R RX3 116 "seen" (ad 4) U ∧ vk_R RX3 151 "figures" (ad 5) U ∧ vk_R RX3 159 "span" (ad 6) U ∧ vk_R RX3 163 "stairs" (ad 7) U ∧ vk_R RX3 168 "shut" (ad 8) U ∧ vk_R RX3 172 "times" (ad 9) U ∧ vk_R RX3 176 "plus" (ad 10) U ∧ vk_R RX3 180 "first" (ad 11) U ∧ vk_R RX3 187 "is" (ad 12) U ∧ vk_R RX3 199 "walks" (ad 13) U ∧ vk_R RX3 201 "speaks" (ad 14) U ∧ vk_R RX3 207 "from" (ad 15) U ∧ vk_R RX3 209 "to" (ad 16) U ∧ vk_R RX3 215 "at" (ad 17) U ∧ vk_R RX8 128 "gallery" (ad 18) U ∧ vk_R RX8 130 "law" (ad 19) U ∧ vk_R RX8 132 "figure" (ad 20) U ∧ vk_R RX8 134 "watche\x72" (ad 21) U ∧ vk_R RX8 136 "seen" (ad 22) U ∧ vk_R RX8 201 "figures" (ad 23) U ∧ vk_R RX8 207 "span" (ad 24) U ∧ vk_R RX8 209 "stairs" (ad 25) U ∧ vk_R RX8 211 "shut" (ad 26) U ∧ vk_R RX8 213 "times" (ad 27) U ∧ vk_R RX8 218 "plus" (ad 28) U ∧ vk_R RX8 220 "first" (ad 29) U ∧ vk_R RX8 226 "is" (ad 30) U ∧ vk_R RX8 228 "walks" (ad 31) U ∧ vk_R RX8 230 "speaks" (ad 32) U ∧ vk_R RX8 232 "from" (ad 33) U ∧ vk_R RX8 233 "to" (ad 34) U ∧ vk_R RX8 234 "at" (ad 35) U
theorem sxc_T_w {ad : Nat → Nat} {A : Nat → Prop} {U : State} (h : sxc_T ad A U) {i : Nat} (hi : i < 36) : sxc_W (ad i) (sx_ln.getD i 0) (sxc i) A U := h.1 i hi
theorem sxc_R0 {ad : Nat → Nat} {A : Nat → Prop} {U : State} (h : sxc_T ad A U) : vk_R RX3 98 "gallery" (ad 0) U := h.2.1
theorem sxc_R1 {ad : Nat → Nat} {A : Nat → Prop} {U : State} (h : sxc_T ad A U) : vk_R RX3 110 "law" (ad 1) U := h.2.2.1
theorem sxc_R2 {ad : Nat → Nat} {A : Nat → Prop} {U : State} (h : sxc_T ad A U) : vk_R RX3 112 "figure" (ad 2) U := h.2.2.2.1
theorem sxc_R3 {ad : Nat → Nat} {A : Nat → Prop} {U : State} (h : sxc_T ad A U) : vk_R RX3 114 "watche\x72" (ad 3) U := h.2.2.2.2.1
theorem sxc_R4 {ad : Nat → Nat} {A : Nat → Prop} {U : State} (h : sxc_T ad A U) : vk_R RX3 116 "seen" (ad 4) U := h.2.2.2.2.2.1
theorem sxc_R5 {ad : Nat → Nat} {A : Nat → Prop} {U : State} (h : sxc_T ad A U) : vk_R RX3 151 "figures" (ad 5) U := h.2.2.2.2.2.2.1
theorem sxc_R6 {ad : Nat → Nat} {A : Nat → Prop} {U : State} (h : sxc_T ad A U) : vk_R RX3 159 "span" (ad 6) U := h.2.2.2.2.2.2.2.1
theorem sxc_R7 {ad : Nat → Nat} {A : Nat → Prop} {U : State} (h : sxc_T ad A U) : vk_R RX3 163 "stairs" (ad 7) U := h.2.2.2.2.2.2.2.2.1
theorem sxc_R8 {ad : Nat → Nat} {A : Nat → Prop} {U : State} (h : sxc_T ad A U) : vk_R RX3 168 "shut" (ad 8) U := h.2.2.2.2.2.2.2.2.2.1
theorem sxc_R9 {ad : Nat → Nat} {A : Nat → Prop} {U : State} (h : sxc_T ad A U) : vk_R RX3 172 "times" (ad 9) U := h.2.2.2.2.2.2.2.2.2.2.1
theorem sxc_R10 {ad : Nat → Nat} {A : Nat → Prop} {U : State} (h : sxc_T ad A U) : vk_R RX3 176 "plus" (ad 10) U := h.2.2.2.2.2.2.2.2.2.2.2.1
theorem sxc_R11 {ad : Nat → Nat} {A : Nat → Prop} {U : State} (h : sxc_T ad A U) : vk_R RX3 180 "first" (ad 11) U := h.2.2.2.2.2.2.2.2.2.2.2.2.1
theorem sxc_R12 {ad : Nat → Nat} {A : Nat → Prop} {U : State} (h : sxc_T ad A U) : vk_R RX3 187 "is" (ad 12) U := h.2.2.2.2.2.2.2.2.2.2.2.2.2.1
theorem sxc_R13 {ad : Nat → Nat} {A : Nat → Prop} {U : State} (h : sxc_T ad A U) : vk_R RX3 199 "walks" (ad 13) U := h.2.2.2.2.2.2.2.2.2.2.2.2.2.2.1
theorem sxc_R14 {ad : Nat → Nat} {A : Nat → Prop} {U : State} (h : sxc_T ad A U) : vk_R RX3 201 "speaks" (ad 14) U := h.2.2.2.2.2.2.2.2.2.2.2.2.2.2.2.1
theorem sxc_R15 {ad : Nat → Nat} {A : Nat → Prop} {U : State} (h : sxc_T ad A U) : vk_R RX3 207 "from" (ad 15) U := h.2.2.2.2.2.2.2.2.2.2.2.2.2.2.2.2.1
theorem sxc_R16 {ad : Nat → Nat} {A : Nat → Prop} {U : State} (h : sxc_T ad A U) : vk_R RX3 209 "to" (ad 16) U := h.2.2.2.2.2.2.2.2.2.2.2.2.2.2.2.2.2.1
theorem sxc_R17 {ad : Nat → Nat} {A : Nat → Prop} {U : State} (h : sxc_T ad A U) : vk_R RX3 215 "at" (ad 17) U := h.2.2.2.2.2.2.2.2.2.2.2.2.2.2.2.2.2.2.1
theorem sxc_R18 {ad : Nat → Nat} {A : Nat → Prop} {U : State} (h : sxc_T ad A U) : vk_R RX8 128 "gallery" (ad 18) U := h.2.2.2.2.2.2.2.2.2.2.2.2.2.2.2.2.2.2.2.1
theorem sxc_R19 {ad : Nat → Nat} {A : Nat → Prop} {U : State} (h : sxc_T ad A U) : vk_R RX8 130 "law" (ad 19) U := h.2.2.2.2.2.2.2.2.2.2.2.2.2.2.2.2.2.2.2.2.1
theorem sxc_R20 {ad : Nat → Nat} {A : Nat → Prop} {U : State} (h : sxc_T ad A U) : vk_R RX8 132 "figure" (ad 20) U := h.2.2.2.2.2.2.2.2.2.2.2.2.2.2.2.2.2.2.2.2.2.1
theorem sxc_R21 {ad : Nat → Nat} {A : Nat → Prop} {U : State} (h : sxc_T ad A U) : vk_R RX8 134 "watche\x72" (ad 21) U := h.2.2.2.2.2.2.2.2.2.2.2.2.2.2.2.2.2.2.2.2.2.2.1
theorem sxc_R22 {ad : Nat → Nat} {A : Nat → Prop} {U : State} (h : sxc_T ad A U) : vk_R RX8 136 "seen" (ad 22) U := h.2.2.2.2.2.2.2.2.2.2.2.2.2.2.2.2.2.2.2.2.2.2.2.1
theorem sxc_R23 {ad : Nat → Nat} {A : Nat → Prop} {U : State} (h : sxc_T ad A U) : vk_R RX8 201 "figures" (ad 23) U := h.2.2.2.2.2.2.2.2.2.2.2.2.2.2.2.2.2.2.2.2.2.2.2.2.1
theorem sxc_R24 {ad : Nat → Nat} {A : Nat → Prop} {U : State} (h : sxc_T ad A U) : vk_R RX8 207 "span" (ad 24) U := h.2.2.2.2.2.2.2.2.2.2.2.2.2.2.2.2.2.2.2.2.2.2.2.2.2.1
theorem sxc_R25 {ad : Nat → Nat} {A : Nat → Prop} {U : State} (h : sxc_T ad A U) : vk_R RX8 209 "stairs" (ad 25) U := h.2.2.2.2.2.2.2.2.2.2.2.2.2.2.2.2.2.2.2.2.2.2.2.2.2.2.1
theorem sxc_R26 {ad : Nat → Nat} {A : Nat → Prop} {U : State} (h : sxc_T ad A U) : vk_R RX8 211 "shut" (ad 26) U := h.2.2.2.2.2.2.2.2.2.2.2.2.2.2.2.2.2.2.2.2.2.2.2.2.2.2.2.1
theorem sxc_R27 {ad : Nat → Nat} {A : Nat → Prop} {U : State} (h : sxc_T ad A U) : vk_R RX8 213 "times" (ad 27) U := h.2.2.2.2.2.2.2.2.2.2.2.2.2.2.2.2.2.2.2.2.2.2.2.2.2.2.2.2.1
theorem sxc_R28 {ad : Nat → Nat} {A : Nat → Prop} {U : State} (h : sxc_T ad A U) : vk_R RX8 218 "plus" (ad 28) U := h.2.2.2.2.2.2.2.2.2.2.2.2.2.2.2.2.2.2.2.2.2.2.2.2.2.2.2.2.2.1
theorem sxc_R29 {ad : Nat → Nat} {A : Nat → Prop} {U : State} (h : sxc_T ad A U) : vk_R RX8 220 "first" (ad 29) U := h.2.2.2.2.2.2.2.2.2.2.2.2.2.2.2.2.2.2.2.2.2.2.2.2.2.2.2.2.2.2.1
theorem sxc_R30 {ad : Nat → Nat} {A : Nat → Prop} {U : State} (h : sxc_T ad A U) : vk_R RX8 226 "is" (ad 30) U := h.2.2.2.2.2.2.2.2.2.2.2.2.2.2.2.2.2.2.2.2.2.2.2.2.2.2.2.2.2.2.2.1
theorem sxc_R31 {ad : Nat → Nat} {A : Nat → Prop} {U : State} (h : sxc_T ad A U) : vk_R RX8 228 "walks" (ad 31) U := h.2.2.2.2.2.2.2.2.2.2.2.2.2.2.2.2.2.2.2.2.2.2.2.2.2.2.2.2.2.2.2.2.1
theorem sxc_R32 {ad : Nat → Nat} {A : Nat → Prop} {U : State} (h : sxc_T ad A U) : vk_R RX8 230 "speaks" (ad 32) U := h.2.2.2.2.2.2.2.2.2.2.2.2.2.2.2.2.2.2.2.2.2.2.2.2.2.2.2.2.2.2.2.2.2.1
theorem sxc_R33 {ad : Nat → Nat} {A : Nat → Prop} {U : State} (h : sxc_T ad A U) : vk_R RX8 232 "from" (ad 33) U := h.2.2.2.2.2.2.2.2.2.2.2.2.2.2.2.2.2.2.2.2.2.2.2.2.2.2.2.2.2.2.2.2.2.2.1
theorem sxc_R34 {ad : Nat → Nat} {A : Nat → Prop} {U : State} (h : sxc_T ad A U) : vk_R RX8 233 "to" (ad 34) U := h.2.2.2.2.2.2.2.2.2.2.2.2.2.2.2.2.2.2.2.2.2.2.2.2.2.2.2.2.2.2.2.2.2.2.2.1
theorem sxc_R35 {ad : Nat → Nat} {A : Nat → Prop} {U : State} (h : sxc_T ad A U) : vk_R RX8 234 "at" (ad 35) U := h.2.2.2.2.2.2.2.2.2.2.2.2.2.2.2.2.2.2.2.2.2.2.2.2.2.2.2.2.2.2.2.2.2.2.2.2
theorem sxc_T_same {ad : Nat → Nat} {A : Nat → Prop} (a : Array Value) (U : State) (g : JFrame) (mk : MethodId) (h : sxc_T ad A U) : sxc_T ad A (U.calling g mk a) := ⟨fun i hi => sxc_W_same a U g mk (h.1 i hi), vk_R.same rfl (h.2.1), vk_R.same rfl (h.2.2.1), vk_R.same rfl (h.2.2.2.1), vk_R.same rfl (h.2.2.2.2.1), vk_R.same rfl (h.2.2.2.2.2.1), vk_R.same rfl (h.2.2.2.2.2.2.1), vk_R.same rfl (h.2.2.2.2.2.2.2.1), vk_R.same rfl (h.2.2.2.2.2.2.2.2.1), vk_R.same rfl (h.2.2.2.2.2.2.2.2.2.1), vk_R.same rfl (h.2.2.2.2.2.2.2.2.2.2.1), vk_R.same rfl (h.2.2.2.2.2.2.2.2.2.2.2.1), vk_R.same rfl (h.2.2.2.2.2.2.2.2.2.2.2.2.1), vk_R.same rfl (h.2.2.2.2.2.2.2.2.2.2.2.2.2.1), vk_R.same rfl (h.2.2.2.2.2.2.2.2.2.2.2.2.2.2.1), vk_R.same rfl (h.2.2.2.2.2.2.2.2.2.2.2.2.2.2.2.1), vk_R.same rfl (h.2.2.2.2.2.2.2.2.2.2.2.2.2.2.2.2.1), vk_R.same rfl (h.2.2.2.2.2.2.2.2.2.2.2.2.2.2.2.2.2.1), vk_R.same rfl (h.2.2.2.2.2.2.2.2.2.2.2.2.2.2.2.2.2.2.1), vk_R.same rfl (h.2.2.2.2.2.2.2.2.2.2.2.2.2.2.2.2.2.2.2.1), vk_R.same rfl (h.2.2.2.2.2.2.2.2.2.2.2.2.2.2.2.2.2.2.2.2.1), vk_R.same rfl (h.2.2.2.2.2.2.2.2.2.2.2.2.2.2.2.2.2.2.2.2.2.1), vk_R.same rfl (h.2.2.2.2.2.2.2.2.2.2.2.2.2.2.2.2.2.2.2.2.2.2.1), vk_R.same rfl (h.2.2.2.2.2.2.2.2.2.2.2.2.2.2.2.2.2.2.2.2.2.2.2.1), vk_R.same rfl (h.2.2.2.2.2.2.2.2.2.2.2.2.2.2.2.2.2.2.2.2.2.2.2.2.1), vk_R.same rfl (h.2.2.2.2.2.2.2.2.2.2.2.2.2.2.2.2.2.2.2.2.2.2.2.2.2.1), vk_R.same rfl (h.2.2.2.2.2.2.2.2.2.2.2.2.2.2.2.2.2.2.2.2.2.2.2.2.2.2.1), vk_R.same rfl (h.2.2.2.2.2.2.2.2.2.2.2.2.2.2.2.2.2.2.2.2.2.2.2.2.2.2.2.1), vk_R.same rfl (h.2.2.2.2.2.2.2.2.2.2.2.2.2.2.2.2.2.2.2.2.2.2.2.2.2.2.2.2.1), vk_R.same rfl (h.2.2.2.2.2.2.2.2.2.2.2.2.2.2.2.2.2.2.2.2.2.2.2.2.2.2.2.2.2.1), vk_R.same rfl (h.2.2.2.2.2.2.2.2.2.2.2.2.2.2.2.2.2.2.2.2.2.2.2.2.2.2.2.2.2.2.1), vk_R.same rfl (h.2.2.2.2.2.2.2.2.2.2.2.2.2.2.2.2.2.2.2.2.2.2.2.2.2.2.2.2.2.2.2.1), vk_R.same rfl (h.2.2.2.2.2.2.2.2.2.2.2.2.2.2.2.2.2.2.2.2.2.2.2.2.2.2.2.2.2.2.2.2.1), vk_R.same rfl (h.2.2.2.2.2.2.2.2.2.2.2.2.2.2.2.2.2.2.2.2.2.2.2.2.2.2.2.2.2.2.2.2.2.1), vk_R.same rfl (h.2.2.2.2.2.2.2.2.2.2.2.2.2.2.2.2.2.2.2.2.2.2.2.2.2.2.2.2.2.2.2.2.2.2.1), vk_R.same rfl (h.2.2.2.2.2.2.2.2.2.2.2.2.2.2.2.2.2.2.2.2.2.2.2.2.2.2.2.2.2.2.2.2.2.2.2.1), vk_R.same rfl (h.2.2.2.2.2.2.2.2.2.2.2.2.2.2.2.2.2.2.2.2.2.2.2.2.2.2.2.2.2.2.2.2.2.2.2.2)⟩
theorem sxc_T_to {ad : Nat → Nat} {A B : Nat → Prop} {s U : State} {H : Heap} (h : sxc_T ad A s) (hq : ∀ a : Nat, a < s.heap.size → ¬ A a → H[a]? = s.heap[a]?) (hAB : ∀ q, B q → A q) (hU : U.heap = H) (hW : s.WarmedH U.vm) : sxc_T ad B U := ⟨fun i hi => sxc_W_to (h.1 i hi) hq hAB hU hW, vk_R.warm hW (h.2.1), vk_R.warm hW (h.2.2.1), vk_R.warm hW (h.2.2.2.1), vk_R.warm hW (h.2.2.2.2.1), vk_R.warm hW (h.2.2.2.2.2.1), vk_R.warm hW (h.2.2.2.2.2.2.1), vk_R.warm hW (h.2.2.2.2.2.2.2.1), vk_R.warm hW (h.2.2.2.2.2.2.2.2.1), vk_R.warm hW (h.2.2.2.2.2.2.2.2.2.1), vk_R.warm hW (h.2.2.2.2.2.2.2.2.2.2.1), vk_R.warm hW (h.2.2.2.2.2.2.2.2.2.2.2.1), vk_R.warm hW (h.2.2.2.2.2.2.2.2.2.2.2.2.1), vk_R.warm hW (h.2.2.2.2.2.2.2.2.2.2.2.2.2.1), vk_R.warm hW (h.2.2.2.2.2.2.2.2.2.2.2.2.2.2.1), vk_R.warm hW (h.2.2.2.2.2.2.2.2.2.2.2.2.2.2.2.1), vk_R.warm hW (h.2.2.2.2.2.2.2.2.2.2.2.2.2.2.2.2.1), vk_R.warm hW (h.2.2.2.2.2.2.2.2.2.2.2.2.2.2.2.2.2.1), vk_R.warm hW (h.2.2.2.2.2.2.2.2.2.2.2.2.2.2.2.2.2.2.1), vk_R.warm hW (h.2.2.2.2.2.2.2.2.2.2.2.2.2.2.2.2.2.2.2.1), vk_R.warm hW (h.2.2.2.2.2.2.2.2.2.2.2.2.2.2.2.2.2.2.2.2.1), vk_R.warm hW (h.2.2.2.2.2.2.2.2.2.2.2.2.2.2.2.2.2.2.2.2.2.1), vk_R.warm hW (h.2.2.2.2.2.2.2.2.2.2.2.2.2.2.2.2.2.2.2.2.2.2.1), vk_R.warm hW (h.2.2.2.2.2.2.2.2.2.2.2.2.2.2.2.2.2.2.2.2.2.2.2.1), vk_R.warm hW (h.2.2.2.2.2.2.2.2.2.2.2.2.2.2.2.2.2.2.2.2.2.2.2.2.1), vk_R.warm hW (h.2.2.2.2.2.2.2.2.2.2.2.2.2.2.2.2.2.2.2.2.2.2.2.2.2.1), vk_R.warm hW (h.2.2.2.2.2.2.2.2.2.2.2.2.2.2.2.2.2.2.2.2.2.2.2.2.2.2.1), vk_R.warm hW (h.2.2.2.2.2.2.2.2.2.2.2.2.2.2.2.2.2.2.2.2.2.2.2.2.2.2.2.1), vk_R.warm hW (h.2.2.2.2.2.2.2.2.2.2.2.2.2.2.2.2.2.2.2.2.2.2.2.2.2.2.2.2.1), vk_R.warm hW (h.2.2.2.2.2.2.2.2.2.2.2.2.2.2.2.2.2.2.2.2.2.2.2.2.2.2.2.2.2.1), vk_R.warm hW (h.2.2.2.2.2.2.2.2.2.2.2.2.2.2.2.2.2.2.2.2.2.2.2.2.2.2.2.2.2.2.1), vk_R.warm hW (h.2.2.2.2.2.2.2.2.2.2.2.2.2.2.2.2.2.2.2.2.2.2.2.2.2.2.2.2.2.2.2.1), vk_R.warm hW (h.2.2.2.2.2.2.2.2.2.2.2.2.2.2.2.2.2.2.2.2.2.2.2.2.2.2.2.2.2.2.2.2.1), vk_R.warm hW (h.2.2.2.2.2.2.2.2.2.2.2.2.2.2.2.2.2.2.2.2.2.2.2.2.2.2.2.2.2.2.2.2.2.1), vk_R.warm hW (h.2.2.2.2.2.2.2.2.2.2.2.2.2.2.2.2.2.2.2.2.2.2.2.2.2.2.2.2.2.2.2.2.2.2.1), vk_R.warm hW (h.2.2.2.2.2.2.2.2.2.2.2.2.2.2.2.2.2.2.2.2.2.2.2.2.2.2.2.2.2.2.2.2.2.2.2.1), vk_R.warm hW (h.2.2.2.2.2.2.2.2.2.2.2.2.2.2.2.2.2.2.2.2.2.2.2.2.2.2.2.2.2.2.2.2.2.2.2.2)⟩
end SXC
end P222_sxc
section P225_ref
section REF
/-- rows of 23, each as a state has it -/
def md_S (f : Nat → Int32) : Prop := ∀ j : Nat, ((∀ k : Nat, 0 ≤ k → k ≤ 8 → (0 : Int) ≤ (f (23 * j + k)).toInt ∧ (f (23 * j + k)).toInt ≤ 8) ∧ (∀ k : Nat, 19 ≤ k → k ≤ 19 → (0 : Int) ≤ (f (23 * j + k)).toInt ∧ (f (23 * j + k)).toInt ≤ 8) ∧ (∀ k : Nat, 20 ≤ k → k ≤ 20 → (0 : Int) ≤ (f (23 * j + k)).toInt ∧ (f (23 * j + k)).toInt ≤ 19))
theorem md_sh {f : Nat → Int32} {i k v : Int32} (h : md_S f) (ev : v = f k.toNatClampNeg) (hk : k.toInt = i.toInt + 23) (h0 : (0 : Int) ≤ i.toInt) : md_S (upd f i.toNatClampNeg v) := by
  have e1 : k.toNatClampNeg = i.toNatClampNeg + 23 := by
    have a1 : k.toNatClampNeg = k.toInt.toNat := rfl
    have a2 : i.toNatClampNeg = i.toInt.toNat := rfl
    omega
  have q : ∀ (j r : Nat) (P : Int32 → Prop), (∀ j, P (f (23 * j + r))) → P (upd f i.toNatClampNeg v (23 * j + r)) := by
    intro j r P hp
    unfold upd
    split
    · rename_i e
      have e3 : k.toNatClampNeg = 23 * (j + 1) + r := by omega
      rw [ev, e3]; exact hp (j + 1)
    · exact hp j
  intro j
  refine ⟨fun r a b => q j r (fun x => (0 : Int) ≤ x.toInt ∧ x.toInt ≤ 8) (fun j => (h j).1 r a b), fun r a b => q j r (fun x => (0 : Int) ≤ x.toInt ∧ x.toInt ≤ 8) (fun j => (h j).2.1 r a b), fun r a b => q j r (fun x => (0 : Int) ≤ x.toInt ∧ x.toInt ≤ 19) (fun j => (h j).2.2 r a b)⟩
theorem md_0 : md_S (fun _ => 0) := fun j => ⟨fun _ _ _ => zq165, fun _ _ _ => zq165, fun _ _ _ => zq166⟩
theorem md_ix {x u : Int32} (h : x.toInt = 23 * u.toInt) (h0 : (0 : Int) ≤ u.toInt) : x.toNatClampNeg = 23 * u.toNatClampNeg := by
  have a1 : x.toNatClampNeg = x.toInt.toNat := rfl
  have a2 : u.toNatClampNeg = u.toInt.toNat := rfl
  omega
theorem cp_0 {f g : Nat → Int32} {sp dp n : Nat} (h : n = 0) : g = va_cpy f g sp dp n := by
  funext m; rw [pk_cpy_out (by omega)]
theorem cp_s {f g h h' : Nat → Int32} {sp dp : Nat} {k k2 i j v : Int32} (hh : h = va_cpy f g sp dp k.toNatClampNeg) (e1 : h' = upd h i.toNatClampNeg v) (e2 : v = f j.toNatClampNeg) (hi : i.toNatClampNeg = dp + k.toNatClampNeg) (hj : j.toNatClampNeg = sp + k.toNatClampNeg) (hk : k2.toNatClampNeg = k.toNatClampNeg + 1) : h' = va_cpy f g sp dp k2.toNatClampNeg := by
  rw [e1, hh, e2, hk, hi, hj]
  generalize k.toNatClampNeg = n
  funext m
  unfold upd
  split
  · rename_i e
    rw [pk_cpy_in (by omega) (by omega)]
    exact congrArg f (by omega)
  · rename_i e
    by_cases h2 : dp ≤ m ∧ m < dp + n
    · rw [pk_cpy_in h2.1 h2.2, pk_cpy_in h2.1 (by omega)]
    · rw [pk_cpy_out (by omega), pk_cpy_out (by omega)]
theorem cp_i {i a k : Int32} (h : i.toInt = a.toInt + k.toInt) (ha : (0 : Int) ≤ a.toInt) (hk : (0 : Int) ≤ k.toInt) : i.toNatClampNeg = a.toNatClampNeg + k.toNatClampNeg := by
  have a1 : i.toNatClampNeg = i.toInt.toNat := rfl
  have a2 : a.toNatClampNeg = a.toInt.toNat := rfl
  have a3 : k.toNatClampNeg = k.toInt.toNat := rfl
  omega
theorem cp_k {k2 k : Int32} (h : k2.toInt = k.toInt + 1) (hk : (0 : Int) ≤ k.toInt) : k2.toNatClampNeg = k.toNatClampNeg + 1 := by
  have a1 : k2.toNatClampNeg = k2.toInt.toNat := rfl
  have a3 : k.toNatClampNeg = k.toInt.toNat := rfl
  omega
theorem cp_e {k : Int32} {n : Nat} (h : k.toInt = (n : Int)) : k.toNatClampNeg = n := by
  have a3 : k.toNatClampNeg = k.toInt.toNat := rfl
  omega
theorem cp_SS {f g h : Nat → Int32} {sp dp : Nat} (e : h = va_cpy f g sp dp 23) (h1 : sp = 0) (h2 : dp = 0) (hf : ((∀ k : Nat, 0 ≤ k → k ≤ 8 → (0 : Int) ≤ (f k).toInt ∧ (f k).toInt ≤ 8) ∧ (∀ k : Nat, 19 ≤ k → k ≤ 19 → (0 : Int) ≤ (f k).toInt ∧ (f k).toInt ≤ 8) ∧ (∀ k : Nat, 20 ≤ k → k ≤ 20 → (0 : Int) ≤ (f k).toInt ∧ (f k).toInt ≤ 19))) : ((∀ k : Nat, 0 ≤ k → k ≤ 8 → (0 : Int) ≤ (h k).toInt ∧ (h k).toInt ≤ 8) ∧ (∀ k : Nat, 19 ≤ k → k ≤ 19 → (0 : Int) ≤ (h k).toInt ∧ (h k).toInt ≤ 8) ∧ (∀ k : Nat, 20 ≤ k → k ≤ 20 → (0 : Int) ≤ (h k).toInt ∧ (h k).toInt ≤ 19)) := by
  have q : ∀ k : Nat, k < 23 → h k = f k := fun k hk => by rw [e, pk_cpy_in (by omega) (by omega)]; exact congrArg f (by omega)
  exact ⟨fun k a b => by rw [q k (by omega)]; exact hf.1 k a b, fun k a b => by rw [q k (by omega)]; exact hf.2.1 k a b, fun k a b => by rw [q k (by omega)]; exact hf.2.2 k a b⟩
theorem cp_SM {f g h : Nat → Int32} {sp dp u : Nat} (e : h = va_cpy f g sp dp 23) (h1 : sp = 0) (h2 : dp = 23 * u) (hf : ((∀ k : Nat, 0 ≤ k → k ≤ 8 → (0 : Int) ≤ (f k).toInt ∧ (f k).toInt ≤ 8) ∧ (∀ k : Nat, 19 ≤ k → k ≤ 19 → (0 : Int) ≤ (f k).toInt ∧ (f k).toInt ≤ 8) ∧ (∀ k : Nat, 20 ≤ k → k ≤ 20 → (0 : Int) ≤ (f k).toInt ∧ (f k).toInt ≤ 19))) (hg : md_S g) : md_S h := by
  intro j
  by_cases hj : j = u
  · have q : ∀ k : Nat, k < 23 → h (23 * j + k) = f k := fun k hk => by rw [e, pk_cpy_in (by omega) (by omega)]; exact congrArg f (by omega)
    exact ⟨fun k a b => by rw [q k (by omega)]; exact hf.1 k a b, fun k a b => by rw [q k (by omega)]; exact hf.2.1 k a b, fun k a b => by rw [q k (by omega)]; exact hf.2.2 k a b⟩
  · have q : ∀ k : Nat, k < 23 → h (23 * j + k) = g (23 * j + k) := fun k hk => by rw [e, pk_cpy_out (by omega)]
    have hg := hg j
    exact ⟨fun k a b => by rw [q k (by omega)]; exact hg.1 k a b, fun k a b => by rw [q k (by omega)]; exact hg.2.1 k a b, fun k a b => by rw [q k (by omega)]; exact hg.2.2 k a b⟩
theorem cp_MS {f g h : Nat → Int32} {sp dp u : Nat} (e : h = va_cpy f g sp dp 23) (h1 : sp = 23 * u) (h2 : dp = 0) (hf : md_S f) : ((∀ k : Nat, 0 ≤ k → k ≤ 8 → (0 : Int) ≤ (h k).toInt ∧ (h k).toInt ≤ 8) ∧ (∀ k : Nat, 19 ≤ k → k ≤ 19 → (0 : Int) ≤ (h k).toInt ∧ (h k).toInt ≤ 8) ∧ (∀ k : Nat, 20 ≤ k → k ≤ 20 → (0 : Int) ≤ (h k).toInt ∧ (h k).toInt ≤ 19)) := by
  have q : ∀ k : Nat, k < 23 → h k = f (23 * u + k) := fun k hk => by rw [e, pk_cpy_in (by omega) (by omega)]; exact congrArg f (by omega)
  have hf := hf u
  exact ⟨fun k a b => by rw [q k (by omega)]; exact hf.1 k a b, fun k a b => by rw [q k (by omega)]; exact hf.2.1 k a b, fun k a b => by rw [q k (by omega)]; exact hf.2.2 k a b⟩
/-- the first n entries are apart, each 0 .. 8 -/
def gr_D (row : Nat → Int32) (n : Nat) : Prop := (∀ i j : Nat, i < n → j < n → row i = row j → i = j) ∧ ∀ i : Nat, i < n → (0 : Int) ≤ (row i).toInt ∧ (row i).toInt ≤ 8
theorem pg_nat : ∀ (m n : Nat) (f : Nat → Nat), (∀ i j : Nat, i < n → j < n → f i = f j → i = j) → (∀ i : Nat, i < n → f i < m) → n ≤ m := by
  intro m
  induction m with
  | zero =>
    intro n f _ hb
    cases n with
    | zero => exact Nat.le_refl _
    | succ n => exact absurd (hb 0 (by omega)) (by omega)
  | succ m ih =>
    intro n f hi hb
    by_cases h : ∃ i, i < n ∧ f i = m
    · obtain ⟨i0, h0, e0⟩ := h
      have g1 : ∀ i, i < n - 1 → (if i < i0 then i else i + 1) < n := fun i h9 => by split <;> omega
      have g2 : ∀ i, (if i < i0 then i else i + 1) ≠ i0 := fun i => by split <;> omega
      have g3 : ∀ i j, (if i < i0 then i else i + 1) = (if j < i0 then j else j + 1) → i = j := fun i j h9 => by split at h9 <;> split at h9 <;> omega
      have h1 := ih (n - 1) (fun i => f (if i < i0 then i else i + 1)) (fun i j a b e => g3 i j (hi _ _ (g1 i a) (g1 j b) e)) (fun i a => by
        have h2 := hb _ (g1 i a)
        have h3 : f (if i < i0 then i else i + 1) ≠ m := fun e => g2 i (hi _ _ (g1 i a) h0 (e.trans e0.symm))
        show f (if i < i0 then i else i + 1) < m
        omega)
      omega
    · have h1 := ih n f hi (fun i a => by
        have h2 := hb i a
        have h3 : f i ≠ m := fun e => h ⟨i, a, e⟩
        omega)
      omega
theorem gr_le {row : Nat → Int32} {n : Nat} (h : gr_D row n) : n ≤ 9 :=
  pg_nat 9 n (fun i => (row i).toInt.toNat) (fun i j a b e => h.1 i j a b (by
    have h1 := h.2 i a
    have h2 := h.2 j b
    have e : (row i).toInt.toNat = (row j).toInt.toNat := e
    exact Int32.toInt_inj.mp (by omega))) (fun i a => by
    have h1 := h.2 i a
    show (row i).toInt.toNat < 9
    omega)
theorem gr_i {row : Nat → Int32} {n : Int32} (h : gr_D row n.toNatClampNeg) : n.toInt ≤ 9 := by
  have a3 : n.toNatClampNeg = n.toInt.toNat := rfl
  have h1 := gr_le h
  omega
theorem gr_z0 {row : Nat → Int32} {n : Nat} (h : n = 0) : gr_D row n := ⟨fun i j a => by omega, fun i a => by omega⟩
theorem gr_s {row row' : Nat → Int32} {n n2 f : Int32} (h : gr_D row n.toNatClampNeg) (hne : ∀ i : Nat, i < n.toNatClampNeg → row i ≠ f) (e : row' = upd row n.toNatClampNeg f) (hf : (0 : Int) ≤ f.toInt) (hf2 : f.toInt ≤ 8) (hk : n2.toInt = n.toInt + 1) (h0 : (0 : Int) ≤ n.toInt) : gr_D row' n2.toNatClampNeg := by
  rw [cp_k hk h0, e]
  generalize n.toNatClampNeg = m at *
  refine ⟨fun i j a b q => ?_, fun i a => ?_⟩
  · unfold upd at q
    split at q <;> split at q
    · omega
    · rename_i e1 e2; exact absurd q.symm (hne j (by omega))
    · rename_i e1 e2; exact absurd q (hne i (by omega))
    · exact h.1 i j (by omega) (by omega) q
  · unfold upd; split
    · exact ⟨hf, hf2⟩
    · exact h.2 i (by omega)
/-- settled so far -/
def gr_K (row : Nat → Int32) (s k f n : Int32) : Prop := (s.toInt = -1 ∧ ∀ i : Nat, i < k.toNatClampNeg → row i ≠ f) ∨ ((0 : Int) ≤ s.toInt ∧ s.toInt < n.toInt)
theorem gr_K0 {row : Nat → Int32} {s k f n : Int32} (h : s.toInt = -1) (hk : k.toNatClampNeg = 0) : gr_K row s k f n := Or.inl ⟨h, fun i a => by omega⟩
theorem gr_Ks {row : Nat → Int32} {s k k2 f n x : Int32} (h : gr_K row s k f n) (ex : x = row k.toNatClampNeg) (hne : ¬ x = f) (hk : k2.toInt = k.toInt + 1) (h0 : (0 : Int) ≤ k.toInt) : gr_K row s k2 f n := by
  rcases h with h | h
  · refine Or.inl ⟨h.1, fun i a => ?_⟩
    rw [cp_k hk h0] at a
    by_cases e : i = k.toNatClampNeg
    · rw [e, ← ex]; exact hne
    · exact h.2 i (by omega)
  · exact Or.inr h
theorem gr_Kn {row : Nat → Int32} {s k f n : Int32} (h : gr_K row s k f n) (hs : s.toInt < 0) (hk : n.toInt ≤ k.toInt) : ∀ i : Nat, i < n.toNatClampNeg → row i ≠ f := by
  rcases h with h | h
  · intro i a
    have a1 : k.toNatClampNeg = k.toInt.toNat := rfl
    have a2 : n.toNatClampNeg = n.toInt.toNat := rfl
    exact h.2 i (by omega)
  · omega
theorem gr_Km {row : Nat → Int32} {s k f n : Int32} (h : gr_K row s k f n) (hs : s.toInt < 0) : s.toInt = -1 := by
  rcases h with h | h
  · exact h.1
  · omega
theorem gr_Kp {row : Nat → Int32} {s k f n : Int32} (h : gr_K row s k f n) (hs : (0 : Int) ≤ s.toInt) : s.toInt < n.toInt := by
  rcases h with h | h <;> omega
/-- no entry of the nine is gone or more -/
def tb_M (f : Nat → Int32) (g : Int) : Prop := ∀ i : Nat, i ≤ 8 → (-1 : Int) ≤ (f i).toInt ∧ (f i).toInt < g
theorem tb_f {f g : Nat → Int32} {k k2 v : Int32} (h : ∀ i : Nat, i < k.toNatClampNeg → (f i).toInt = -1) (e : g = upd f k.toNatClampNeg v) (hv : v.toInt = -1) (hk : k2.toInt = k.toInt + 1) (h0 : (0 : Int) ≤ k.toInt) : ∀ i : Nat, i < k2.toNatClampNeg → (g i).toInt = -1 := by
  intro i a
  rw [cp_k hk h0] at a
  rw [e]; unfold upd; split
  · exact hv
  · exact h i (by omega)
theorem tb_0 {f : Nat → Int32} {k : Int32} {g : Int} (h : ∀ i : Nat, i < k.toNatClampNeg → (f i).toInt = -1) (hk : (9 : Int) ≤ k.toInt) (hg : g = 0) : tb_M f g := by
  intro i a
  have a1 : k.toNatClampNeg = k.toInt.toNat := rfl
  have h1 := h i (by omega)
  omega
theorem tb_s {f f' : Nat → Int32} {j g g2 : Int32} (h : tb_M f g.toInt) (e : f' = upd f j.toNatClampNeg g) (hg : g2.toInt = g.toInt + 1) (h0 : (0 : Int) ≤ g.toInt) : tb_M f' g2.toInt := by
  intro i a
  rw [e]; unfold upd; split
  · omega
  · have h1 := h i a; omega
theorem tb_r {f : Nat → Int32} {j x : Int32} {g : Int} (h : tb_M f g) (ex : x = f j.toNatClampNeg) (h0 : (0 : Int) ≤ j.toInt) (h1 : j.toInt ≤ 8) : (-1 : Int) ≤ x.toInt ∧ x.toInt < g := by
  have a1 : j.toNatClampNeg = j.toInt.toNat := rfl
  rw [ex]; exact h _ (by omega)
theorem tb_c {t f p F y z w : Int32} (ht : t.toInt = 0) (ey : y.toInt = t.toInt * f.toInt) (ez : z.toInt = y.toInt + p.toInt) (ew : w.toInt = z.toInt % F.toInt) (h0 : (0 : Int) ≤ p.toInt) (hp : p.toInt < F.toInt) : w.toInt = p.toInt := by
  rw [ht, Int.zero_mul] at ey
  have e : z.toInt = p.toInt := by omega
  rw [ew, e]; exact Int.emod_eq_of_lt h0 hp
theorem bc_ok {F p c : Int} (h1 : 2 ≤ F) (h2 : F ≤ 9) (h3 : 0 ≤ p) (h4 : p < F) (hc : c = p * F + p) : c / (F * F) = 0 ∧ c / F % F = p ∧ c % F = p := by
  have h5 : c / F = p := by rcases (show F = 2 ∨ F = 3 ∨ F = 4 ∨ F = 5 ∨ F = 6 ∨ F = 7 ∨ F = 8 ∨ F = 9 by omega) with e | e | e | e | e | e | e | e <;> subst e <;> omega
  have h6 : c / (F * F) = 0 := by rcases (show F = 2 ∨ F = 3 ∨ F = 4 ∨ F = 5 ∨ F = 6 ∨ F = 7 ∨ F = 8 ∨ F = 9 by omega) with e | e | e | e | e | e | e | e <;> subst e <;> omega
  have h7 : c % F = p := by rcases (show F = 2 ∨ F = 3 ∨ F = 4 ∨ F = 5 ∨ F = 6 ∨ F = 7 ∨ F = 8 ∨ F = 9 by omega) with e | e | e | e | e | e | e | e <;> subst e <;> omega
  exact ⟨h6, by rw [h5]; exact Int.emod_eq_of_lt h3 h4, h7⟩
theorem lw_mod {x y : Int64} (hy : ¬ y = 0) : (x - x / y * y).toInt.natAbs < y.toInt.natAbs := by
  have hY : y.toInt ≠ 0 := fun h => hy (Int64.toInt_inj.mp (h.trans (by decide)))
  have e : (x - x / y * y).toInt = (x.toInt.tmod y.toInt).bmod (2 ^ 64) := by
    rw [Int64.toInt_sub, Int64.toInt_mul, Int64.toInt_div, Int.tmod_def, Int.sub_bmod_bmod, ← Int.sub_bmod_bmod, Int.bmod_mul_bmod, Int.sub_bmod_bmod, Int.mul_comm y.toInt]
  have h1 : (x.toInt.tmod y.toInt).natAbs = x.toInt.natAbs % y.toInt.natAbs := Int.natAbs_tmod _ _
  have h2 := Nat.mod_lt x.toInt.natAbs (show 0 < y.toInt.natAbs by omega)
  have h3 := Int64.le_toInt y
  have h4 := Int64.toInt_lt y
  rw [e, Int.bmod_eq_of_le (by omega) (by omega)]
  omega
theorem lw_b (y : Int64) : y.toInt.natAbs < 9223372036854775809 := by
  have h3 := Int64.le_toInt y
  have h4 := Int64.toInt_lt y
  omega
theorem sh_1 {y z : Int32} (e : z = 1 <<< (y &&& 31)) (h0 : (0 : Int) ≤ y.toInt) (h1 : y.toInt ≤ 9) : (1 : Int) ≤ z.toInt ∧ z.toInt ≤ 512 := by
  have q : ∀ k : Fin 10, (1 : Int) ≤ ((1 : Int32) <<< (Int32.ofNat k.val &&& 31)).toInt ∧ ((1 : Int32) <<< (Int32.ofNat k.val &&& 31)).toInt ≤ 512 := by decide
  have e2 : y = Int32.ofNat y.toInt.toNat := Int32.toInt_inj.mp (by rw [show (Int32.ofNat y.toInt.toNat).toInt = (y.toInt.toNat : Int) from nI_toInt (by omega)]; omega)
  rw [e, e2]; exact q ⟨y.toInt.toNat, by omega⟩
theorem tb_z {f : Nat → Int32} {n : Nat} (h : n = 0) : ∀ i : Nat, i < n → (f i).toInt = -1 := fun i a => by omega
theorem lf_s {code code2 r a : Int32} {F : Int} (h : code.toInt ≤ a.toInt * F + a.toInt) (hw : ∀ p : Int, 0 ≤ p → p < F → code.toInt = p * F + p → r.toInt = p) (hne : ¬ r = a) (h0 : 0 ≤ a.toInt) (h1 : a.toInt < F) (hc : code2.toInt = code.toInt + 1) : code2.toInt ≤ a.toInt * F + a.toInt := by
  have h2 : code.toInt ≠ a.toInt * F + a.toInt := fun e => hne (Int32.toInt_inj.mp (hw _ h0 h1 e))
  omega
theorem lf_b {a : Int32} {c F : Int} (h : c ≤ a.toInt * F + a.toInt) (h0 : 0 ≤ a.toInt) (h1 : a.toInt ≤ 8) (h2 : 0 ≤ F) (h3 : F ≤ 9) : c ≤ 80 := by
  have h4 : a.toInt * F ≤ 8 * 9 := Int.mul_le_mul h1 h3 h2 (by decide)
  omega
theorem lf_0 {a : Int32} {F : Int} (h0 : 0 ≤ a.toInt) (h2 : 0 ≤ F) : (0 : Int32).toInt ≤ a.toInt * F + a.toInt := by
  have h4 := Int.mul_nonneg h0 h2
  have h5 : (0 : Int32).toInt = 0 := by decide
  omega
end REF
end P225_ref
section P226_good
set_option maxRecDepth 20000 in
theorem gX8_begin_X8_watchAsTold : GoodIn wsX8_begin (wsV RX8 267 RX8 yX8_watchAsTold wsX8_watchAsTold) := goodIn_s _ [(3, 9), (15, 40)] rfl (by decide +kernel)
set_option maxRecDepth 20000 in
theorem gX8_begin_X8_copy : GoodIn wsX8_begin (va_wsS RX8 169 yX8_copy wsX8_copy) := goodIn_s _ [(12, 2), (6, 1), (14, 1)] rfl (by decide +kernel)
set_option maxRecDepth 20000 in
theorem gX8_minutesOn_X8_begin : GoodIn wsX8_minutesOn (wsV RX8 270 RX8 yX8_begin wsX8_begin) := goodIn_s _ [(2, 6), (1, 1), (8, 3), (5, 1), (11, 8), (49, 40)] rfl (by decide +kernel)
set_option maxRecDepth 20000 in
theorem gX8_minutesOn_X8_minuteOn : GoodIn wsX8_minutesOn (wsV RX8 273 RX8 yX8_minuteOn wsX8_minuteOn) := goodIn_s _ [(19, 3), (5, 1), (22, 2), (12, 1), (24, 4), (5, 1), (28, 9), (15, 1), (37, 4), (14, 1), (13, 1), (41, 48)] rfl (by decide +kernel)
set_option maxRecDepth 20000 in
theorem gX8_figure_X8_good : GoodIn wsX8_figure (wsV RX8 160 RX8 yX8_good wsX8_good) := goodIn_s _ [(3, 7), (22, 40)] rfl (by decide +kernel)
set_option maxRecDepth 20000 in
theorem gX8_figure_X8_isFigure : GoodIn wsX8_figure (wsV RX8 277 RX8 yX8_isFigure wsX8_isFigure) := goodIn_s _ [(10, 3), (6, 1), (13, 2), (1, 1), (15, 2), (6, 1), (17, 1), (22, 40)] rfl (by decide +kernel)
set_option maxRecDepth 20000 in
theorem gX8_figure_X8_in : GoodIn wsX8_figure (va_wsS RX8 142 yX8_in wsX8_in) := goodIn_s _ [(15, 2), (6, 1), (17, 1)] rfl (by decide +kernel)
set_option maxRecDepth 20000 in
theorem gX8_figure_X8_no : GoodIn wsX8_figure (wsV RX8 163 RX8 yX8_no wsX8_no) := goodIn_s _ [(18, 3), (6, 1), (21, 1), (9, 1), (22, 40)] rfl (by decide +kernel)
set_option maxRecDepth 20000 in
theorem gX8_watcher_X8_good : GoodIn wsX8_watcher (wsV RX8 160 RX8 yX8_good wsX8_good) := goodIn_s _ [(3, 7), (33, 40)] rfl (by decide +kernel)
set_option maxRecDepth 20000 in
theorem gX8_watcher_X8_isWatcher : GoodIn wsX8_watcher (wsV RX8 280 RX8 yX8_isWatcher wsX8_isWatcher) := goodIn_s _ [(10, 3), (6, 1), (13, 2), (1, 1), (15, 2), (6, 1), (17, 1), (33, 40)] rfl (by decide +kernel)
set_option maxRecDepth 20000 in
theorem gX8_watcher_X8_in : GoodIn wsX8_watcher (va_wsS RX8 142 yX8_in wsX8_in) := goodIn_s _ [(15, 2), (6, 1), (17, 1)] rfl (by decide +kernel)
set_option maxRecDepth 20000 in
theorem gX8_watcher_X8_no : GoodIn wsX8_watcher (wsV RX8 163 RX8 yX8_no wsX8_no) := goodIn_s _ [(18, 3), (6, 1), (21, 1), (9, 1), (33, 40)] rfl (by decide +kernel)
set_option maxRecDepth 20000 in
theorem gX8_watcher_X8_watchAsTold : GoodIn wsX8_watcher (wsV RX8 267 RX8 yX8_watchAsTold wsX8_watchAsTold) := goodIn_s _ [(22, 3), (6, 1), (25, 1), (1, 1), (26, 3), (33, 40)] rfl (by decide +kernel)
set_option maxRecDepth 20000 in
theorem gX8_watcher_X8_watcherAt : GoodIn wsX8_watcher (wsV RX8 242 RX8 yX8_watcherAt wsX8_watcherAt) := goodIn_s _ [(29, 3), (6, 1), (32, 1), (27, 1), (26, 1), (33, 40)] rfl (by decide +kernel)
set_option maxRecDepth 20000 in
theorem gX8_alive_X8_good : GoodIn wsX8_alive (wsV RX8 160 RX8 yX8_good wsX8_good) := goodIn_s _ [(3, 7), (14, 40)] rfl (by decide +kernel)
set_option maxRecDepth 20000 in
theorem gX8_alive_X8_no : GoodIn wsX8_alive (wsV RX8 163 RX8 yX8_no wsX8_no) := goodIn_s _ [(10, 3), (6, 1), (13, 1), (9, 1), (14, 40)] rfl (by decide +kernel)
set_option maxRecDepth 20000 in
theorem gX8_left_X8_good : GoodIn wsX8_left (wsV RX8 160 RX8 yX8_good wsX8_good) := goodIn_s _ [(4, 7), (15, 40)] rfl (by decide +kernel)
set_option maxRecDepth 20000 in
theorem gX8_left_X8_no : GoodIn wsX8_left (wsV RX8 163 RX8 yX8_no wsX8_no) := goodIn_s _ [(11, 3), (7, 1), (14, 1), (10, 1), (15, 40)] rfl (by decide +kernel)
set_option maxRecDepth 20000 in
theorem gX8_caught_X8_good : GoodIn wsX8_caught (wsV RX8 160 RX8 yX8_good wsX8_good) := goodIn_s _ [(3, 7), (14, 40)] rfl (by decide +kernel)
set_option maxRecDepth 20000 in
theorem gX8_caught_X8_no : GoodIn wsX8_caught (wsV RX8 163 RX8 yX8_no wsX8_no) := goodIn_s _ [(10, 3), (6, 1), (13, 1), (9, 1), (14, 40)] rfl (by decide +kernel)
set_option maxRecDepth 20000 in
theorem gX8_goRound_X8_nextOf : GoodIn wsX8_goRound (wsV RX8 264 RX8 yX8_nextOf wsX8_nextOf) := goodIn_s _ [(5, 46)] rfl (by decide +kernel)
set_option maxRecDepth 20000 in
theorem gX8_turnOf_X8_good : GoodIn wsX8_turnOf (wsV RX8 160 RX8 yX8_good wsX8_good) := goodIn_s _ [(3, 7), (38, 40)] rfl (by decide +kernel)
set_option maxRecDepth 20000 in
theorem gX8_turnOf_X8_in : GoodIn wsX8_turnOf (va_wsS RX8 142 yX8_in wsX8_in) := goodIn_s _ [(10, 2), (6, 1), (12, 1)] rfl (by decide +kernel)
set_option maxRecDepth 20000 in
theorem gX8_turnOf_X8_why : GoodIn wsX8_turnOf (wsV RX8 290 RX8 yX8_why wsX8_why) := goodIn_s _ [(13, 3), (6, 1), (16, 1)] rfl (by decide +kernel)
set_option maxRecDepth 20000 in
theorem gX8_turnOf_X8_no : GoodIn wsX8_turnOf (wsV RX8 163 RX8 yX8_no wsX8_no) := goodIn_s _ [(17, 3), (6, 1), (20, 1), (9, 1), (38, 40)] rfl (by decide +kernel)
set_option maxRecDepth 20000 in
theorem gX8_turnOf_X8_goRound : GoodIn wsX8_turnOf (wsV RX8 294 RX8 yX8_goRound wsX8_goRound) := goodIn_s _ [(21, 3), (6, 1), (24, 8), (6, 1), (32, 2), (38, 40)] rfl (by decide +kernel)
set_option maxRecDepth 20000 in
theorem gX8_turnOf_X8_turnAt : GoodIn wsX8_turnOf (wsV RX8 297 RX8 yX8_turnAt wsX8_turnAt) := goodIn_s _ [(34, 3), (6, 1), (37, 1), (27, 1), (26, 1), (28, 1), (38, 40)] rfl (by decide +kernel)
set_option maxRecDepth 20000 in
theorem gX8_turnIn_X8_good : GoodIn wsX8_turnIn (wsV RX8 160 RX8 yX8_good wsX8_good) := goodIn_s _ [(4, 7), (33, 40)] rfl (by decide +kernel)
set_option maxRecDepth 20000 in
theorem gX8_turnIn_X8_isFigure : GoodIn wsX8_turnIn (wsV RX8 277 RX8 yX8_isFigure wsX8_isFigure) := goodIn_s _ [(11, 3), (7, 1), (14, 5), (7, 1), (19, 1), (33, 40)] rfl (by decide +kernel)
set_option maxRecDepth 20000 in
theorem gX8_turnIn_X8_no : GoodIn wsX8_turnIn (wsV RX8 163 RX8 yX8_no wsX8_no) := goodIn_s _ [(20, 3), (7, 1), (23, 1), (10, 1), (33, 40)] rfl (by decide +kernel)
end P226_good
section P226_good_1
set_option maxRecDepth 20000 in
theorem gX8_turnIn_X8_goRound : GoodIn wsX8_turnIn (wsV RX8 294 RX8 yX8_goRound wsX8_goRound) := goodIn_s _ [(24, 3), (7, 1), (27, 2), (1, 1), (3, 1), (2, 1), (29, 3), (7, 1), (32, 1), (16, 1), (33, 40)] rfl (by decide +kernel)
set_option maxRecDepth 20000 in
theorem gX8_settles_X8_good : GoodIn wsX8_settles (wsV RX8 160 RX8 yX8_good wsX8_good) := goodIn_s _ [(3, 7), (26, 40)] rfl (by decide +kernel)
set_option maxRecDepth 20000 in
theorem gX8_settles_X8_no : GoodIn wsX8_settles (wsV RX8 163 RX8 yX8_no wsX8_no) := goodIn_s _ [(10, 3), (6, 1), (13, 1), (9, 1), (26, 40)] rfl (by decide +kernel)
set_option maxRecDepth 20000 in
theorem gX8_settles_X8_goRound : GoodIn wsX8_settles (wsV RX8 294 RX8 yX8_goRound wsX8_goRound) := goodIn_s _ [(14, 3), (6, 1), (17, 2), (2, 1), (19, 5), (6, 1), (24, 42)] rfl (by decide +kernel)
set_option maxRecDepth 20000 in
theorem gX8_round_X8_good : GoodIn wsX8_round (wsV RX8 160 RX8 yX8_good wsX8_good) := goodIn_s _ [(3, 7), (26, 40)] rfl (by decide +kernel)
set_option maxRecDepth 20000 in
theorem gX8_round_X8_no : GoodIn wsX8_round (wsV RX8 163 RX8 yX8_no wsX8_no) := goodIn_s _ [(10, 3), (6, 1), (13, 1), (9, 1), (26, 40)] rfl (by decide +kernel)
set_option maxRecDepth 20000 in
theorem gX8_round_X8_goRound : GoodIn wsX8_round (wsV RX8 294 RX8 yX8_goRound wsX8_goRound) := goodIn_s _ [(14, 3), (6, 1), (17, 4), (2, 1), (21, 3), (6, 1), (24, 42)] rfl (by decide +kernel)
set_option maxRecDepth 20000 in
theorem gX8_called_X8_good : GoodIn wsX8_called (wsV RX8 160 RX8 yX8_good wsX8_good) := goodIn_s _ [(5, 7), (26, 40)] rfl (by decide +kernel)
set_option maxRecDepth 20000 in
theorem gX8_called_X8_no : GoodIn wsX8_called (wsV RX8 163 RX8 yX8_no wsX8_no) := goodIn_s _ [(12, 3), (8, 1), (15, 1), (11, 1), (26, 40)] rfl (by decide +kernel)
set_option maxRecDepth 20000 in
theorem gX8_called_X8_goRound : GoodIn wsX8_called (wsV RX8 294 RX8 yX8_goRound wsX8_goRound) := goodIn_s _ [(16, 3), (8, 1), (19, 2), (2, 1), (4, 1), (3, 1), (21, 3), (8, 1), (24, 42)] rfl (by decide +kernel)
set_option maxRecDepth 20000 in
theorem gX8_minutesOf_X8_good : GoodIn wsX8_minutesOf (wsV RX8 160 RX8 yX8_good wsX8_good) := goodIn_s _ [(3, 7), (41, 40)] rfl (by decide +kernel)
set_option maxRecDepth 20000 in
theorem gX8_minutesOf_X8_isFigure : GoodIn wsX8_minutesOf (wsV RX8 277 RX8 yX8_isFigure wsX8_isFigure) := goodIn_s _ [(10, 3), (6, 1), (13, 2), (2, 1), (15, 2), (6, 1), (17, 1), (41, 40)] rfl (by decide +kernel)
set_option maxRecDepth 20000 in
theorem gX8_minutesOf_X8_in : GoodIn wsX8_minutesOf (va_wsS RX8 142 yX8_in wsX8_in) := goodIn_s _ [(15, 2), (6, 1), (17, 1)] rfl (by decide +kernel)
set_option maxRecDepth 20000 in
theorem gX8_minutesOf_X8_why : GoodIn wsX8_minutesOf (wsV RX8 290 RX8 yX8_why wsX8_why) := goodIn_s _ [(18, 3), (6, 1), (21, 1)] rfl (by decide +kernel)
set_option maxRecDepth 20000 in
theorem gX8_minutesOf_X8_no : GoodIn wsX8_minutesOf (wsV RX8 163 RX8 yX8_no wsX8_no) := goodIn_s _ [(22, 3), (6, 1), (25, 1), (9, 1), (41, 40)] rfl (by decide +kernel)
set_option maxRecDepth 20000 in
theorem gX8_minutesOf_X8_goRound : GoodIn wsX8_minutesOf (wsV RX8 294 RX8 yX8_goRound wsX8_goRound) := goodIn_s _ [(26, 3), (6, 1), (29, 1), (1, 1), (30, 6), (6, 1), (36, 1), (2, 1), (41, 40)] rfl (by decide +kernel)
set_option maxRecDepth 20000 in
theorem gX8_minutesOf_X8_turnAt : GoodIn wsX8_minutesOf (wsV RX8 297 RX8 yX8_turnAt wsX8_turnAt) := goodIn_s _ [(37, 3), (6, 1), (40, 1), (31, 1), (30, 1), (32, 1), (41, 40)] rfl (by decide +kernel)
set_option maxRecDepth 20000 in
theorem gX8_aheadWhy_X8_in : GoodIn wsX8_aheadWhy (va_wsS RX8 142 yX8_in wsX8_in) := goodIn_s _ [(1, 4)] rfl (by decide +kernel)
set_option maxRecDepth 20000 in
theorem gX8_aheadWhy_X8_why : GoodIn wsX8_aheadWhy (wsV RX8 290 RX8 yX8_why wsX8_why) := goodIn_s _ [(5, 3), (3, 1), (8, 1)] rfl (by decide +kernel)
set_option maxRecDepth 20000 in
theorem gX8_place_X8_good : GoodIn wsX8_place (wsV RX8 160 RX8 yX8_good wsX8_good) := goodIn_s _ [(2, 7), (79, 40)] rfl (by decide +kernel)
set_option maxRecDepth 20000 in
theorem gX8_place_X8_isFigure : GoodIn wsX8_place (wsV RX8 277 RX8 yX8_isFigure wsX8_isFigure) := goodIn_s _ [(9, 3), (5, 1), (12, 5), (5, 1), (17, 1), (79, 40)] rfl (by decide +kernel)
set_option maxRecDepth 20000 in
theorem gX8_place_X8_aheadWhy : GoodIn wsX8_place (wsV RX8 300 RX8 yX8_aheadWhy wsX8_aheadWhy) := goodIn_s _ [(18, 3), (5, 1), (21, 1), (15, 2), (5, 1), (17, 1), (22, 4)] rfl (by decide +kernel)
set_option maxRecDepth 20000 in
theorem gX8_place_X8_no : GoodIn wsX8_place (wsV RX8 163 RX8 yX8_no wsX8_no) := goodIn_s _ [(26, 3), (5, 1), (29, 1), (8, 1), (79, 40)] rfl (by decide +kernel)
set_option maxRecDepth 20000 in
theorem gX8_place_X8_minutesOn : GoodIn wsX8_place (wsV RX8 304 RX8 yX8_minutesOn wsX8_minutesOn) := goodIn_s _ [(30, 3), (5, 1), (33, 1), (1, 1), (34, 3), (5, 1), (37, 6), (14, 1), (43, 76)] rfl (by decide +kernel)
set_option maxRecDepth 20000 in
theorem gX8_watch_X8_good : GoodIn wsX8_watch (wsV RX8 160 RX8 yX8_good wsX8_good) := goodIn_s _ [(2, 7), (41, 40)] rfl (by decide +kernel)
set_option maxRecDepth 20000 in
theorem gX8_watch_X8_isWatcher : GoodIn wsX8_watch (wsV RX8 280 RX8 yX8_isWatcher wsX8_isWatcher) := goodIn_s _ [(9, 3), (5, 1), (12, 5), (5, 1), (17, 1), (41, 40)] rfl (by decide +kernel)
set_option maxRecDepth 20000 in
theorem gX8_watch_X8_aheadWhy : GoodIn wsX8_watch (wsV RX8 300 RX8 yX8_aheadWhy wsX8_aheadWhy) := goodIn_s _ [(18, 3), (5, 1), (21, 1), (15, 2), (5, 1), (17, 1), (22, 4)] rfl (by decide +kernel)
set_option maxRecDepth 20000 in
theorem gX8_watch_X8_no : GoodIn wsX8_watch (wsV RX8 163 RX8 yX8_no wsX8_no) := goodIn_s _ [(26, 3), (5, 1), (29, 1), (8, 1), (41, 40)] rfl (by decide +kernel)
set_option maxRecDepth 20000 in
theorem gX8_watch_X8_watchAsTold : GoodIn wsX8_watch (wsV RX8 267 RX8 yX8_watchAsTold wsX8_watchAsTold) := goodIn_s _ [(30, 3), (5, 1), (33, 1), (14, 1), (34, 3), (41, 40)] rfl (by decide +kernel)
set_option maxRecDepth 20000 in
theorem gX8_watch_X8_watcherAt : GoodIn wsX8_watch (wsV RX8 242 RX8 yX8_watcherAt wsX8_watcherAt) := goodIn_s _ [(37, 3), (5, 1), (40, 1), (35, 1), (34, 1), (41, 40)] rfl (by decide +kernel)
set_option maxRecDepth 20000 in
theorem gX8_gone_X8_good : GoodIn wsX8_gone (wsV RX8 160 RX8 yX8_good wsX8_good) := goodIn_s _ [(3, 7), (75, 40)] rfl (by decide +kernel)
set_option maxRecDepth 20000 in
theorem gX8_gone_X8_aheadWhy : GoodIn wsX8_gone (wsV RX8 300 RX8 yX8_aheadWhy wsX8_aheadWhy) := goodIn_s _ [(10, 3), (6, 1), (13, 3), (6, 1), (16, 5)] rfl (by decide +kernel)
set_option maxRecDepth 20000 in
theorem gX8_gone_X8_no : GoodIn wsX8_gone (wsV RX8 163 RX8 yX8_no wsX8_no) := goodIn_s _ [(21, 3), (6, 1), (24, 1), (9, 1), (75, 40)] rfl (by decide +kernel)
set_option maxRecDepth 20000 in
theorem gX8_gone_X8_minutesOn : GoodIn wsX8_gone (wsV RX8 304 RX8 yX8_minutesOn wsX8_minutesOn) := goodIn_s _ [(25, 3), (6, 1), (28, 1), (2, 1), (29, 3), (6, 1), (32, 83)] rfl (by decide +kernel)
set_option maxRecDepth 20000 in
theorem gX8_nextGone_X8_minuteOn : GoodIn wsX8_nextGone (wsV RX8 273 RX8 yX8_minuteOn wsX8_minuteOn) := goodIn_s _ [(2, 11), (5, 1), (13, 64)] rfl (by decide +kernel)
set_option maxRecDepth 20000 in
theorem gX8_stairs_X8_good : GoodIn wsX8_stairs (wsV RX8 160 RX8 yX8_good wsX8_good) := goodIn_s _ [(2, 7), (64, 40)] rfl (by decide +kernel)
set_option maxRecDepth 20000 in
theorem gX8_stairs_X8_no : GoodIn wsX8_stairs (wsV RX8 163 RX8 yX8_no wsX8_no) := goodIn_s _ [(9, 3), (5, 1), (12, 1), (8, 1), (64, 40)] rfl (by decide +kernel)
set_option maxRecDepth 20000 in
theorem gX8_stairs_X8_begin : GoodIn wsX8_stairs (wsV RX8 270 RX8 yX8_begin wsX8_begin) := goodIn_s _ [(13, 3), (5, 1), (16, 6), (5, 1), (22, 8), (64, 40)] rfl (by decide +kernel)
set_option maxRecDepth 20000 in
theorem gX8_stairs_X8_nextGone : GoodIn wsX8_stairs (wsV RX8 307 RX8 yX8_nextGone wsX8_nextGone) := goodIn_s _ [(30, 3), (5, 1), (33, 1), (18, 1), (34, 3), (5, 1), (37, 2), (23, 1), (39, 13), (26, 1), (52, 4), (25, 1), (24, 1), (56, 48)] rfl (by decide +kernel)
set_option maxRecDepth 20000 in
theorem gX8_catches_X8_good : GoodIn wsX8_catches (wsV RX8 160 RX8 yX8_good wsX8_good) := goodIn_s _ [(4, 7), (75, 40)] rfl (by decide +kernel)
set_option maxRecDepth 20000 in
theorem gX8_catches_X8_aheadWhy : GoodIn wsX8_catches (wsV RX8 300 RX8 yX8_aheadWhy wsX8_aheadWhy) := goodIn_s _ [(11, 3), (7, 1), (14, 3), (7, 1), (17, 5)] rfl (by decide +kernel)
set_option maxRecDepth 20000 in
theorem gX8_catches_X8_no : GoodIn wsX8_catches (wsV RX8 163 RX8 yX8_no wsX8_no) := goodIn_s _ [(22, 3), (7, 1), (25, 1), (10, 1), (75, 40)] rfl (by decide +kernel)
set_option maxRecDepth 20000 in
theorem gX8_catches_X8_minutesOn : GoodIn wsX8_catches (wsV RX8 304 RX8 yX8_minutesOn wsX8_minutesOn) := goodIn_s _ [(26, 3), (7, 1), (29, 1), (2, 1), (30, 3), (7, 1), (33, 1), (3, 1), (34, 81)] rfl (by decide +kernel)
set_option maxRecDepth 20000 in
theorem gX8_heard_X8_good : GoodIn wsX8_heard (wsV RX8 160 RX8 yX8_good wsX8_good) := goodIn_s _ [(2, 7), (75, 40)] rfl (by decide +kernel)
set_option maxRecDepth 20000 in
theorem gX8_heard_X8_isFigure : GoodIn wsX8_heard (wsV RX8 277 RX8 yX8_isFigure wsX8_isFigure) := goodIn_s _ [(9, 3), (5, 1), (12, 5), (5, 1), (17, 1), (75, 40)] rfl (by decide +kernel)
set_option maxRecDepth 20000 in
theorem gX8_heard_X8_aheadWhy : GoodIn wsX8_heard (wsV RX8 300 RX8 yX8_aheadWhy wsX8_aheadWhy) := goodIn_s _ [(18, 3), (5, 1), (21, 1), (15, 2), (5, 1), (17, 1), (22, 4)] rfl (by decide +kernel)
set_option maxRecDepth 20000 in
theorem gX8_heard_X8_no : GoodIn wsX8_heard (wsV RX8 163 RX8 yX8_no wsX8_no) := goodIn_s _ [(26, 3), (5, 1), (29, 1), (8, 1), (75, 40)] rfl (by decide +kernel)
set_option maxRecDepth 20000 in
theorem gX8_heard_X8_begin : GoodIn wsX8_heard (wsV RX8 270 RX8 yX8_begin wsX8_begin) := goodIn_s _ [(30, 3), (5, 1), (33, 2), (1, 1), (35, 3), (5, 1), (38, 1), (14, 1), (39, 6), (75, 40)] rfl (by decide +kernel)
set_option maxRecDepth 20000 in
theorem gX8_heard_X8_minuteOn : GoodIn wsX8_heard (wsV RX8 273 RX8 yX8_minuteOn wsX8_minuteOn) := goodIn_s _ [(45, 3), (5, 1), (48, 2), (14, 1), (50, 4), (5, 1), (54, 9), (41, 1), (63, 4), (40, 1), (39, 1), (67, 48)] rfl (by decide +kernel)
set_option maxRecDepth 20000 in
theorem gX8_allIn_X8_good : GoodIn wsX8_allIn (wsV RX8 160 RX8 yX8_good wsX8_good) := goodIn_s _ [(3, 7), (67, 40)] rfl (by decide +kernel)
set_option maxRecDepth 20000 in
theorem gX8_allIn_X8_isFigure : GoodIn wsX8_allIn (wsV RX8 277 RX8 yX8_isFigure wsX8_isFigure) := goodIn_s _ [(10, 3), (6, 1), (13, 2), (1, 1), (15, 2), (6, 1), (17, 1), (67, 40)] rfl (by decide +kernel)
set_option maxRecDepth 20000 in
theorem gX8_allIn_X8_no : GoodIn wsX8_allIn (wsV RX8 163 RX8 yX8_no wsX8_no) := goodIn_s _ [(18, 3), (6, 1), (21, 1), (9, 1), (67, 40)] rfl (by decide +kernel)
set_option maxRecDepth 20000 in
theorem gX8_allIn_X8_begin : GoodIn wsX8_allIn (wsV RX8 270 RX8 yX8_begin wsX8_begin) := goodIn_s _ [(22, 3), (6, 1), (25, 2), (2, 1), (27, 3), (6, 1), (30, 1), (1, 1), (31, 6), (67, 40)] rfl (by decide +kernel)
set_option maxRecDepth 20000 in
theorem gX8_allIn_X8_minuteOn : GoodIn wsX8_allIn (wsV RX8 273 RX8 yX8_minuteOn wsX8_minuteOn) := goodIn_s _ [(37, 3), (6, 1), (40, 2), (1, 1), (42, 4), (6, 1), (46, 9), (33, 1), (55, 4), (32, 1), (31, 1), (59, 48)] rfl (by decide +kernel)
set_option maxRecDepth 20000 in
theorem gX8_meets_X8_good : GoodIn wsX8_meets (wsV RX8 160 RX8 yX8_good wsX8_good) := goodIn_s _ [(3, 7), (67, 40)] rfl (by decide +kernel)
set_option maxRecDepth 20000 in
theorem gX8_meets_X8_isWatcher : GoodIn wsX8_meets (wsV RX8 280 RX8 yX8_isWatcher wsX8_isWatcher) := goodIn_s _ [(10, 3), (6, 1), (13, 5), (6, 1), (18, 1), (67, 40)] rfl (by decide +kernel)
set_option maxRecDepth 20000 in
theorem gX8_meets_X8_no : GoodIn wsX8_meets (wsV RX8 163 RX8 yX8_no wsX8_no) := goodIn_s _ [(19, 3), (6, 1), (22, 1), (9, 1), (67, 40)] rfl (by decide +kernel)
set_option maxRecDepth 20000 in
theorem gX8_meets_X8_begin : GoodIn wsX8_meets (wsV RX8 270 RX8 yX8_begin wsX8_begin) := goodIn_s _ [(23, 3), (6, 1), (26, 2), (1, 1), (28, 3), (6, 1), (31, 1), (15, 1), (32, 6), (67, 40)] rfl (by decide +kernel)
set_option maxRecDepth 20000 in
theorem gX8_meets_X8_watcherAt : GoodIn wsX8_meets (wsV RX8 242 RX8 yX8_watcherAt wsX8_watcherAt) := goodIn_s _ [(38, 3), (6, 1), (41, 1), (33, 1), (32, 1), (67, 40)] rfl (by decide +kernel)
set_option maxRecDepth 20000 in
theorem gX8_meets_X8_minuteOn : GoodIn wsX8_meets (wsV RX8 273 RX8 yX8_minuteOn wsX8_minuteOn) := goodIn_s _ [(42, 3), (6, 1), (45, 2), (15, 1), (47, 1), (2, 1), (48, 2), (6, 1), (50, 9), (34, 1), (38, 4), (33, 1), (32, 1), (59, 48)] rfl (by decide +kernel)
set_option maxRecDepth 20000 in
theorem gX8_crowd_X8_good : GoodIn wsX8_crowd (wsV RX8 160 RX8 yX8_good wsX8_good) := goodIn_s _ [(4, 7), (75, 40)] rfl (by decide +kernel)
set_option maxRecDepth 20000 in
theorem gX8_crowd_X8_aheadWhy : GoodIn wsX8_crowd (wsV RX8 300 RX8 yX8_aheadWhy wsX8_aheadWhy) := goodIn_s _ [(11, 3), (7, 1), (14, 3), (7, 1), (17, 5)] rfl (by decide +kernel)
set_option maxRecDepth 20000 in
theorem gX8_crowd_X8_no : GoodIn wsX8_crowd (wsV RX8 163 RX8 yX8_no wsX8_no) := goodIn_s _ [(22, 3), (7, 1), (25, 1), (10, 1), (75, 40)] rfl (by decide +kernel)
set_option maxRecDepth 20000 in
theorem gX8_crowd_X8_minutesOn : GoodIn wsX8_crowd (wsV RX8 304 RX8 yX8_minutesOn wsX8_minutesOn) := goodIn_s _ [(26, 3), (7, 1), (29, 1), (3, 1), (30, 3), (7, 1), (33, 6), (2, 1), (39, 76)] rfl (by decide +kernel)
set_option maxRecDepth 20000 in
theorem gX8_crowd_X8_hasBit : GoodIn wsX8_crowd (va_wsS RX8 238 yX8_hasBit wsX8_hasBit) := goodIn_s _ [(52, 2), (7, 1), (54, 1)] rfl (by decide +kernel)
set_option maxRecDepth 20000 in
theorem gX8_farthest_X8_good : GoodIn wsX8_farthest (wsV RX8 160 RX8 yX8_good wsX8_good) := goodIn_s _ [(4, 7), (78, 40)] rfl (by decide +kernel)
set_option maxRecDepth 20000 in
theorem gX8_farthest_X8_aheadWhy : GoodIn wsX8_farthest (wsV RX8 300 RX8 yX8_aheadWhy wsX8_aheadWhy) := goodIn_s _ [(11, 3), (7, 1), (14, 3), (7, 1), (17, 5)] rfl (by decide +kernel)
set_option maxRecDepth 20000 in
theorem gX8_farthest_X8_no : GoodIn wsX8_farthest (wsV RX8 163 RX8 yX8_no wsX8_no) := goodIn_s _ [(22, 3), (7, 1), (25, 1), (10, 1), (78, 40)] rfl (by decide +kernel)
set_option maxRecDepth 20000 in
theorem gX8_farthest_X8_minutesOn : GoodIn wsX8_farthest (wsV RX8 304 RX8 yX8_minutesOn wsX8_minutesOn) := goodIn_s _ [(26, 3), (7, 1), (29, 1), (3, 1), (30, 3), (7, 1), (33, 6), (2, 1), (39, 36), (78, 40)] rfl (by decide +kernel)
set_option maxRecDepth 20000 in
theorem gX8_farthest_X8_between : GoodIn wsX8_farthest (va_wsS RX8 310 yX8_between wsX8_between) := goodIn_s _ [(75, 2), (7, 1), (77, 1)] rfl (by decide +kernel)
set_option maxRecDepth 20000 in
theorem gX8_nearBy_X8_good : GoodIn wsX8_nearBy (wsV RX8 160 RX8 yX8_good wsX8_good) := goodIn_s _ [(2, 7), (75, 40)] rfl (by decide +kernel)
set_option maxRecDepth 20000 in
theorem gX8_nearBy_X8_isFigure : GoodIn wsX8_nearBy (wsV RX8 277 RX8 yX8_isFigure wsX8_isFigure) := goodIn_s _ [(9, 3), (5, 1), (12, 5), (5, 1), (17, 1), (75, 40)] rfl (by decide +kernel)
set_option maxRecDepth 20000 in
theorem gX8_nearBy_X8_aheadWhy : GoodIn wsX8_nearBy (wsV RX8 300 RX8 yX8_aheadWhy wsX8_aheadWhy) := goodIn_s _ [(18, 3), (5, 1), (21, 1), (15, 2), (5, 1), (17, 1), (22, 4)] rfl (by decide +kernel)
set_option maxRecDepth 20000 in
theorem gX8_nearBy_X8_no : GoodIn wsX8_nearBy (wsV RX8 163 RX8 yX8_no wsX8_no) := goodIn_s _ [(26, 3), (5, 1), (29, 1), (8, 1), (75, 40)] rfl (by decide +kernel)
set_option maxRecDepth 20000 in
theorem gX8_nearBy_X8_begin : GoodIn wsX8_nearBy (wsV RX8 270 RX8 yX8_begin wsX8_begin) := goodIn_s _ [(30, 3), (5, 1), (33, 2), (1, 1), (35, 3), (5, 1), (38, 1), (14, 1), (39, 6), (75, 40)] rfl (by decide +kernel)
set_option maxRecDepth 20000 in
theorem gX8_nearBy_X8_minuteOn : GoodIn wsX8_nearBy (wsV RX8 273 RX8 yX8_minuteOn wsX8_minuteOn) := goodIn_s _ [(45, 3), (5, 1), (48, 2), (14, 1), (50, 4), (5, 1), (54, 9), (41, 1), (63, 4), (40, 1), (39, 1), (67, 48)] rfl (by decide +kernel)
set_option maxRecDepth 20000 in
theorem gX8_nearBy_X8_hasBit : GoodIn wsX8_nearBy (va_wsS RX8 238 yX8_hasBit wsX8_hasBit) := goodIn_s _ [(52, 2), (5, 1), (54, 1)] rfl (by decide +kernel)
set_option maxRecDepth 20000 in
theorem gX8_nearBy_X8_isWatched : GoodIn wsX8_nearBy (wsV RX8 245 RX8 yX8_isWatched wsX8_isWatched) := goodIn_s _ [(59, 3), (5, 1), (62, 1), (41, 1), (14, 1), (52, 2), (5, 1), (54, 1), (63, 4), (40, 1), (39, 1), (75, 40)] rfl (by decide +kernel)
set_option maxRecDepth 20000 in
theorem gX8_spoken_X8_good : GoodIn wsX8_spoken (wsV RX8 160 RX8 yX8_good wsX8_good) := goodIn_s _ [(4, 7), (75, 40)] rfl (by decide +kernel)
set_option maxRecDepth 20000 in
theorem gX8_spoken_X8_isFigure : GoodIn wsX8_spoken (wsV RX8 277 RX8 yX8_isFigure wsX8_isFigure) := goodIn_s _ [(11, 3), (7, 1), (14, 5), (7, 1), (19, 1), (75, 40)] rfl (by decide +kernel)
set_option maxRecDepth 20000 in
theorem gX8_spoken_X8_aheadWhy : GoodIn wsX8_spoken (wsV RX8 300 RX8 yX8_aheadWhy wsX8_aheadWhy) := goodIn_s _ [(20, 3), (7, 1), (23, 1), (17, 2), (7, 1), (19, 1), (24, 4)] rfl (by decide +kernel)
set_option maxRecDepth 20000 in
theorem gX8_spoken_X8_no : GoodIn wsX8_spoken (wsV RX8 163 RX8 yX8_no wsX8_no) := goodIn_s _ [(28, 3), (7, 1), (31, 1), (10, 1), (75, 40)] rfl (by decide +kernel)
set_option maxRecDepth 20000 in
theorem gX8_spoken_X8_begin : GoodIn wsX8_spoken (wsV RX8 270 RX8 yX8_begin wsX8_begin) := goodIn_s _ [(32, 3), (7, 1), (35, 2), (1, 1), (37, 3), (7, 1), (40, 1), (16, 1), (41, 6), (75, 40)] rfl (by decide +kernel)
set_option maxRecDepth 20000 in
theorem gX8_spoken_X8_minuteOn : GoodIn wsX8_spoken (wsV RX8 273 RX8 yX8_minuteOn wsX8_minuteOn) := goodIn_s _ [(47, 3), (7, 1), (50, 1), (3, 1), (16, 1), (2, 1), (51, 3), (7, 1), (54, 9), (43, 1), (63, 4), (42, 1), (41, 1), (67, 48)] rfl (by decide +kernel)
set_option maxRecDepth 20000 in
theorem gX8_windBest_X8_good : GoodIn wsX8_windBest (wsV RX8 160 RX8 yX8_good wsX8_good) := goodIn_s _ [(4, 7), (64, 40)] rfl (by decide +kernel)
set_option maxRecDepth 20000 in
theorem gX8_windBest_X8_no : GoodIn wsX8_windBest (wsV RX8 163 RX8 yX8_no wsX8_no) := goodIn_s _ [(11, 3), (7, 1), (14, 1), (10, 1), (64, 40)] rfl (by decide +kernel)
set_option maxRecDepth 20000 in
theorem gX8_windBest_X8_begin : GoodIn wsX8_windBest (wsV RX8 270 RX8 yX8_begin wsX8_begin) := goodIn_s _ [(15, 3), (7, 1), (18, 2), (3, 1), (20, 3), (7, 1), (23, 1), (2, 1), (24, 6), (64, 40)] rfl (by decide +kernel)
set_option maxRecDepth 20000 in
theorem gX8_windBest_X8_nextGone : GoodIn wsX8_windBest (wsV RX8 307 RX8 yX8_nextGone wsX8_nextGone) := goodIn_s _ [(30, 3), (7, 1), (33, 1), (3, 1), (34, 3), (7, 1), (37, 2), (2, 1), (39, 13), (26, 1), (52, 4), (25, 1), (24, 1), (56, 48)] rfl (by decide +kernel)
set_option maxRecDepth 20000 in
theorem gX8_patrol_X8_good : GoodIn wsX8_patrol (wsV RX8 160 RX8 yX8_good wsX8_good) := goodIn_s _ [(6, 7), (75, 40)] rfl (by decide +kernel)
set_option maxRecDepth 20000 in
theorem gX8_patrol_X8_isWatcher : GoodIn wsX8_patrol (wsV RX8 280 RX8 yX8_isWatcher wsX8_isWatcher) := goodIn_s _ [(13, 3), (9, 1), (16, 2), (2, 1), (18, 2), (9, 1), (20, 1), (75, 40)] rfl (by decide +kernel)
set_option maxRecDepth 20000 in
theorem gX8_patrol_X8_in : GoodIn wsX8_patrol (va_wsS RX8 142 yX8_in wsX8_in) := goodIn_s _ [(18, 2), (9, 1), (20, 1)] rfl (by decide +kernel)
set_option maxRecDepth 20000 in
theorem gX8_patrol_X8_why : GoodIn wsX8_patrol (wsV RX8 290 RX8 yX8_why wsX8_why) := goodIn_s _ [(21, 3), (9, 1), (24, 1)] rfl (by decide +kernel)
set_option maxRecDepth 20000 in
theorem gX8_patrol_X8_no : GoodIn wsX8_patrol (wsV RX8 163 RX8 yX8_no wsX8_no) := goodIn_s _ [(25, 3), (9, 1), (28, 1), (12, 1), (75, 40)] rfl (by decide +kernel)
set_option maxRecDepth 20000 in
theorem gX8_patrol_X8_begin : GoodIn wsX8_patrol (wsV RX8 270 RX8 yX8_begin wsX8_begin) := goodIn_s _ [(29, 3), (9, 1), (32, 2), (5, 1), (34, 3), (9, 1), (37, 1), (2, 3), (38, 4), (75, 40)] rfl (by decide +kernel)
set_option maxRecDepth 20000 in
theorem gX8_patrol_X8_minuteOn : GoodIn wsX8_patrol (wsV RX8 273 RX8 yX8_minuteOn wsX8_minuteOn) := goodIn_s _ [(42, 3), (9, 1), (45, 2), (2, 1), (47, 4), (9, 1), (51, 9), (38, 1), (60, 4), (4, 1), (3, 1), (64, 8), (75, 40)] rfl (by decide +kernel)
set_option maxRecDepth 20000 in
theorem gX8_patrol_X8_ones : GoodIn wsX8_patrol (va_wsS RX8 314 yX8_ones wsX8_ones) := goodIn_s _ [(72, 2), (9, 1), (74, 1)] rfl (by decide +kernel)
set_option maxRecDepth 20000 in
theorem gX8_layRoute_X8_begin : GoodIn wsX8_layRoute (wsV RX8 270 RX8 yX8_begin wsX8_begin) := goodIn_s _ [(6, 6), (1, 1), (12, 3), (9, 1), (15, 1), (5, 1), (16, 6), (58, 40)] rfl (by decide +kernel)
set_option maxRecDepth 20000 in
theorem gX8_layRoute_X8_minuteOn : GoodIn wsX8_layRoute (wsV RX8 273 RX8 yX8_minuteOn wsX8_minuteOn) := goodIn_s _ [(22, 3), (9, 1), (25, 2), (5, 1), (27, 1), (3, 1), (28, 2), (9, 1), (30, 9), (18, 1), (39, 4), (17, 1), (16, 1), (43, 8), (58, 40)] rfl (by decide +kernel)
set_option maxRecDepth 20000 in
theorem gX8_layRoute_X8_bestFrom : GoodIn wsX8_layRoute (wsV RX8 317 RX8 yX8_bestFrom wsX8_bestFrom) := goodIn_s _ [(51, 3), (9, 1), (54, 1), (5, 1), (4, 1), (2, 1), (55, 2), (9, 1), (57, 41)] rfl (by decide +kernel)
set_option maxRecDepth 20000 in
theorem gX8_bestFrom_X8_in : GoodIn wsX8_bestFrom (va_wsS RX8 142 yX8_in wsX8_in) := goodIn_s _ [(4, 4)] rfl (by decide +kernel)
set_option maxRecDepth 20000 in
theorem gX8_routeWhy_X8_isFigure : GoodIn wsX8_routeWhy (wsV RX8 277 RX8 yX8_isFigure wsX8_isFigure) := goodIn_s _ [(1, 9), (4, 1), (10, 1), (15, 40)] rfl (by decide +kernel)
set_option maxRecDepth 20000 in
theorem gX8_routeWhy_X8_in : GoodIn wsX8_routeWhy (va_wsS RX8 142 yX8_in wsX8_in) := goodIn_s _ [(8, 2), (4, 1), (10, 1)] rfl (by decide +kernel)
set_option maxRecDepth 20000 in
theorem gX8_routeWhy_X8_why : GoodIn wsX8_routeWhy (wsV RX8 290 RX8 yX8_why wsX8_why) := goodIn_s _ [(11, 3), (4, 1), (14, 1)] rfl (by decide +kernel)
set_option maxRecDepth 20000 in
theorem gX8_route_X8_good : GoodIn wsX8_route (wsV RX8 160 RX8 yX8_good wsX8_good) := goodIn_s _ [(2, 7), (85, 40)] rfl (by decide +kernel)
set_option maxRecDepth 20000 in
theorem gX8_route_X8_routeWhy : GoodIn wsX8_route (wsV RX8 321 RX8 yX8_routeWhy wsX8_routeWhy) := goodIn_s _ [(9, 3), (5, 1), (12, 4), (5, 1), (16, 10), (85, 40)] rfl (by decide +kernel)
set_option maxRecDepth 20000 in
theorem gX8_route_X8_no : GoodIn wsX8_route (wsV RX8 163 RX8 yX8_no wsX8_no) := goodIn_s _ [(26, 3), (5, 1), (29, 1), (8, 1), (85, 40)] rfl (by decide +kernel)
set_option maxRecDepth 20000 in
theorem gX8_route_X8_layRoute : GoodIn wsX8_route (wsV RX8 324 RX8 yX8_layRoute wsX8_layRoute) := goodIn_s _ [(30, 3), (5, 1), (33, 4), (1, 1), (18, 1), (37, 3), (5, 1), (40, 45), (19, 3), (85, 40)] rfl (by decide +kernel)
set_option maxRecDepth 20000 in
theorem gX8_routeAt_X8_good : GoodIn wsX8_routeAt (wsV RX8 160 RX8 yX8_good wsX8_good) := goodIn_s _ [(1, 7), (85, 40)] rfl (by decide +kernel)
set_option maxRecDepth 20000 in
theorem gX8_routeAt_X8_routeWhy : GoodIn wsX8_routeAt (wsV RX8 321 RX8 yX8_routeWhy wsX8_routeWhy) := goodIn_s _ [(8, 3), (4, 1), (11, 4), (4, 1), (15, 10), (85, 40)] rfl (by decide +kernel)
set_option maxRecDepth 20000 in
theorem gX8_routeAt_X8_in : GoodIn wsX8_routeAt (va_wsS RX8 142 yX8_in wsX8_in) := goodIn_s _ [(18, 2), (4, 1), (20, 1)] rfl (by decide +kernel)
set_option maxRecDepth 20000 in
theorem gX8_routeAt_X8_no : GoodIn wsX8_routeAt (wsV RX8 163 RX8 yX8_no wsX8_no) := goodIn_s _ [(25, 3), (4, 1), (28, 1), (7, 1), (85, 40)] rfl (by decide +kernel)
set_option maxRecDepth 20000 in
theorem gX8_routeAt_X8_layRoute : GoodIn wsX8_routeAt (wsV RX8 324 RX8 yX8_layRoute wsX8_layRoute) := goodIn_s _ [(29, 3), (4, 1), (32, 5), (17, 1), (37, 3), (4, 1), (40, 45), (18, 3), (85, 40)] rfl (by decide +kernel)
set_option maxRecDepth 20000 in
theorem gX8_routeAt_X8_bestFrom : GoodIn wsX8_routeAt (wsV RX8 317 RX8 yX8_bestFrom wsX8_bestFrom) := goodIn_s _ [(81, 3), (4, 1), (84, 1), (17, 1), (36, 1), (34, 1), (18, 2), (4, 1), (20, 1), (85, 40)] rfl (by decide +kernel)
set_option maxRecDepth 20000 in
theorem gX8_stand_X8_good : GoodIn wsX8_stand (wsV RX8 160 RX8 yX8_good wsX8_good) := goodIn_s _ [(4, 7), (77, 40)] rfl (by decide +kernel)
set_option maxRecDepth 20000 in
theorem gX8_stand_X8_in : GoodIn wsX8_stand (va_wsS RX8 142 yX8_in wsX8_in) := goodIn_s _ [(11, 2), (7, 1), (13, 1)] rfl (by decide +kernel)
set_option maxRecDepth 20000 in
theorem gX8_stand_X8_why : GoodIn wsX8_stand (wsV RX8 290 RX8 yX8_why wsX8_why) := goodIn_s _ [(14, 3), (7, 1), (17, 1)] rfl (by decide +kernel)
set_option maxRecDepth 20000 in
theorem gX8_stand_X8_no : GoodIn wsX8_stand (wsV RX8 163 RX8 yX8_no wsX8_no) := goodIn_s _ [(18, 3), (7, 1), (21, 1), (10, 1), (77, 40)] rfl (by decide +kernel)
set_option maxRecDepth 20000 in
theorem gX8_stand_X8_layRoute : GoodIn wsX8_stand (wsV RX8 324 RX8 yX8_layRoute wsX8_layRoute) := goodIn_s _ [(22, 3), (7, 1), (25, 4), (3, 1), (2, 1), (29, 3), (7, 1), (32, 45), (11, 3), (77, 40)] rfl (by decide +kernel)
set_option maxRecDepth 20000 in
theorem gX8_guard_X8_good : GoodIn wsX8_guard (wsV RX8 160 RX8 yX8_good wsX8_good) := goodIn_s _ [(6, 7), (70, 40)] rfl (by decide +kernel)
set_option maxRecDepth 20000 in
theorem gX8_guard_X8_in : GoodIn wsX8_guard (va_wsS RX8 142 yX8_in wsX8_in) := goodIn_s _ [(13, 2), (9, 1), (15, 1)] rfl (by decide +kernel)
end P226_good_1
section P226_good_2
set_option maxRecDepth 20000 in
theorem gX8_guard_X8_why : GoodIn wsX8_guard (wsV RX8 290 RX8 yX8_why wsX8_why) := goodIn_s _ [(16, 3), (9, 1), (19, 1)] rfl (by decide +kernel)
set_option maxRecDepth 20000 in
theorem gX8_guard_X8_no : GoodIn wsX8_guard (wsV RX8 163 RX8 yX8_no wsX8_no) := goodIn_s _ [(20, 3), (9, 1), (23, 1), (12, 1), (70, 40)] rfl (by decide +kernel)
set_option maxRecDepth 20000 in
theorem gX8_guard_X8_ones : GoodIn wsX8_guard (va_wsS RX8 314 yX8_ones wsX8_ones) := goodIn_s _ [(24, 2), (9, 1), (26, 1)] rfl (by decide +kernel)
set_option maxRecDepth 20000 in
theorem gX8_guard_X8_begin : GoodIn wsX8_guard (wsV RX8 270 RX8 yX8_begin wsX8_begin) := goodIn_s _ [(27, 3), (9, 1), (30, 1), (5, 1), (4, 1), (31, 3), (9, 1), (34, 1), (2, 1), (35, 2), (3, 1), (37, 3), (70, 40)] rfl (by decide +kernel)
set_option maxRecDepth 20000 in
theorem gX8_guard_X8_minuteOn : GoodIn wsX8_guard (wsV RX8 273 RX8 yX8_minuteOn wsX8_minuteOn) := goodIn_s _ [(40, 3), (9, 1), (43, 2), (2, 1), (45, 4), (9, 1), (49, 9), (3, 1), (58, 4), (36, 1), (35, 1), (62, 48)] rfl (by decide +kernel)
set_option maxRecDepth 20000 in
theorem gX8_byCode_X8_turnBy : GoodIn wsX8_byCode (wsV RX8 327 RX8 yX8_turnBy wsX8_turnBy) := goodIn_s _ [(2, 6), (1, 1), (8, 40)] rfl (by decide +kernel)
set_option maxRecDepth 20000 in
theorem gX8_doesFit_X8_byCode : GoodIn wsX8_doesFit (wsV RX8 331 RX8 yX8_byCode wsX8_byCode) := goodIn_s _ [(2, 5), (1, 1), (7, 3), (5, 1), (10, 42)] rfl (by decide +kernel)
set_option maxRecDepth 20000 in
theorem gX8_fits_X8_good : GoodIn wsX8_fits (wsV RX8 160 RX8 yX8_good wsX8_good) := goodIn_s _ [(2, 7), (31, 40)] rfl (by decide +kernel)
set_option maxRecDepth 20000 in
theorem gX8_fits_X8_no : GoodIn wsX8_fits (wsV RX8 163 RX8 yX8_no wsX8_no) := goodIn_s _ [(9, 3), (5, 1), (12, 1), (8, 1), (31, 40)] rfl (by decide +kernel)
set_option maxRecDepth 20000 in
theorem gX8_fits_X8_codes : GoodIn wsX8_fits (wsV RX8 334 RX8 yX8_codes wsX8_codes) := goodIn_s _ [(13, 3), (5, 1), (16, 2), (31, 40)] rfl (by decide +kernel)
set_option maxRecDepth 20000 in
theorem gX8_fits_X8_doesFit : GoodIn wsX8_fits (wsV RX8 337 RX8 yX8_doesFit wsX8_doesFit) := goodIn_s _ [(18, 3), (5, 1), (21, 1), (17, 1), (22, 3), (5, 1), (25, 46)] rfl (by decide +kernel)
set_option maxRecDepth 20000 in
theorem gX8_fitAt_X8_good : GoodIn wsX8_fitAt (wsV RX8 160 RX8 yX8_good wsX8_good) := goodIn_s _ [(2, 7), (35, 40)] rfl (by decide +kernel)
set_option maxRecDepth 20000 in
theorem gX8_fitAt_X8_no : GoodIn wsX8_fitAt (wsV RX8 163 RX8 yX8_no wsX8_no) := goodIn_s _ [(9, 3), (5, 1), (12, 1), (8, 1), (35, 40)] rfl (by decide +kernel)
set_option maxRecDepth 20000 in
theorem gX8_fitAt_X8_codes : GoodIn wsX8_fitAt (wsV RX8 334 RX8 yX8_codes wsX8_codes) := goodIn_s _ [(13, 3), (5, 1), (16, 2), (35, 40)] rfl (by decide +kernel)
set_option maxRecDepth 20000 in
theorem gX8_fitAt_X8_doesFit : GoodIn wsX8_fitAt (wsV RX8 337 RX8 yX8_doesFit wsX8_doesFit) := goodIn_s _ [(18, 3), (5, 1), (21, 1), (17, 1), (22, 3), (5, 1), (25, 6), (35, 40)] rfl (by decide +kernel)
set_option maxRecDepth 20000 in
theorem gX8_fitAt_X8_numberOf : GoodIn wsX8_fitAt (wsV RX8 340 RX8 yX8_numberOf wsX8_numberOf) := goodIn_s _ [(31, 3), (5, 1), (34, 1), (17, 1), (35, 40)] rfl (by decide +kernel)
set_option maxRecDepth 20000 in
theorem gX8_layOften_X8_codes : GoodIn wsX8_layOften (wsV RX8 334 RX8 yX8_codes wsX8_codes) := goodIn_s _ [(2, 6), (21, 40)] rfl (by decide +kernel)
set_option maxRecDepth 20000 in
theorem gX8_layOften_X8_doesFit : GoodIn wsX8_layOften (wsV RX8 337 RX8 yX8_doesFit wsX8_doesFit) := goodIn_s _ [(8, 3), (5, 1), (11, 1), (7, 1), (12, 3), (5, 1), (15, 46)] rfl (by decide +kernel)
set_option maxRecDepth 20000 in
theorem gX8_layOften_X8_byCode : GoodIn wsX8_layOften (wsV RX8 331 RX8 yX8_byCode wsX8_byCode) := goodIn_s _ [(12, 3), (5, 1), (15, 1), (7, 1), (16, 3), (5, 1), (19, 42)] rfl (by decide +kernel)
set_option maxRecDepth 20000 in
theorem gX8_could_X8_good : GoodIn wsX8_could (wsV RX8 160 RX8 yX8_good wsX8_good) := goodIn_s _ [(4, 7), (43, 40)] rfl (by decide +kernel)
set_option maxRecDepth 20000 in
theorem gX8_could_X8_in : GoodIn wsX8_could (va_wsS RX8 142 yX8_in wsX8_in) := goodIn_s _ [(11, 2), (7, 1), (13, 1)] rfl (by decide +kernel)
set_option maxRecDepth 20000 in
theorem gX8_could_X8_why : GoodIn wsX8_could (wsV RX8 290 RX8 yX8_why wsX8_why) := goodIn_s _ [(14, 3), (7, 1), (17, 1)] rfl (by decide +kernel)
set_option maxRecDepth 20000 in
theorem gX8_could_X8_no : GoodIn wsX8_could (wsV RX8 163 RX8 yX8_no wsX8_no) := goodIn_s _ [(18, 3), (7, 1), (21, 1), (10, 1), (43, 40)] rfl (by decide +kernel)
set_option maxRecDepth 20000 in
theorem gX8_could_X8_layOften : GoodIn wsX8_could (wsV RX8 343 RX8 yX8_layOften wsX8_layOften) := goodIn_s _ [(22, 3), (7, 1), (25, 1), (3, 1), (26, 3), (7, 1), (29, 1), (2, 1), (30, 53)] rfl (by decide +kernel)
set_option maxRecDepth 20000 in
theorem gX8_aliveBy_X8_good : GoodIn wsX8_aliveBy (wsV RX8 160 RX8 yX8_good wsX8_good) := goodIn_s _ [(3, 7), (47, 40)] rfl (by decide +kernel)
set_option maxRecDepth 20000 in
theorem gX8_aliveBy_X8_isFigure : GoodIn wsX8_aliveBy (wsV RX8 277 RX8 yX8_isFigure wsX8_isFigure) := goodIn_s _ [(10, 3), (6, 1), (13, 2), (1, 1), (15, 2), (6, 1), (17, 1), (47, 40)] rfl (by decide +kernel)
set_option maxRecDepth 20000 in
theorem gX8_aliveBy_X8_in : GoodIn wsX8_aliveBy (va_wsS RX8 142 yX8_in wsX8_in) := goodIn_s _ [(15, 2), (6, 1), (17, 1)] rfl (by decide +kernel)
set_option maxRecDepth 20000 in
theorem gX8_aliveBy_X8_why : GoodIn wsX8_aliveBy (wsV RX8 290 RX8 yX8_why wsX8_why) := goodIn_s _ [(18, 3), (6, 1), (21, 1)] rfl (by decide +kernel)
set_option maxRecDepth 20000 in
theorem gX8_aliveBy_X8_no : GoodIn wsX8_aliveBy (wsV RX8 163 RX8 yX8_no wsX8_no) := goodIn_s _ [(22, 3), (6, 1), (25, 1), (9, 1), (47, 40)] rfl (by decide +kernel)
set_option maxRecDepth 20000 in
theorem gX8_aliveBy_X8_layOften : GoodIn wsX8_aliveBy (wsV RX8 343 RX8 yX8_layOften wsX8_layOften) := goodIn_s _ [(26, 3), (6, 1), (29, 1), (2, 1), (30, 3), (6, 1), (33, 1), (1, 1), (34, 53)] rfl (by decide +kernel)
set_option maxRecDepth 20000 in
theorem gX8_lookOf_X8_layOften : GoodIn wsX8_lookOf (wsV RX8 343 RX8 yX8_layOften wsX8_layOften) := goodIn_s _ [(4, 5), (3, 1), (9, 3), (7, 1), (12, 1), (2, 1), (13, 53)] rfl (by decide +kernel)
set_option maxRecDepth 20000 in
theorem gX8_look_X8_good : GoodIn wsX8_look (wsV RX8 160 RX8 yX8_good wsX8_good) := goodIn_s _ [(2, 7), (41, 40)] rfl (by decide +kernel)
set_option maxRecDepth 20000 in
theorem gX8_look_X8_lookOf : GoodIn wsX8_look (wsV RX8 349 RX8 yX8_lookOf wsX8_lookOf) := goodIn_s _ [(9, 3), (5, 1), (12, 7), (5, 1), (19, 18), (41, 40)] rfl (by decide +kernel)
set_option maxRecDepth 20000 in
theorem gX8_look_X8_no : GoodIn wsX8_look (wsV RX8 163 RX8 yX8_no wsX8_no) := goodIn_s _ [(37, 3), (5, 1), (40, 1), (8, 1), (41, 40)] rfl (by decide +kernel)
set_option maxRecDepth 20000 in
theorem gX8_lookLeaves_X8_good : GoodIn wsX8_lookLeaves (wsV RX8 160 RX8 yX8_good wsX8_good) := goodIn_s _ [(3, 7), (41, 40)] rfl (by decide +kernel)
set_option maxRecDepth 20000 in
theorem gX8_lookLeaves_X8_no : GoodIn wsX8_lookLeaves (wsV RX8 163 RX8 yX8_no wsX8_no) := goodIn_s _ [(10, 3), (6, 1), (13, 1), (9, 1), (41, 40)] rfl (by decide +kernel)
set_option maxRecDepth 20000 in
theorem gX8_lookLeaves_X8_lookOf : GoodIn wsX8_lookLeaves (wsV RX8 349 RX8 yX8_lookOf wsX8_lookOf) := goodIn_s _ [(14, 3), (6, 1), (17, 1), (2, 1), (18, 5), (6, 1), (23, 58)] rfl (by decide +kernel)
set_option maxRecDepth 20000 in
theorem gX8_judge_X8_good : GoodIn wsX8_judge (wsV RX8 160 RX8 yX8_good wsX8_good) := goodIn_s _ [(3, 7), (19, 40)] rfl (by decide +kernel)
set_option maxRecDepth 20000 in
theorem gX8_judge_X8_no : GoodIn wsX8_judge (wsV RX8 163 RX8 yX8_no wsX8_no) := goodIn_s _ [(10, 3), (6, 1), (13, 1), (9, 1), (19, 40)] rfl (by decide +kernel)
set_option maxRecDepth 20000 in
theorem gX8_judge_X8_turnBy : GoodIn wsX8_judge (wsV RX8 327 RX8 yX8_turnBy wsX8_turnBy) := goodIn_s _ [(14, 3), (6, 1), (17, 2), (2, 1), (19, 40)] rfl (by decide +kernel)
set_option maxRecDepth 20000 in
theorem gX8_lawsLike_X8_good : GoodIn wsX8_lawsLike (wsV RX8 160 RX8 yX8_good wsX8_good) := goodIn_s _ [(3, 7), (27, 40)] rfl (by decide +kernel)
set_option maxRecDepth 20000 in
theorem gX8_lawsLike_X8_no : GoodIn wsX8_lawsLike (wsV RX8 163 RX8 yX8_no wsX8_no) := goodIn_s _ [(10, 3), (6, 1), (13, 1), (9, 1), (27, 40)] rfl (by decide +kernel)
set_option maxRecDepth 20000 in
theorem gX8_lawsLike_X8_codes : GoodIn wsX8_lawsLike (wsV RX8 334 RX8 yX8_codes wsX8_codes) := goodIn_s _ [(14, 3), (6, 1), (17, 1), (2, 1), (27, 40)] rfl (by decide +kernel)
set_option maxRecDepth 20000 in
theorem gX8_lawsLike_X8_byCode : GoodIn wsX8_lawsLike (wsV RX8 331 RX8 yX8_byCode wsX8_byCode) := goodIn_s _ [(18, 3), (6, 1), (21, 1), (2, 1), (22, 3), (6, 1), (25, 42)] rfl (by decide +kernel)
set_option maxRecDepth 20000 in
theorem gX8_lawsLike_X8_turnBy : GoodIn wsX8_lawsLike (wsV RX8 327 RX8 yX8_turnBy wsX8_turnBy) := goodIn_s _ [(22, 3), (6, 1), (25, 2), (2, 1), (27, 40)] rfl (by decide +kernel)
set_option maxRecDepth 20000 in
theorem gX8_lawFor_X8_good : GoodIn wsX8_lawFor (wsV RX8 160 RX8 yX8_good wsX8_good) := goodIn_s _ [(1, 7), (38, 40)] rfl (by decide +kernel)
set_option maxRecDepth 20000 in
theorem gX8_lawFor_X8_isFigure : GoodIn wsX8_lawFor (wsV RX8 277 RX8 yX8_isFigure wsX8_isFigure) := goodIn_s _ [(8, 3), (4, 1), (11, 5), (4, 1), (16, 1), (38, 40)] rfl (by decide +kernel)
set_option maxRecDepth 20000 in
theorem gX8_lawFor_X8_in : GoodIn wsX8_lawFor (va_wsS RX8 142 yX8_in wsX8_in) := goodIn_s _ [(14, 2), (4, 1), (16, 1)] rfl (by decide +kernel)
set_option maxRecDepth 20000 in
theorem gX8_lawFor_X8_why : GoodIn wsX8_lawFor (wsV RX8 290 RX8 yX8_why wsX8_why) := goodIn_s _ [(17, 3), (4, 1), (20, 1)] rfl (by decide +kernel)
set_option maxRecDepth 20000 in
theorem gX8_lawFor_X8_no : GoodIn wsX8_lawFor (wsV RX8 163 RX8 yX8_no wsX8_no) := goodIn_s _ [(21, 3), (4, 1), (24, 1), (7, 1), (38, 40)] rfl (by decide +kernel)
set_option maxRecDepth 20000 in
theorem gX8_lawFor_X8_byCode : GoodIn wsX8_lawFor (wsV RX8 331 RX8 yX8_byCode wsX8_byCode) := goodIn_s _ [(25, 3), (4, 1), (28, 1), (13, 1), (29, 3), (4, 1), (32, 2), (38, 40)] rfl (by decide +kernel)
set_option maxRecDepth 20000 in
theorem gX8_lawFor_X8_numberOf : GoodIn wsX8_lawFor (wsV RX8 340 RX8 yX8_numberOf wsX8_numberOf) := goodIn_s _ [(34, 3), (4, 1), (37, 1), (13, 1), (38, 40)] rfl (by decide +kernel)
set_option maxRecDepth 20000 in
theorem gX8_dares_X8_good : GoodIn wsX8_dares (wsV RX8 160 RX8 yX8_good wsX8_good) := goodIn_s _ [(3, 6), (2, 1), (22, 40)] rfl (by decide +kernel)
set_option maxRecDepth 20000 in
theorem gX8_dares_X8_in : GoodIn wsX8_dares (va_wsS RX8 142 yX8_in wsX8_in) := goodIn_s _ [(9, 2), (6, 1), (11, 1)] rfl (by decide +kernel)
set_option maxRecDepth 20000 in
theorem gX8_dares_X8_why : GoodIn wsX8_dares (wsV RX8 290 RX8 yX8_why wsX8_why) := goodIn_s _ [(12, 3), (6, 1), (15, 1)] rfl (by decide +kernel)
set_option maxRecDepth 20000 in
theorem gX8_dares_X8_otherHas : GoodIn wsX8_dares (va_wsS RX8 352 yX8_otherHas wsX8_otherHas) := goodIn_s _ [(16, 2), (6, 1), (18, 1)] rfl (by decide +kernel)
set_option maxRecDepth 20000 in
theorem gX8_dares_X8_figureHas : GoodIn wsX8_dares (va_wsS RX8 355 yX8_figureHas wsX8_figureHas) := goodIn_s _ [(19, 2), (6, 1), (21, 1)] rfl (by decide +kernel)
set_option maxRecDepth 20000 in
theorem gX8_seekRests_X8_figureHas : GoodIn wsX8_seekRests (va_wsS RX8 355 yX8_figureHas wsX8_figureHas) := goodIn_s _ [(2, 4)] rfl (by decide +kernel)
set_option maxRecDepth 20000 in
theorem gX8_seekRests_X8_otherHas : GoodIn wsX8_seekRests (va_wsS RX8 352 yX8_otherHas wsX8_otherHas) := goodIn_s _ [(6, 2), (4, 1), (8, 1)] rfl (by decide +kernel)
set_option maxRecDepth 20000 in
theorem gX8_rests_X8_good : GoodIn wsX8_rests (wsV RX8 160 RX8 yX8_good wsX8_good) := goodIn_s _ [(2, 7), (31, 40)] rfl (by decide +kernel)
set_option maxRecDepth 20000 in
theorem gX8_rests_X8_in : GoodIn wsX8_rests (va_wsS RX8 142 yX8_in wsX8_in) := goodIn_s _ [(9, 2), (5, 1), (11, 1)] rfl (by decide +kernel)
set_option maxRecDepth 20000 in
theorem gX8_rests_X8_why : GoodIn wsX8_rests (wsV RX8 290 RX8 yX8_why wsX8_why) := goodIn_s _ [(12, 3), (5, 1), (15, 1)] rfl (by decide +kernel)
set_option maxRecDepth 20000 in
theorem gX8_rests_X8_no : GoodIn wsX8_rests (wsV RX8 163 RX8 yX8_no wsX8_no) := goodIn_s _ [(16, 3), (5, 1), (19, 1), (8, 1), (31, 40)] rfl (by decide +kernel)
set_option maxRecDepth 20000 in
theorem gX8_rests_X8_seekRests : GoodIn wsX8_rests (wsV RX8 362 RX8 yX8_seekRests wsX8_seekRests) := goodIn_s _ [(20, 3), (5, 1), (23, 4), (5, 1), (27, 44)] rfl (by decide +kernel)
set_option maxRecDepth 20000 in
theorem gX8_rest_X8_good : GoodIn wsX8_rest (wsV RX8 160 RX8 yX8_good wsX8_good) := goodIn_s _ [(3, 7), (31, 40)] rfl (by decide +kernel)
set_option maxRecDepth 20000 in
theorem gX8_rest_X8_in : GoodIn wsX8_rest (va_wsS RX8 142 yX8_in wsX8_in) := goodIn_s _ [(10, 2), (6, 1), (12, 1)] rfl (by decide +kernel)
set_option maxRecDepth 20000 in
theorem gX8_rest_X8_why : GoodIn wsX8_rest (wsV RX8 290 RX8 yX8_why wsX8_why) := goodIn_s _ [(13, 3), (6, 1), (16, 1)] rfl (by decide +kernel)
set_option maxRecDepth 20000 in
theorem gX8_rest_X8_no : GoodIn wsX8_rest (wsV RX8 163 RX8 yX8_no wsX8_no) := goodIn_s _ [(17, 3), (6, 1), (20, 1), (9, 1), (31, 40)] rfl (by decide +kernel)
set_option maxRecDepth 20000 in
theorem gX8_rest_X8_seekRests : GoodIn wsX8_rest (wsV RX8 362 RX8 yX8_seekRests wsX8_seekRests) := goodIn_s _ [(21, 3), (6, 1), (24, 1), (2, 1), (25, 2), (6, 1), (27, 44)] rfl (by decide +kernel)
set_option maxRecDepth 20000 in
theorem gX8_turnsOf_X8_goRound : GoodIn wsX8_turnsOf (wsV RX8 294 RX8 yX8_goRound wsX8_goRound) := goodIn_s _ [(1, 12), (4, 1), (13, 2), (19, 40)] rfl (by decide +kernel)
set_option maxRecDepth 20000 in
theorem gX8_turnsOf_X8_turnAt : GoodIn wsX8_turnsOf (wsV RX8 297 RX8 yX8_turnAt wsX8_turnAt) := goodIn_s _ [(15, 3), (4, 1), (18, 1), (8, 1), (7, 1), (9, 1), (19, 40)] rfl (by decide +kernel)
set_option maxRecDepth 20000 in
theorem gX8_odds_X8_good : GoodIn wsX8_odds (wsV RX8 160 RX8 yX8_good wsX8_good) := goodIn_s _ [(3, 7), (49, 40)] rfl (by decide +kernel)
set_option maxRecDepth 20000 in
theorem gX8_odds_X8_isFigure : GoodIn wsX8_odds (wsV RX8 277 RX8 yX8_isFigure wsX8_isFigure) := goodIn_s _ [(10, 3), (6, 1), (13, 2), (2, 1), (15, 2), (6, 1), (17, 1), (49, 40)] rfl (by decide +kernel)
set_option maxRecDepth 20000 in
theorem gX8_odds_X8_in : GoodIn wsX8_odds (va_wsS RX8 142 yX8_in wsX8_in) := goodIn_s _ [(15, 2), (6, 1), (17, 1)] rfl (by decide +kernel)
set_option maxRecDepth 20000 in
theorem gX8_odds_X8_why : GoodIn wsX8_odds (wsV RX8 290 RX8 yX8_why wsX8_why) := goodIn_s _ [(18, 3), (6, 1), (21, 1)] rfl (by decide +kernel)
set_option maxRecDepth 20000 in
theorem gX8_odds_X8_no : GoodIn wsX8_odds (wsV RX8 163 RX8 yX8_no wsX8_no) := goodIn_s _ [(22, 3), (6, 1), (25, 1), (9, 1), (49, 40)] rfl (by decide +kernel)
set_option maxRecDepth 20000 in
theorem gX8_odds_X8_turnsOf : GoodIn wsX8_odds (wsV RX8 365 RX8 yX8_turnsOf wsX8_turnsOf) := goodIn_s _ [(26, 3), (6, 1), (29, 4), (6, 1), (33, 9), (2, 1), (42, 4), (49, 40)] rfl (by decide +kernel)
set_option maxRecDepth 20000 in
theorem gX8_odds_X8_lowest : GoodIn wsX8_odds (va_wsS RX8 370 yX8_lowest wsX8_lowest) := goodIn_s _ [(46, 2), (6, 1), (48, 1)] rfl (by decide +kernel)
set_option maxRecDepth 20000 in
theorem gX8_mean_X8_good : GoodIn wsX8_mean (wsV RX8 160 RX8 yX8_good wsX8_good) := goodIn_s _ [(3, 7), (49, 40)] rfl (by decide +kernel)
set_option maxRecDepth 20000 in
theorem gX8_mean_X8_isFigure : GoodIn wsX8_mean (wsV RX8 277 RX8 yX8_isFigure wsX8_isFigure) := goodIn_s _ [(10, 3), (6, 1), (13, 2), (1, 1), (15, 2), (6, 1), (17, 1), (49, 40)] rfl (by decide +kernel)
set_option maxRecDepth 20000 in
theorem gX8_mean_X8_in : GoodIn wsX8_mean (va_wsS RX8 142 yX8_in wsX8_in) := goodIn_s _ [(15, 2), (6, 1), (17, 1)] rfl (by decide +kernel)
set_option maxRecDepth 20000 in
theorem gX8_mean_X8_why : GoodIn wsX8_mean (wsV RX8 290 RX8 yX8_why wsX8_why) := goodIn_s _ [(18, 3), (6, 1), (21, 1)] rfl (by decide +kernel)
set_option maxRecDepth 20000 in
theorem gX8_mean_X8_no : GoodIn wsX8_mean (wsV RX8 163 RX8 yX8_no wsX8_no) := goodIn_s _ [(22, 3), (6, 1), (25, 1), (9, 1), (49, 40)] rfl (by decide +kernel)
set_option maxRecDepth 20000 in
theorem gX8_mean_X8_turnsOf : GoodIn wsX8_mean (wsV RX8 365 RX8 yX8_turnsOf wsX8_turnsOf) := goodIn_s _ [(26, 3), (6, 1), (29, 4), (6, 1), (33, 9), (1, 1), (42, 4), (49, 40)] rfl (by decide +kernel)
set_option maxRecDepth 20000 in
theorem gX8_mean_X8_lowest : GoodIn wsX8_mean (va_wsS RX8 370 yX8_lowest wsX8_lowest) := goodIn_s _ [(46, 2), (6, 1), (48, 1)] rfl (by decide +kernel)
set_option maxRecDepth 20000 in
theorem gX8_drawWhy_X8_in : GoodIn wsX8_drawWhy (va_wsS RX8 142 yX8_in wsX8_in) := goodIn_s _ [(6, 4)] rfl (by decide +kernel)
set_option maxRecDepth 20000 in
theorem gX8_drawWhy_X8_why : GoodIn wsX8_drawWhy (wsV RX8 290 RX8 yX8_why wsX8_why) := goodIn_s _ [(10, 3), (8, 1), (13, 1)] rfl (by decide +kernel)
set_option maxRecDepth 20000 in
theorem gX8_drawWhy_X8_goRound : GoodIn wsX8_drawWhy (wsV RX8 294 RX8 yX8_goRound wsX8_goRound) := goodIn_s _ [(14, 3), (8, 1), (17, 8), (8, 1), (25, 1), (5, 1), (30, 40)] rfl (by decide +kernel)
set_option maxRecDepth 20000 in
theorem gX8_drawWhy_X8_turnAt : GoodIn wsX8_drawWhy (wsV RX8 297 RX8 yX8_turnAt wsX8_turnAt) := goodIn_s _ [(26, 3), (8, 1), (29, 1), (20, 1), (19, 1), (21, 1), (30, 40)] rfl (by decide +kernel)
set_option maxRecDepth 20000 in
theorem gX8_drawn_X8_good : GoodIn wsX8_drawn (wsV RX8 160 RX8 yX8_good wsX8_good) := goodIn_s _ [(2, 7), (49, 40)] rfl (by decide +kernel)
set_option maxRecDepth 20000 in
theorem gX8_drawn_X8_isFigure : GoodIn wsX8_drawn (wsV RX8 277 RX8 yX8_isFigure wsX8_isFigure) := goodIn_s _ [(9, 3), (5, 1), (12, 5), (5, 1), (17, 1), (49, 40)] rfl (by decide +kernel)
set_option maxRecDepth 20000 in
theorem gX8_drawn_X8_drawWhy : GoodIn wsX8_drawn (wsV RX8 382 RX8 yX8_drawWhy wsX8_drawWhy) := goodIn_s _ [(18, 3), (5, 1), (21, 3), (1, 1), (24, 1), (14, 3), (5, 1), (17, 1), (25, 20), (49, 40)] rfl (by decide +kernel)
set_option maxRecDepth 20000 in
theorem gX8_drawn_X8_no : GoodIn wsX8_drawn (wsV RX8 163 RX8 yX8_no wsX8_no) := goodIn_s _ [(45, 3), (5, 1), (48, 1), (8, 1), (49, 40)] rfl (by decide +kernel)
set_option maxRecDepth 20000 in
theorem gX8_firstShut_X8_good : GoodIn wsX8_firstShut (wsV RX8 160 RX8 yX8_good wsX8_good) := goodIn_s _ [(3, 7), (45, 40)] rfl (by decide +kernel)
set_option maxRecDepth 20000 in
theorem gX8_firstShut_X8_drawWhy : GoodIn wsX8_firstShut (wsV RX8 382 RX8 yX8_drawWhy wsX8_drawWhy) := goodIn_s _ [(10, 3), (6, 1), (13, 2), (2, 1), (15, 5), (6, 1), (20, 21), (45, 40)] rfl (by decide +kernel)
set_option maxRecDepth 20000 in
theorem gX8_firstShut_X8_no : GoodIn wsX8_firstShut (wsV RX8 163 RX8 yX8_no wsX8_no) := goodIn_s _ [(41, 3), (6, 1), (44, 1), (9, 1), (45, 40)] rfl (by decide +kernel)
set_option maxRecDepth 20000 in
theorem gX8_note_X8_copy : GoodIn wsX8_note (va_wsS RX8 169 yX8_copy wsX8_copy) := goodIn_s _ [(4, 4)] rfl (by decide +kernel)
set_option maxRecDepth 20000 in
theorem gX8_go_X8_good : GoodIn wsX8_go (wsV RX8 160 RX8 yX8_good wsX8_good) := goodIn_s _ [(3, 7), (68, 40)] rfl (by decide +kernel)
set_option maxRecDepth 20000 in
theorem gX8_go_X8_in : GoodIn wsX8_go (va_wsS RX8 142 yX8_in wsX8_in) := goodIn_s _ [(10, 2), (6, 1), (12, 1)] rfl (by decide +kernel)
set_option maxRecDepth 20000 in
theorem gX8_go_X8_why : GoodIn wsX8_go (wsV RX8 290 RX8 yX8_why wsX8_why) := goodIn_s _ [(13, 3), (6, 1), (16, 1)] rfl (by decide +kernel)
set_option maxRecDepth 20000 in
theorem gX8_go_X8_no : GoodIn wsX8_go (wsV RX8 163 RX8 yX8_no wsX8_no) := goodIn_s _ [(17, 3), (6, 1), (20, 1), (9, 1), (68, 40)] rfl (by decide +kernel)
set_option maxRecDepth 20000 in
theorem gX8_go_X8_note : GoodIn wsX8_go (wsV RX8 386 RX8 yX8_note wsX8_note) := goodIn_s _ [(21, 3), (6, 1), (24, 3), (2, 1), (27, 2), (6, 1), (29, 1), (68, 40)] rfl (by decide +kernel)
set_option maxRecDepth 20000 in
theorem gX8_go_X8_watchAsTold : GoodIn wsX8_go (wsV RX8 267 RX8 yX8_watchAsTold wsX8_watchAsTold) := goodIn_s _ [(30, 3), (6, 1), (33, 5), (68, 40)] rfl (by decide +kernel)
set_option maxRecDepth 20000 in
theorem gX8_go_X8_minuteOn : GoodIn wsX8_go (wsV RX8 273 RX8 yX8_minuteOn wsX8_minuteOn) := goodIn_s _ [(38, 3), (6, 1), (41, 2), (34, 1), (43, 4), (6, 1), (47, 9), (37, 1), (56, 4), (36, 1), (35, 1), (60, 48)] rfl (by decide +kernel)
set_option maxRecDepth 20000 in
theorem gX8_put_X8_good : GoodIn wsX8_put (wsV RX8 160 RX8 yX8_good wsX8_good) := goodIn_s _ [(2, 7), (34, 40)] rfl (by decide +kernel)
set_option maxRecDepth 20000 in
theorem gX8_put_X8_isFigure : GoodIn wsX8_put (wsV RX8 277 RX8 yX8_isFigure wsX8_isFigure) := goodIn_s _ [(9, 3), (5, 1), (12, 5), (5, 1), (17, 1), (34, 40)] rfl (by decide +kernel)
set_option maxRecDepth 20000 in
theorem gX8_put_X8_no : GoodIn wsX8_put (wsV RX8 163 RX8 yX8_no wsX8_no) := goodIn_s _ [(18, 3), (5, 1), (21, 1), (8, 1), (34, 40)] rfl (by decide +kernel)
set_option maxRecDepth 20000 in
theorem gX8_put_X8_hasBit : GoodIn wsX8_put (va_wsS RX8 238 yX8_hasBit wsX8_hasBit) := goodIn_s _ [(22, 2), (5, 1), (24, 1)] rfl (by decide +kernel)
set_option maxRecDepth 20000 in
theorem gX8_put_X8_note : GoodIn wsX8_put (wsV RX8 386 RX8 yX8_note wsX8_note) := goodIn_s _ [(25, 3), (5, 1), (28, 3), (1, 1), (31, 2), (5, 1), (33, 41)] rfl (by decide +kernel)
set_option maxRecDepth 20000 in
theorem gX8_wind_X8_good : GoodIn wsX8_wind (wsV RX8 160 RX8 yX8_good wsX8_good) := goodIn_s _ [(2, 7), (31, 40)] rfl (by decide +kernel)
set_option maxRecDepth 20000 in
theorem gX8_wind_X8_isFigure : GoodIn wsX8_wind (wsV RX8 277 RX8 yX8_isFigure wsX8_isFigure) := goodIn_s _ [(9, 3), (5, 1), (12, 5), (5, 1), (17, 1), (31, 40)] rfl (by decide +kernel)
set_option maxRecDepth 20000 in
theorem gX8_wind_X8_no : GoodIn wsX8_wind (wsV RX8 163 RX8 yX8_no wsX8_no) := goodIn_s _ [(18, 3), (5, 1), (21, 1), (8, 1), (31, 40)] rfl (by decide +kernel)
set_option maxRecDepth 20000 in
theorem gX8_wind_X8_note : GoodIn wsX8_wind (wsV RX8 386 RX8 yX8_note wsX8_note) := goodIn_s _ [(22, 3), (5, 1), (25, 3), (1, 1), (28, 2), (5, 1), (30, 41)] rfl (by decide +kernel)
set_option maxRecDepth 20000 in
theorem gX8_undo_X8_good : GoodIn wsX8_undo (wsV RX8 160 RX8 yX8_good wsX8_good) := goodIn_s _ [(4, 7), (18, 40)] rfl (by decide +kernel)
set_option maxRecDepth 20000 in
theorem gX8_undo_X8_isNot : GoodIn wsX8_undo (wsV RX8 389 RX8 yX8_isNot wsX8_isNot) := goodIn_s _ [(11, 3), (7, 1), (14, 1), (10, 1), (18, 40)] rfl (by decide +kernel)
set_option maxRecDepth 20000 in
theorem gX8_undo_X8_copy : GoodIn wsX8_undo (va_wsS RX8 169 yX8_copy wsX8_copy) := goodIn_s _ [(15, 2), (7, 1), (17, 1)] rfl (by decide +kernel)
set_option maxRecDepth 20000 in
theorem gX8_image_X8_good : GoodIn wsX8_image (wsV RX8 160 RX8 yX8_good wsX8_good) := goodIn_s _ [(5, 7), (19, 40)] rfl (by decide +kernel)
set_option maxRecDepth 20000 in
theorem gX8_image_X8_no : GoodIn wsX8_image (wsV RX8 163 RX8 yX8_no wsX8_no) := goodIn_s _ [(12, 3), (8, 1), (15, 1), (11, 1), (19, 40)] rfl (by decide +kernel)
set_option maxRecDepth 20000 in
theorem gX8_image_X8_copy : GoodIn wsX8_image (va_wsS RX8 169 yX8_copy wsX8_copy) := goodIn_s _ [(16, 2), (8, 1), (18, 1)] rfl (by decide +kernel)
set_option maxRecDepth 20000 in
theorem gX8_back_X8_good : GoodIn wsX8_back (wsV RX8 160 RX8 yX8_good wsX8_good) := goodIn_s _ [(5, 7), (22, 40)] rfl (by decide +kernel)
end P226_good_2
section P226_good_3
set_option maxRecDepth 20000 in
theorem gX8_back_X8_in : GoodIn wsX8_back (va_wsS RX8 142 yX8_in wsX8_in) := goodIn_s _ [(12, 2), (8, 1), (14, 1)] rfl (by decide +kernel)
set_option maxRecDepth 20000 in
theorem gX8_back_X8_isNot : GoodIn wsX8_back (wsV RX8 389 RX8 yX8_isNot wsX8_isNot) := goodIn_s _ [(15, 3), (8, 1), (18, 1), (11, 1), (22, 40)] rfl (by decide +kernel)
set_option maxRecDepth 20000 in
theorem gX8_back_X8_copy : GoodIn wsX8_back (va_wsS RX8 169 yX8_copy wsX8_copy) := goodIn_s _ [(19, 2), (8, 1), (21, 1)] rfl (by decide +kernel)
set_option maxRecDepth 20000 in
theorem gX8_size_X8_in : GoodIn wsX8_size (va_wsS RX8 142 yX8_in wsX8_in) := goodIn_s _ [(8, 4)] rfl (by decide +kernel)
end P226_good_3
section P230_00_safe
set_option maxHeartbeats 4000000 in
set_option maxRecDepth 100000 in
theorem c_X8_copy_23_23 (l : Launch) (dC : Nat → ClassId) (dI : Nat → Nat → Nat) (sz : Nat) (a1 : Nat) (a2 : Int32) (a3 : Nat) (a4 : Int32) (a5 : Int32) (ka1 : ClassId) (fa1 : Nat → Int32) (ka3 : ClassId) (fa3 : Nat → Int32) (ba2_l : (0 : Int) ≤ a2.toInt) (ba2_u : a2.toInt ≤ (0 : Int)) (ba4_l : (0 : Int) ≤ a4.toInt) (ba4_u : a4.toInt ≤ (0 : Int)) (ba5_l : (23 : Int) ≤ a5.toInt) (ba5_u : a5.toInt ≤ (23 : Int)) : zm l yX8_copy wsX8_copy ({ frames := 0, cells := 0, slots := 0, locals := 0 }) [.ref a1, .int a2, .ref a3, .int a4, .int a5] dC dI sz [(a1, .inl (ka1, 23, .inl (fa1))), (a3, .inl (ka3, 23, .inl (fa3)))] [(ka1, .int), (ka3, .int)] (fun A _ => True) (fun A => va_Qv (fun (_ : Unit) => True) (fun (_ : Unit) (t : State) => ∃ nfa3 : Nat → Int32, nfa3 = va_cpy fa1 fa3 a2.toNatClampNeg a4.toNatClampNeg 23 ∧ ax_B dC dI A [(a1, .inl (ka1, 23, .inl (fa1))), (a3, .inl (ka3, 23, .inl (nfa3)))] [(ka1, .int), (ka3, .int)] t) A) := by
  refine zh (cc := cX8_copy) (maxL := 6) (ret := none) zn_RX8 rfl (Nat.le_of_ble_eq_true rfl) (fun p e s m below meth c A ls hx hb hml hr hts (hown : s.vm.findClass RX8 = some m.cls) hlocks hA hS hP hK hD hE (hl : lv_has ls 6 [(0, .ref a1), (1, .int a2), (2, .ref a3), (3, .int a4), (4, .int a5)]) => ?_)
  refine ai_open (fun K hK0 => ?_)
  refine (hK0 _ _ _).mpr ?_
  refine lv_iconst (v := 0) hx hb dX8_copy_0 zk_iconst_0 ?_
  refine lv_istore (lv' := [(5, .int 0), (0, .ref a1), (1, .int a2), (2, .ref a3), (3, .int a4), (4, .int a5)]) hx hb dX8_copy_1 hl (by decide) rfl (fun ls hl => ?_)
  have J3 : ∀ (n : Nat) (j3l5 : Int32) (j3a3_a : Nat → Int32) (H : Heap) (locs : List Loc) (ls : Array Slot), (24 : Int) - j3l5.toInt ≤ (n : Int) → (0 : Int) ≤ j3l5.toInt → j3l5.toInt ≤ (23 : Int) → (j3a3_a = va_cpy fa1 fa3 a2.toNatClampNeg a4.toNatClampNeg j3l5.toNatClampNeg) → va_P (dC, dI) vwCl [(a1, .inl (ka1, 23, .inl (fa1))), (a3, .inl (ka3, 23, .inl (j3a3_a)))] H → va_D A [(a1, .inl (ka1, 23, .inl (fa1))), (a3, .inl (ka3, 23, .inl (j3a3_a)))] → va_S A s.heap H locs → lv_has ls 6 [(0, .ref a1), (1, .int a2), (2, .ref a3), (3, .int a4), (4, .int a5), (5, .int j3l5)] → K H locs (F0 m 3 ls []) := by
    intro n
    induction n with
    | zero =>
      intro j3l5 j3a3_a H locs ls hm bj3l5_l bj3l5_u cpy3 hP hD hS hl
      first | exact zg_0 hm bj3l5_u (by decide) | (have h8 := ai_min j3l5; have h9 := ai_max j3l5; exact absurd hm (by omega))
    | succ n ih3 =>
      intro j3l5 j3a3_a H locs ls hm bj3l5_l bj3l5_u cpy3 hP hD hS hl
      refine (hK0 _ _ _).mpr ?_
      have hm3 := hm
      refine lv_iload hx hb dX8_copy_3 (lv_at hl 5 rfl) ?_
      refine lv_iload hx hb dX8_copy_5 (lv_at hl 4 rfl) ?_
      refine lv_icmp_ge (tgt := 28) hx hb dX8_copy_7 (by decide) (fun c7 => ?_) (fun c7 => ?_)
      · have gc7 := ai_le c7
        have u7t_a5 : a5.toInt ≤ (23 : Int) := ba5_u
        have l7t_j3l5 : (23 : Int) ≤ j3l5.toInt := Int.le_trans ba5_l gc7
        exact W.vret hx hb hr (fun t ht hW => ⟨⟨(), rfl, trivial, j3a3_a, (cpy3.trans (congrArg (va_cpy fa1 fa3 a2.toNatClampNeg a4.toNatClampNeg) (cp_e (n := 23) (by omega)))), by rw [ht]; exact hP, va_K.moved hW.alike hK, hD⟩, hS.F ht⟩) hS.2.2 dX8_copy_28
      · have gc7 := ai_nle c7
        have u7f_j3l5 : j3l5.toInt ≤ (22 : Int) := ai_lthi gc7 ba5_u
        have l7f_a5 : (23 : Int) ≤ a5.toInt := ba5_l
        refine lv_aload_n hx hb dX8_copy_10 rfl (lv_at hl 2 rfl) ?_
        refine lv_iload_n hx hb dX8_copy_11 rfl (lv_at hl 3 rfl) ?_
        refine lv_iload hx hb dX8_copy_12 (lv_at hl 5 rfl) ?_
        refine lv_iadd hx hb dX8_copy_14 ?_
        refine lv_topi (fun x14 ex14 => ?_)
        have qx14 : x14.toInt = a4.toInt + j3l5.toInt := ai_add ex14 ⟨ba4_l, ba4_u⟩ ⟨bj3l5_l, u7f_j3l5⟩ (by decide) (by decide)
        have bx14 : (0 : Int) ≤ x14.toInt ∧ x14.toInt ≤ 22 := ⟨by rw [qx14]; exact Int.add_le_add ba4_l bj3l5_l, by rw [qx14]; exact Int.add_le_add ba4_u u7f_j3l5⟩
        refine lv_aload_n hx hb dX8_copy_15 rfl (lv_at hl 0 rfl) ?_
        refine lv_iload_n hx hb dX8_copy_16 rfl (lv_at hl 1 rfl) ?_
        refine lv_iload hx hb dX8_copy_17 (lv_at hl 5 rfl) ?_
        refine lv_iadd hx hb dX8_copy_19 ?_
        refine lv_topi (fun x19 ex19 => ?_)
        have qx19 : x19.toInt = a2.toInt + j3l5.toInt := ai_add ex19 ⟨ba2_l, ba2_u⟩ ⟨bj3l5_l, u7f_j3l5⟩ (by decide) (by decide)
        have bx19 : (0 : Int) ≤ x19.toInt ∧ x19.toInt ≤ 22 := ⟨by rw [qx19]; exact Int.add_le_add ba2_l bj3l5_l, by rw [qx19]; exact Int.add_le_add ba2_u u7f_j3l5⟩
        refine va_iald hx hb hK hP 0 0 rfl rfl (ai_in bx19.1 bx19.2 (by decide) (by decide)) dX8_copy_20 ?_
        refine lv_topi (fun x20 ex20 => ?_)
        refine va_iast hx hb hK hP hD hS 1 1 rfl rfl (ai_in bx14.1 bx14.2 (by decide) (by decide)) dX8_copy_21 (fun H locs hP hD hS => ?_)
        obtain ⟨f21, ef21, hP, hD⟩ : ∃ g9 : Nat → Int32, g9 = upd j3a3_a (x14 : Int32).toNatClampNeg x20 ∧ va_P (dC, dI) vwCl [(a1, .inl (ka1, 23, .inl (fa1))), (a3, .inl (ka3, 23, .inl (g9)))] H ∧ va_D A [(a1, .inl (ka1, 23, .inl (fa1))), (a3, .inl (ka3, 23, .inl (g9)))] := ⟨_, rfl, hP, hD⟩
        obtain ⟨x22, ex22⟩ : ∃ y : Int32, y = j3l5 + Int32.ofInt 1 := ⟨_, rfl⟩
        have qx22 : x22.toInt = j3l5.toInt + 1 := ai_inc ex22 (by decide) (by decide) u7f_j3l5 (by decide)
        have bx22 : (1 : Int) ≤ x22.toInt ∧ x22.toInt ≤ 23 := ⟨by rw [qx22]; exact Int.add_le_add bj3l5_l (Int.le_refl _), by rw [qx22]; exact Int.add_le_add u7f_j3l5 (Int.le_refl _)⟩
        refine lv_iinc (v := x22) (lv' := [(5, .int x22), (0, .ref a1), (1, .int a2), (2, .ref a3), (3, .int a4), (4, .int a5)]) hx hb dX8_copy_22 hl (k := 5) rfl ex22.symm (by decide) rfl (fun ls hl => ?_)
        refine lv_goto (tgt := 3) hx hb dX8_copy_25 (by decide) ?_
        exact (hK0 _ _ _).mp (ih3 x22 f21 _ _ _ (by first | exact zg_s hm3 qx22 | (have h0 := qx22; omega)) (Int.le_trans zq4 bx22.1) bx22.2 (cp_s cpy3 ef21 ex20 (cp_i qx14 ba4_l bj3l5_l) (cp_i qx19 ba2_l bj3l5_l) (cp_k qx22 bj3l5_l)) hP hD hS (lv_sub hl [1, 2, 3, 4, 5, 0] rfl))
  exact (hK0 _ _ _).mp (J3 24 0 fa3 _ _ _ (by first | decide +kernel | (have h1 : (0 : Int) ≤ (0 : Int32).toInt := zq5; have h2 : (0 : Int32).toInt ≤ (0 : Int) := zq6; omega)) zq5 (Int.le_trans zq6 zq164) (cp_0 (by decide)) hP hD hS (lv_sub hl [1, 2, 3, 4, 5, 0] rfl))

set_option maxHeartbeats 4000000 in
set_option maxRecDepth 100000 in
theorem c_X8_copy_23_368 (l : Launch) (dC : Nat → ClassId) (dI : Nat → Nat → Nat) (sz : Nat) (a1 : Nat) (a2 : Int32) (a3 : Nat) (a4 : Int32) (a5 : Int32) (ka1 : ClassId) (fa1 : Nat → Int32) (ka3 : ClassId) (fa3 : Nat → Int32) (ba2_l : (0 : Int) ≤ a2.toInt) (ba2_u : a2.toInt ≤ (0 : Int)) (ba4_l : (0 : Int) ≤ a4.toInt) (ba4_u : a4.toInt ≤ (345 : Int)) (ba5_l : (23 : Int) ≤ a5.toInt) (ba5_u : a5.toInt ≤ (23 : Int)) : zm l yX8_copy wsX8_copy ({ frames := 0, cells := 0, slots := 0, locals := 0 }) [.ref a1, .int a2, .ref a3, .int a4, .int a5] dC dI sz [(a1, .inl (ka1, 23, .inl (fa1))), (a3, .inl (ka3, 368, .inl (fa3)))] [(ka1, .int), (ka3, .int)] (fun A _ => True) (fun A => va_Qv (fun (_ : Unit) => True) (fun (_ : Unit) (t : State) => ∃ nfa3 : Nat → Int32, nfa3 = va_cpy fa1 fa3 a2.toNatClampNeg a4.toNatClampNeg 23 ∧ ax_B dC dI A [(a1, .inl (ka1, 23, .inl (fa1))), (a3, .inl (ka3, 368, .inl (nfa3)))] [(ka1, .int), (ka3, .int)] t) A) := by
  refine zh (cc := cX8_copy) (maxL := 6) (ret := none) zn_RX8 rfl (Nat.le_of_ble_eq_true rfl) (fun p e s m below meth c A ls hx hb hml hr hts (hown : s.vm.findClass RX8 = some m.cls) hlocks hA hS hP hK hD hE (hl : lv_has ls 6 [(0, .ref a1), (1, .int a2), (2, .ref a3), (3, .int a4), (4, .int a5)]) => ?_)
  refine ai_open (fun K hK0 => ?_)
  refine (hK0 _ _ _).mpr ?_
  refine lv_iconst (v := 0) hx hb dX8_copy_0 zk_iconst_0 ?_
  refine lv_istore (lv' := [(5, .int 0), (0, .ref a1), (1, .int a2), (2, .ref a3), (3, .int a4), (4, .int a5)]) hx hb dX8_copy_1 hl (by decide) rfl (fun ls hl => ?_)
  have J3 : ∀ (n : Nat) (j3l5 : Int32) (j3a3_a : Nat → Int32) (H : Heap) (locs : List Loc) (ls : Array Slot), (24 : Int) - j3l5.toInt ≤ (n : Int) → (0 : Int) ≤ j3l5.toInt → j3l5.toInt ≤ (23 : Int) → (j3a3_a = va_cpy fa1 fa3 a2.toNatClampNeg a4.toNatClampNeg j3l5.toNatClampNeg) → va_P (dC, dI) vwCl [(a1, .inl (ka1, 23, .inl (fa1))), (a3, .inl (ka3, 368, .inl (j3a3_a)))] H → va_D A [(a1, .inl (ka1, 23, .inl (fa1))), (a3, .inl (ka3, 368, .inl (j3a3_a)))] → va_S A s.heap H locs → lv_has ls 6 [(0, .ref a1), (1, .int a2), (2, .ref a3), (3, .int a4), (4, .int a5), (5, .int j3l5)] → K H locs (F0 m 3 ls []) := by
    intro n
    induction n with
    | zero =>
      intro j3l5 j3a3_a H locs ls hm bj3l5_l bj3l5_u cpy3 hP hD hS hl
      first | exact zg_0 hm bj3l5_u (by decide) | (have h8 := ai_min j3l5; have h9 := ai_max j3l5; exact absurd hm (by omega))
    | succ n ih3 =>
      intro j3l5 j3a3_a H locs ls hm bj3l5_l bj3l5_u cpy3 hP hD hS hl
      refine (hK0 _ _ _).mpr ?_
      have hm3 := hm
      refine lv_iload hx hb dX8_copy_3 (lv_at hl 5 rfl) ?_
      refine lv_iload hx hb dX8_copy_5 (lv_at hl 4 rfl) ?_
      refine lv_icmp_ge (tgt := 28) hx hb dX8_copy_7 (by decide) (fun c7 => ?_) (fun c7 => ?_)
      · have gc7 := ai_le c7
        have u7t_a5 : a5.toInt ≤ (23 : Int) := ba5_u
        have l7t_j3l5 : (23 : Int) ≤ j3l5.toInt := Int.le_trans ba5_l gc7
        exact W.vret hx hb hr (fun t ht hW => ⟨⟨(), rfl, trivial, j3a3_a, (cpy3.trans (congrArg (va_cpy fa1 fa3 a2.toNatClampNeg a4.toNatClampNeg) (cp_e (n := 23) (by omega)))), by rw [ht]; exact hP, va_K.moved hW.alike hK, hD⟩, hS.F ht⟩) hS.2.2 dX8_copy_28
      · have gc7 := ai_nle c7
        have u7f_j3l5 : j3l5.toInt ≤ (22 : Int) := ai_lthi gc7 ba5_u
        have l7f_a5 : (23 : Int) ≤ a5.toInt := ba5_l
        refine lv_aload_n hx hb dX8_copy_10 rfl (lv_at hl 2 rfl) ?_
        refine lv_iload_n hx hb dX8_copy_11 rfl (lv_at hl 3 rfl) ?_
        refine lv_iload hx hb dX8_copy_12 (lv_at hl 5 rfl) ?_
        refine lv_iadd hx hb dX8_copy_14 ?_
        refine lv_topi (fun x14 ex14 => ?_)
        have qx14 : x14.toInt = a4.toInt + j3l5.toInt := ai_add ex14 ⟨ba4_l, ba4_u⟩ ⟨bj3l5_l, u7f_j3l5⟩ (by decide) (by decide)
        have bx14 : (0 : Int) ≤ x14.toInt ∧ x14.toInt ≤ 367 := ⟨by rw [qx14]; exact Int.add_le_add ba4_l bj3l5_l, by rw [qx14]; exact Int.add_le_add ba4_u u7f_j3l5⟩
        refine lv_aload_n hx hb dX8_copy_15 rfl (lv_at hl 0 rfl) ?_
        refine lv_iload_n hx hb dX8_copy_16 rfl (lv_at hl 1 rfl) ?_
        refine lv_iload hx hb dX8_copy_17 (lv_at hl 5 rfl) ?_
        refine lv_iadd hx hb dX8_copy_19 ?_
        refine lv_topi (fun x19 ex19 => ?_)
        have qx19 : x19.toInt = a2.toInt + j3l5.toInt := ai_add ex19 ⟨ba2_l, ba2_u⟩ ⟨bj3l5_l, u7f_j3l5⟩ (by decide) (by decide)
        have bx19 : (0 : Int) ≤ x19.toInt ∧ x19.toInt ≤ 22 := ⟨by rw [qx19]; exact Int.add_le_add ba2_l bj3l5_l, by rw [qx19]; exact Int.add_le_add ba2_u u7f_j3l5⟩
        refine va_iald hx hb hK hP 0 0 rfl rfl (ai_in bx19.1 bx19.2 (by decide) (by decide)) dX8_copy_20 ?_
        refine lv_topi (fun x20 ex20 => ?_)
        refine va_iast hx hb hK hP hD hS 1 1 rfl rfl (ai_in bx14.1 bx14.2 (by decide) (by decide)) dX8_copy_21 (fun H locs hP hD hS => ?_)
        obtain ⟨f21, ef21, hP, hD⟩ : ∃ g9 : Nat → Int32, g9 = upd j3a3_a (x14 : Int32).toNatClampNeg x20 ∧ va_P (dC, dI) vwCl [(a1, .inl (ka1, 23, .inl (fa1))), (a3, .inl (ka3, 368, .inl (g9)))] H ∧ va_D A [(a1, .inl (ka1, 23, .inl (fa1))), (a3, .inl (ka3, 368, .inl (g9)))] := ⟨_, rfl, hP, hD⟩
        obtain ⟨x22, ex22⟩ : ∃ y : Int32, y = j3l5 + Int32.ofInt 1 := ⟨_, rfl⟩
        have qx22 : x22.toInt = j3l5.toInt + 1 := ai_inc ex22 (by decide) (by decide) u7f_j3l5 (by decide)
        have bx22 : (1 : Int) ≤ x22.toInt ∧ x22.toInt ≤ 23 := ⟨by rw [qx22]; exact Int.add_le_add bj3l5_l (Int.le_refl _), by rw [qx22]; exact Int.add_le_add u7f_j3l5 (Int.le_refl _)⟩
        refine lv_iinc (v := x22) (lv' := [(5, .int x22), (0, .ref a1), (1, .int a2), (2, .ref a3), (3, .int a4), (4, .int a5)]) hx hb dX8_copy_22 hl (k := 5) rfl ex22.symm (by decide) rfl (fun ls hl => ?_)
        refine lv_goto (tgt := 3) hx hb dX8_copy_25 (by decide) ?_
        exact (hK0 _ _ _).mp (ih3 x22 f21 _ _ _ (by first | exact zg_s hm3 qx22 | (have h0 := qx22; omega)) (Int.le_trans zq4 bx22.1) bx22.2 (cp_s cpy3 ef21 ex20 (cp_i qx14 ba4_l bj3l5_l) (cp_i qx19 ba2_l bj3l5_l) (cp_k qx22 bj3l5_l)) hP hD hS (lv_sub hl [1, 2, 3, 4, 5, 0] rfl))
  exact (hK0 _ _ _).mp (J3 24 0 fa3 _ _ _ (by first | decide +kernel | (have h1 : (0 : Int) ≤ (0 : Int32).toInt := zq5; have h2 : (0 : Int32).toInt ≤ (0 : Int) := zq6; omega)) zq5 (Int.le_trans zq6 zq164) (cp_0 (by decide)) hP hD hS (lv_sub hl [1, 2, 3, 4, 5, 0] rfl))

set_option maxHeartbeats 4000000 in
set_option maxRecDepth 100000 in
theorem c_X8_copy_368_23 (l : Launch) (dC : Nat → ClassId) (dI : Nat → Nat → Nat) (sz : Nat) (a1 : Nat) (a2 : Int32) (a3 : Nat) (a4 : Int32) (a5 : Int32) (ka1 : ClassId) (fa1 : Nat → Int32) (ka3 : ClassId) (fa3 : Nat → Int32) (ba2_l : (0 : Int) ≤ a2.toInt) (ba2_u : a2.toInt ≤ (345 : Int)) (ba4_l : (0 : Int) ≤ a4.toInt) (ba4_u : a4.toInt ≤ (0 : Int)) (ba5_l : (23 : Int) ≤ a5.toInt) (ba5_u : a5.toInt ≤ (23 : Int)) : zm l yX8_copy wsX8_copy ({ frames := 0, cells := 0, slots := 0, locals := 0 }) [.ref a1, .int a2, .ref a3, .int a4, .int a5] dC dI sz [(a1, .inl (ka1, 368, .inl (fa1))), (a3, .inl (ka3, 23, .inl (fa3)))] [(ka1, .int), (ka3, .int)] (fun A _ => True) (fun A => va_Qv (fun (_ : Unit) => True) (fun (_ : Unit) (t : State) => ∃ nfa3 : Nat → Int32, nfa3 = va_cpy fa1 fa3 a2.toNatClampNeg a4.toNatClampNeg 23 ∧ ax_B dC dI A [(a1, .inl (ka1, 368, .inl (fa1))), (a3, .inl (ka3, 23, .inl (nfa3)))] [(ka1, .int), (ka3, .int)] t) A) := by
  refine zh (cc := cX8_copy) (maxL := 6) (ret := none) zn_RX8 rfl (Nat.le_of_ble_eq_true rfl) (fun p e s m below meth c A ls hx hb hml hr hts (hown : s.vm.findClass RX8 = some m.cls) hlocks hA hS hP hK hD hE (hl : lv_has ls 6 [(0, .ref a1), (1, .int a2), (2, .ref a3), (3, .int a4), (4, .int a5)]) => ?_)
  refine ai_open (fun K hK0 => ?_)
  refine (hK0 _ _ _).mpr ?_
  refine lv_iconst (v := 0) hx hb dX8_copy_0 zk_iconst_0 ?_
  refine lv_istore (lv' := [(5, .int 0), (0, .ref a1), (1, .int a2), (2, .ref a3), (3, .int a4), (4, .int a5)]) hx hb dX8_copy_1 hl (by decide) rfl (fun ls hl => ?_)
  have J3 : ∀ (n : Nat) (j3l5 : Int32) (j3a3_a : Nat → Int32) (H : Heap) (locs : List Loc) (ls : Array Slot), (24 : Int) - j3l5.toInt ≤ (n : Int) → (0 : Int) ≤ j3l5.toInt → j3l5.toInt ≤ (23 : Int) → (j3a3_a = va_cpy fa1 fa3 a2.toNatClampNeg a4.toNatClampNeg j3l5.toNatClampNeg) → va_P (dC, dI) vwCl [(a1, .inl (ka1, 368, .inl (fa1))), (a3, .inl (ka3, 23, .inl (j3a3_a)))] H → va_D A [(a1, .inl (ka1, 368, .inl (fa1))), (a3, .inl (ka3, 23, .inl (j3a3_a)))] → va_S A s.heap H locs → lv_has ls 6 [(0, .ref a1), (1, .int a2), (2, .ref a3), (3, .int a4), (4, .int a5), (5, .int j3l5)] → K H locs (F0 m 3 ls []) := by
    intro n
    induction n with
    | zero =>
      intro j3l5 j3a3_a H locs ls hm bj3l5_l bj3l5_u cpy3 hP hD hS hl
      first | exact zg_0 hm bj3l5_u (by decide) | (have h8 := ai_min j3l5; have h9 := ai_max j3l5; exact absurd hm (by omega))
    | succ n ih3 =>
      intro j3l5 j3a3_a H locs ls hm bj3l5_l bj3l5_u cpy3 hP hD hS hl
      refine (hK0 _ _ _).mpr ?_
      have hm3 := hm
      refine lv_iload hx hb dX8_copy_3 (lv_at hl 5 rfl) ?_
      refine lv_iload hx hb dX8_copy_5 (lv_at hl 4 rfl) ?_
      refine lv_icmp_ge (tgt := 28) hx hb dX8_copy_7 (by decide) (fun c7 => ?_) (fun c7 => ?_)
      · have gc7 := ai_le c7
        have u7t_a5 : a5.toInt ≤ (23 : Int) := ba5_u
        have l7t_j3l5 : (23 : Int) ≤ j3l5.toInt := Int.le_trans ba5_l gc7
        exact W.vret hx hb hr (fun t ht hW => ⟨⟨(), rfl, trivial, j3a3_a, (cpy3.trans (congrArg (va_cpy fa1 fa3 a2.toNatClampNeg a4.toNatClampNeg) (cp_e (n := 23) (by omega)))), by rw [ht]; exact hP, va_K.moved hW.alike hK, hD⟩, hS.F ht⟩) hS.2.2 dX8_copy_28
      · have gc7 := ai_nle c7
        have u7f_j3l5 : j3l5.toInt ≤ (22 : Int) := ai_lthi gc7 ba5_u
        have l7f_a5 : (23 : Int) ≤ a5.toInt := ba5_l
        refine lv_aload_n hx hb dX8_copy_10 rfl (lv_at hl 2 rfl) ?_
        refine lv_iload_n hx hb dX8_copy_11 rfl (lv_at hl 3 rfl) ?_
        refine lv_iload hx hb dX8_copy_12 (lv_at hl 5 rfl) ?_
        refine lv_iadd hx hb dX8_copy_14 ?_
        refine lv_topi (fun x14 ex14 => ?_)
        have qx14 : x14.toInt = a4.toInt + j3l5.toInt := ai_add ex14 ⟨ba4_l, ba4_u⟩ ⟨bj3l5_l, u7f_j3l5⟩ (by decide) (by decide)
        have bx14 : (0 : Int) ≤ x14.toInt ∧ x14.toInt ≤ 22 := ⟨by rw [qx14]; exact Int.add_le_add ba4_l bj3l5_l, by rw [qx14]; exact Int.add_le_add ba4_u u7f_j3l5⟩
        refine lv_aload_n hx hb dX8_copy_15 rfl (lv_at hl 0 rfl) ?_
        refine lv_iload_n hx hb dX8_copy_16 rfl (lv_at hl 1 rfl) ?_
        refine lv_iload hx hb dX8_copy_17 (lv_at hl 5 rfl) ?_
        refine lv_iadd hx hb dX8_copy_19 ?_
        refine lv_topi (fun x19 ex19 => ?_)
        have qx19 : x19.toInt = a2.toInt + j3l5.toInt := ai_add ex19 ⟨ba2_l, ba2_u⟩ ⟨bj3l5_l, u7f_j3l5⟩ (by decide) (by decide)
        have bx19 : (0 : Int) ≤ x19.toInt ∧ x19.toInt ≤ 367 := ⟨by rw [qx19]; exact Int.add_le_add ba2_l bj3l5_l, by rw [qx19]; exact Int.add_le_add ba2_u u7f_j3l5⟩
        refine va_iald hx hb hK hP 0 0 rfl rfl (ai_in bx19.1 bx19.2 (by decide) (by decide)) dX8_copy_20 ?_
        refine lv_topi (fun x20 ex20 => ?_)
        refine va_iast hx hb hK hP hD hS 1 1 rfl rfl (ai_in bx14.1 bx14.2 (by decide) (by decide)) dX8_copy_21 (fun H locs hP hD hS => ?_)
        obtain ⟨f21, ef21, hP, hD⟩ : ∃ g9 : Nat → Int32, g9 = upd j3a3_a (x14 : Int32).toNatClampNeg x20 ∧ va_P (dC, dI) vwCl [(a1, .inl (ka1, 368, .inl (fa1))), (a3, .inl (ka3, 23, .inl (g9)))] H ∧ va_D A [(a1, .inl (ka1, 368, .inl (fa1))), (a3, .inl (ka3, 23, .inl (g9)))] := ⟨_, rfl, hP, hD⟩
        obtain ⟨x22, ex22⟩ : ∃ y : Int32, y = j3l5 + Int32.ofInt 1 := ⟨_, rfl⟩
        have qx22 : x22.toInt = j3l5.toInt + 1 := ai_inc ex22 (by decide) (by decide) u7f_j3l5 (by decide)
        have bx22 : (1 : Int) ≤ x22.toInt ∧ x22.toInt ≤ 23 := ⟨by rw [qx22]; exact Int.add_le_add bj3l5_l (Int.le_refl _), by rw [qx22]; exact Int.add_le_add u7f_j3l5 (Int.le_refl _)⟩
        refine lv_iinc (v := x22) (lv' := [(5, .int x22), (0, .ref a1), (1, .int a2), (2, .ref a3), (3, .int a4), (4, .int a5)]) hx hb dX8_copy_22 hl (k := 5) rfl ex22.symm (by decide) rfl (fun ls hl => ?_)
        refine lv_goto (tgt := 3) hx hb dX8_copy_25 (by decide) ?_
        exact (hK0 _ _ _).mp (ih3 x22 f21 _ _ _ (by first | exact zg_s hm3 qx22 | (have h0 := qx22; omega)) (Int.le_trans zq4 bx22.1) bx22.2 (cp_s cpy3 ef21 ex20 (cp_i qx14 ba4_l bj3l5_l) (cp_i qx19 ba2_l bj3l5_l) (cp_k qx22 bj3l5_l)) hP hD hS (lv_sub hl [1, 2, 3, 4, 5, 0] rfl))
  exact (hK0 _ _ _).mp (J3 24 0 fa3 _ _ _ (by first | decide +kernel | (have h1 : (0 : Int) ≤ (0 : Int32).toInt := zq5; have h2 : (0 : Int32).toInt ≤ (0 : Int) := zq6; omega)) zq5 (Int.le_trans zq6 zq164) (cp_0 (by decide)) hP hD hS (lv_sub hl [1, 2, 3, 4, 5, 0] rfl))

set_option maxHeartbeats 4000000 in
set_option maxRecDepth 100000 in
theorem c_X8_copy_23_69 (l : Launch) (dC : Nat → ClassId) (dI : Nat → Nat → Nat) (sz : Nat) (a1 : Nat) (a2 : Int32) (a3 : Nat) (a4 : Int32) (a5 : Int32) (ka1 : ClassId) (fa1 : Nat → Int32) (ka3 : ClassId) (fa3 : Nat → Int32) (ba2_l : (0 : Int) ≤ a2.toInt) (ba2_u : a2.toInt ≤ (0 : Int)) (ba4_l : (0 : Int) ≤ a4.toInt) (ba4_u : a4.toInt ≤ (46 : Int)) (ba5_l : (23 : Int) ≤ a5.toInt) (ba5_u : a5.toInt ≤ (23 : Int)) : zm l yX8_copy wsX8_copy ({ frames := 0, cells := 0, slots := 0, locals := 0 }) [.ref a1, .int a2, .ref a3, .int a4, .int a5] dC dI sz [(a1, .inl (ka1, 23, .inl (fa1))), (a3, .inl (ka3, 69, .inl (fa3)))] [(ka1, .int), (ka3, .int)] (fun A _ => True) (fun A => va_Qv (fun (_ : Unit) => True) (fun (_ : Unit) (t : State) => ∃ nfa3 : Nat → Int32, nfa3 = va_cpy fa1 fa3 a2.toNatClampNeg a4.toNatClampNeg 23 ∧ ax_B dC dI A [(a1, .inl (ka1, 23, .inl (fa1))), (a3, .inl (ka3, 69, .inl (nfa3)))] [(ka1, .int), (ka3, .int)] t) A) := by
  refine zh (cc := cX8_copy) (maxL := 6) (ret := none) zn_RX8 rfl (Nat.le_of_ble_eq_true rfl) (fun p e s m below meth c A ls hx hb hml hr hts (hown : s.vm.findClass RX8 = some m.cls) hlocks hA hS hP hK hD hE (hl : lv_has ls 6 [(0, .ref a1), (1, .int a2), (2, .ref a3), (3, .int a4), (4, .int a5)]) => ?_)
  refine ai_open (fun K hK0 => ?_)
  refine (hK0 _ _ _).mpr ?_
  refine lv_iconst (v := 0) hx hb dX8_copy_0 zk_iconst_0 ?_
  refine lv_istore (lv' := [(5, .int 0), (0, .ref a1), (1, .int a2), (2, .ref a3), (3, .int a4), (4, .int a5)]) hx hb dX8_copy_1 hl (by decide) rfl (fun ls hl => ?_)
  have J3 : ∀ (n : Nat) (j3l5 : Int32) (j3a3_a : Nat → Int32) (H : Heap) (locs : List Loc) (ls : Array Slot), (24 : Int) - j3l5.toInt ≤ (n : Int) → (0 : Int) ≤ j3l5.toInt → j3l5.toInt ≤ (23 : Int) → (j3a3_a = va_cpy fa1 fa3 a2.toNatClampNeg a4.toNatClampNeg j3l5.toNatClampNeg) → va_P (dC, dI) vwCl [(a1, .inl (ka1, 23, .inl (fa1))), (a3, .inl (ka3, 69, .inl (j3a3_a)))] H → va_D A [(a1, .inl (ka1, 23, .inl (fa1))), (a3, .inl (ka3, 69, .inl (j3a3_a)))] → va_S A s.heap H locs → lv_has ls 6 [(0, .ref a1), (1, .int a2), (2, .ref a3), (3, .int a4), (4, .int a5), (5, .int j3l5)] → K H locs (F0 m 3 ls []) := by
    intro n
    induction n with
    | zero =>
      intro j3l5 j3a3_a H locs ls hm bj3l5_l bj3l5_u cpy3 hP hD hS hl
      first | exact zg_0 hm bj3l5_u (by decide) | (have h8 := ai_min j3l5; have h9 := ai_max j3l5; exact absurd hm (by omega))
    | succ n ih3 =>
      intro j3l5 j3a3_a H locs ls hm bj3l5_l bj3l5_u cpy3 hP hD hS hl
      refine (hK0 _ _ _).mpr ?_
      have hm3 := hm
      refine lv_iload hx hb dX8_copy_3 (lv_at hl 5 rfl) ?_
      refine lv_iload hx hb dX8_copy_5 (lv_at hl 4 rfl) ?_
      refine lv_icmp_ge (tgt := 28) hx hb dX8_copy_7 (by decide) (fun c7 => ?_) (fun c7 => ?_)
      · have gc7 := ai_le c7
        have u7t_a5 : a5.toInt ≤ (23 : Int) := ba5_u
        have l7t_j3l5 : (23 : Int) ≤ j3l5.toInt := Int.le_trans ba5_l gc7
        exact W.vret hx hb hr (fun t ht hW => ⟨⟨(), rfl, trivial, j3a3_a, (cpy3.trans (congrArg (va_cpy fa1 fa3 a2.toNatClampNeg a4.toNatClampNeg) (cp_e (n := 23) (by omega)))), by rw [ht]; exact hP, va_K.moved hW.alike hK, hD⟩, hS.F ht⟩) hS.2.2 dX8_copy_28
      · have gc7 := ai_nle c7
        have u7f_j3l5 : j3l5.toInt ≤ (22 : Int) := ai_lthi gc7 ba5_u
        have l7f_a5 : (23 : Int) ≤ a5.toInt := ba5_l
        refine lv_aload_n hx hb dX8_copy_10 rfl (lv_at hl 2 rfl) ?_
        refine lv_iload_n hx hb dX8_copy_11 rfl (lv_at hl 3 rfl) ?_
        refine lv_iload hx hb dX8_copy_12 (lv_at hl 5 rfl) ?_
        refine lv_iadd hx hb dX8_copy_14 ?_
        refine lv_topi (fun x14 ex14 => ?_)
        have qx14 : x14.toInt = a4.toInt + j3l5.toInt := ai_add ex14 ⟨ba4_l, ba4_u⟩ ⟨bj3l5_l, u7f_j3l5⟩ (by decide) (by decide)
        have bx14 : (0 : Int) ≤ x14.toInt ∧ x14.toInt ≤ 68 := ⟨by rw [qx14]; exact Int.add_le_add ba4_l bj3l5_l, by rw [qx14]; exact Int.add_le_add ba4_u u7f_j3l5⟩
        refine lv_aload_n hx hb dX8_copy_15 rfl (lv_at hl 0 rfl) ?_
        refine lv_iload_n hx hb dX8_copy_16 rfl (lv_at hl 1 rfl) ?_
        refine lv_iload hx hb dX8_copy_17 (lv_at hl 5 rfl) ?_
        refine lv_iadd hx hb dX8_copy_19 ?_
        refine lv_topi (fun x19 ex19 => ?_)
        have qx19 : x19.toInt = a2.toInt + j3l5.toInt := ai_add ex19 ⟨ba2_l, ba2_u⟩ ⟨bj3l5_l, u7f_j3l5⟩ (by decide) (by decide)
        have bx19 : (0 : Int) ≤ x19.toInt ∧ x19.toInt ≤ 22 := ⟨by rw [qx19]; exact Int.add_le_add ba2_l bj3l5_l, by rw [qx19]; exact Int.add_le_add ba2_u u7f_j3l5⟩
        refine va_iald hx hb hK hP 0 0 rfl rfl (ai_in bx19.1 bx19.2 (by decide) (by decide)) dX8_copy_20 ?_
        refine lv_topi (fun x20 ex20 => ?_)
        refine va_iast hx hb hK hP hD hS 1 1 rfl rfl (ai_in bx14.1 bx14.2 (by decide) (by decide)) dX8_copy_21 (fun H locs hP hD hS => ?_)
        obtain ⟨f21, ef21, hP, hD⟩ : ∃ g9 : Nat → Int32, g9 = upd j3a3_a (x14 : Int32).toNatClampNeg x20 ∧ va_P (dC, dI) vwCl [(a1, .inl (ka1, 23, .inl (fa1))), (a3, .inl (ka3, 69, .inl (g9)))] H ∧ va_D A [(a1, .inl (ka1, 23, .inl (fa1))), (a3, .inl (ka3, 69, .inl (g9)))] := ⟨_, rfl, hP, hD⟩
        obtain ⟨x22, ex22⟩ : ∃ y : Int32, y = j3l5 + Int32.ofInt 1 := ⟨_, rfl⟩
        have qx22 : x22.toInt = j3l5.toInt + 1 := ai_inc ex22 (by decide) (by decide) u7f_j3l5 (by decide)
        have bx22 : (1 : Int) ≤ x22.toInt ∧ x22.toInt ≤ 23 := ⟨by rw [qx22]; exact Int.add_le_add bj3l5_l (Int.le_refl _), by rw [qx22]; exact Int.add_le_add u7f_j3l5 (Int.le_refl _)⟩
        refine lv_iinc (v := x22) (lv' := [(5, .int x22), (0, .ref a1), (1, .int a2), (2, .ref a3), (3, .int a4), (4, .int a5)]) hx hb dX8_copy_22 hl (k := 5) rfl ex22.symm (by decide) rfl (fun ls hl => ?_)
        refine lv_goto (tgt := 3) hx hb dX8_copy_25 (by decide) ?_
        exact (hK0 _ _ _).mp (ih3 x22 f21 _ _ _ (by first | exact zg_s hm3 qx22 | (have h0 := qx22; omega)) (Int.le_trans zq4 bx22.1) bx22.2 (cp_s cpy3 ef21 ex20 (cp_i qx14 ba4_l bj3l5_l) (cp_i qx19 ba2_l bj3l5_l) (cp_k qx22 bj3l5_l)) hP hD hS (lv_sub hl [1, 2, 3, 4, 5, 0] rfl))
  exact (hK0 _ _ _).mp (J3 24 0 fa3 _ _ _ (by first | decide +kernel | (have h1 : (0 : Int) ≤ (0 : Int32).toInt := zq5; have h2 : (0 : Int32).toInt ≤ (0 : Int) := zq6; omega)) zq5 (Int.le_trans zq6 zq164) (cp_0 (by decide)) hP hD hS (lv_sub hl [1, 2, 3, 4, 5, 0] rfl))

set_option maxHeartbeats 4000000 in
set_option maxRecDepth 100000 in
theorem c_X8_copy_69_23 (l : Launch) (dC : Nat → ClassId) (dI : Nat → Nat → Nat) (sz : Nat) (a1 : Nat) (a2 : Int32) (a3 : Nat) (a4 : Int32) (a5 : Int32) (ka1 : ClassId) (fa1 : Nat → Int32) (ka3 : ClassId) (fa3 : Nat → Int32) (ba2_l : (0 : Int) ≤ a2.toInt) (ba2_u : a2.toInt ≤ (46 : Int)) (ba4_l : (0 : Int) ≤ a4.toInt) (ba4_u : a4.toInt ≤ (0 : Int)) (ba5_l : (23 : Int) ≤ a5.toInt) (ba5_u : a5.toInt ≤ (23 : Int)) : zm l yX8_copy wsX8_copy ({ frames := 0, cells := 0, slots := 0, locals := 0 }) [.ref a1, .int a2, .ref a3, .int a4, .int a5] dC dI sz [(a1, .inl (ka1, 69, .inl (fa1))), (a3, .inl (ka3, 23, .inl (fa3)))] [(ka1, .int), (ka3, .int)] (fun A _ => True) (fun A => va_Qv (fun (_ : Unit) => True) (fun (_ : Unit) (t : State) => ∃ nfa3 : Nat → Int32, nfa3 = va_cpy fa1 fa3 a2.toNatClampNeg a4.toNatClampNeg 23 ∧ ax_B dC dI A [(a1, .inl (ka1, 69, .inl (fa1))), (a3, .inl (ka3, 23, .inl (nfa3)))] [(ka1, .int), (ka3, .int)] t) A) := by
  refine zh (cc := cX8_copy) (maxL := 6) (ret := none) zn_RX8 rfl (Nat.le_of_ble_eq_true rfl) (fun p e s m below meth c A ls hx hb hml hr hts (hown : s.vm.findClass RX8 = some m.cls) hlocks hA hS hP hK hD hE (hl : lv_has ls 6 [(0, .ref a1), (1, .int a2), (2, .ref a3), (3, .int a4), (4, .int a5)]) => ?_)
  refine ai_open (fun K hK0 => ?_)
  refine (hK0 _ _ _).mpr ?_
  refine lv_iconst (v := 0) hx hb dX8_copy_0 zk_iconst_0 ?_
  refine lv_istore (lv' := [(5, .int 0), (0, .ref a1), (1, .int a2), (2, .ref a3), (3, .int a4), (4, .int a5)]) hx hb dX8_copy_1 hl (by decide) rfl (fun ls hl => ?_)
  have J3 : ∀ (n : Nat) (j3l5 : Int32) (j3a3_a : Nat → Int32) (H : Heap) (locs : List Loc) (ls : Array Slot), (24 : Int) - j3l5.toInt ≤ (n : Int) → (0 : Int) ≤ j3l5.toInt → j3l5.toInt ≤ (23 : Int) → (j3a3_a = va_cpy fa1 fa3 a2.toNatClampNeg a4.toNatClampNeg j3l5.toNatClampNeg) → va_P (dC, dI) vwCl [(a1, .inl (ka1, 69, .inl (fa1))), (a3, .inl (ka3, 23, .inl (j3a3_a)))] H → va_D A [(a1, .inl (ka1, 69, .inl (fa1))), (a3, .inl (ka3, 23, .inl (j3a3_a)))] → va_S A s.heap H locs → lv_has ls 6 [(0, .ref a1), (1, .int a2), (2, .ref a3), (3, .int a4), (4, .int a5), (5, .int j3l5)] → K H locs (F0 m 3 ls []) := by
    intro n
    induction n with
    | zero =>
      intro j3l5 j3a3_a H locs ls hm bj3l5_l bj3l5_u cpy3 hP hD hS hl
      first | exact zg_0 hm bj3l5_u (by decide) | (have h8 := ai_min j3l5; have h9 := ai_max j3l5; exact absurd hm (by omega))
    | succ n ih3 =>
      intro j3l5 j3a3_a H locs ls hm bj3l5_l bj3l5_u cpy3 hP hD hS hl
      refine (hK0 _ _ _).mpr ?_
      have hm3 := hm
      refine lv_iload hx hb dX8_copy_3 (lv_at hl 5 rfl) ?_
      refine lv_iload hx hb dX8_copy_5 (lv_at hl 4 rfl) ?_
      refine lv_icmp_ge (tgt := 28) hx hb dX8_copy_7 (by decide) (fun c7 => ?_) (fun c7 => ?_)
      · have gc7 := ai_le c7
        have u7t_a5 : a5.toInt ≤ (23 : Int) := ba5_u
        have l7t_j3l5 : (23 : Int) ≤ j3l5.toInt := Int.le_trans ba5_l gc7
        exact W.vret hx hb hr (fun t ht hW => ⟨⟨(), rfl, trivial, j3a3_a, (cpy3.trans (congrArg (va_cpy fa1 fa3 a2.toNatClampNeg a4.toNatClampNeg) (cp_e (n := 23) (by omega)))), by rw [ht]; exact hP, va_K.moved hW.alike hK, hD⟩, hS.F ht⟩) hS.2.2 dX8_copy_28
      · have gc7 := ai_nle c7
        have u7f_j3l5 : j3l5.toInt ≤ (22 : Int) := ai_lthi gc7 ba5_u
        have l7f_a5 : (23 : Int) ≤ a5.toInt := ba5_l
        refine lv_aload_n hx hb dX8_copy_10 rfl (lv_at hl 2 rfl) ?_
        refine lv_iload_n hx hb dX8_copy_11 rfl (lv_at hl 3 rfl) ?_
        refine lv_iload hx hb dX8_copy_12 (lv_at hl 5 rfl) ?_
        refine lv_iadd hx hb dX8_copy_14 ?_
        refine lv_topi (fun x14 ex14 => ?_)
        have qx14 : x14.toInt = a4.toInt + j3l5.toInt := ai_add ex14 ⟨ba4_l, ba4_u⟩ ⟨bj3l5_l, u7f_j3l5⟩ (by decide) (by decide)
        have bx14 : (0 : Int) ≤ x14.toInt ∧ x14.toInt ≤ 22 := ⟨by rw [qx14]; exact Int.add_le_add ba4_l bj3l5_l, by rw [qx14]; exact Int.add_le_add ba4_u u7f_j3l5⟩
        refine lv_aload_n hx hb dX8_copy_15 rfl (lv_at hl 0 rfl) ?_
        refine lv_iload_n hx hb dX8_copy_16 rfl (lv_at hl 1 rfl) ?_
        refine lv_iload hx hb dX8_copy_17 (lv_at hl 5 rfl) ?_
        refine lv_iadd hx hb dX8_copy_19 ?_
        refine lv_topi (fun x19 ex19 => ?_)
        have qx19 : x19.toInt = a2.toInt + j3l5.toInt := ai_add ex19 ⟨ba2_l, ba2_u⟩ ⟨bj3l5_l, u7f_j3l5⟩ (by decide) (by decide)
        have bx19 : (0 : Int) ≤ x19.toInt ∧ x19.toInt ≤ 68 := ⟨by rw [qx19]; exact Int.add_le_add ba2_l bj3l5_l, by rw [qx19]; exact Int.add_le_add ba2_u u7f_j3l5⟩
        refine va_iald hx hb hK hP 0 0 rfl rfl (ai_in bx19.1 bx19.2 (by decide) (by decide)) dX8_copy_20 ?_
        refine lv_topi (fun x20 ex20 => ?_)
        refine va_iast hx hb hK hP hD hS 1 1 rfl rfl (ai_in bx14.1 bx14.2 (by decide) (by decide)) dX8_copy_21 (fun H locs hP hD hS => ?_)
        obtain ⟨f21, ef21, hP, hD⟩ : ∃ g9 : Nat → Int32, g9 = upd j3a3_a (x14 : Int32).toNatClampNeg x20 ∧ va_P (dC, dI) vwCl [(a1, .inl (ka1, 69, .inl (fa1))), (a3, .inl (ka3, 23, .inl (g9)))] H ∧ va_D A [(a1, .inl (ka1, 69, .inl (fa1))), (a3, .inl (ka3, 23, .inl (g9)))] := ⟨_, rfl, hP, hD⟩
        obtain ⟨x22, ex22⟩ : ∃ y : Int32, y = j3l5 + Int32.ofInt 1 := ⟨_, rfl⟩
        have qx22 : x22.toInt = j3l5.toInt + 1 := ai_inc ex22 (by decide) (by decide) u7f_j3l5 (by decide)
        have bx22 : (1 : Int) ≤ x22.toInt ∧ x22.toInt ≤ 23 := ⟨by rw [qx22]; exact Int.add_le_add bj3l5_l (Int.le_refl _), by rw [qx22]; exact Int.add_le_add u7f_j3l5 (Int.le_refl _)⟩
        refine lv_iinc (v := x22) (lv' := [(5, .int x22), (0, .ref a1), (1, .int a2), (2, .ref a3), (3, .int a4), (4, .int a5)]) hx hb dX8_copy_22 hl (k := 5) rfl ex22.symm (by decide) rfl (fun ls hl => ?_)
        refine lv_goto (tgt := 3) hx hb dX8_copy_25 (by decide) ?_
        exact (hK0 _ _ _).mp (ih3 x22 f21 _ _ _ (by first | exact zg_s hm3 qx22 | (have h0 := qx22; omega)) (Int.le_trans zq4 bx22.1) bx22.2 (cp_s cpy3 ef21 ex20 (cp_i qx14 ba4_l bj3l5_l) (cp_i qx19 ba2_l bj3l5_l) (cp_k qx22 bj3l5_l)) hP hD hS (lv_sub hl [1, 2, 3, 4, 5, 0] rfl))
  exact (hK0 _ _ _).mp (J3 24 0 fa3 _ _ _ (by first | decide +kernel | (have h1 : (0 : Int) ≤ (0 : Int32).toInt := zq5; have h2 : (0 : Int32).toInt ≤ (0 : Int) := zq6; omega)) zq5 (Int.le_trans zq6 zq164) (cp_0 (by decide)) hP hD hS (lv_sub hl [1, 2, 3, 4, 5, 0] rfl))

set_option maxHeartbeats 4000000 in
set_option maxRecDepth 100000 in
theorem c_X8_copy_156_156 (l : Launch) (dC : Nat → ClassId) (dI : Nat → Nat → Nat) (sz : Nat) (a1 : Nat) (a2 : Int32) (a3 : Nat) (a4 : Int32) (a5 : Int32) (ka1 : ClassId) (fa1 : Nat → Int32) (ka3 : ClassId) (fa3 : Nat → Int32) (ba2_l : (0 : Int) ≤ a2.toInt) (ba2_u : a2.toInt ≤ (0 : Int)) (ba4_l : (0 : Int) ≤ a4.toInt) (ba4_u : a4.toInt ≤ (0 : Int)) (ba5_l : (156 : Int) ≤ a5.toInt) (ba5_u : a5.toInt ≤ (156 : Int)) : zm l yX8_copy wsX8_copy ({ frames := 0, cells := 0, slots := 0, locals := 0 }) [.ref a1, .int a2, .ref a3, .int a4, .int a5] dC dI sz [(a1, .inl (ka1, 156, .inl (fa1))), (a3, .inl (ka3, 156, .inl (fa3)))] [(ka1, .int), (ka3, .int)] (fun A _ => True) (fun A => va_Qv (fun (_ : Unit) => True) (fun (_ : Unit) (t : State) => ∃ nfa3 : Nat → Int32, nfa3 = va_cpy fa1 fa3 a2.toNatClampNeg a4.toNatClampNeg 156 ∧ ax_B dC dI A [(a1, .inl (ka1, 156, .inl (fa1))), (a3, .inl (ka3, 156, .inl (nfa3)))] [(ka1, .int), (ka3, .int)] t) A) := by
  refine zh (cc := cX8_copy) (maxL := 6) (ret := none) zn_RX8 rfl (Nat.le_of_ble_eq_true rfl) (fun p e s m below meth c A ls hx hb hml hr hts (hown : s.vm.findClass RX8 = some m.cls) hlocks hA hS hP hK hD hE (hl : lv_has ls 6 [(0, .ref a1), (1, .int a2), (2, .ref a3), (3, .int a4), (4, .int a5)]) => ?_)
  refine ai_open (fun K hK0 => ?_)
  refine (hK0 _ _ _).mpr ?_
  refine lv_iconst (v := 0) hx hb dX8_copy_0 zk_iconst_0 ?_
  refine lv_istore (lv' := [(5, .int 0), (0, .ref a1), (1, .int a2), (2, .ref a3), (3, .int a4), (4, .int a5)]) hx hb dX8_copy_1 hl (by decide) rfl (fun ls hl => ?_)
  have J3 : ∀ (n : Nat) (j3l5 : Int32) (j3a3_a : Nat → Int32) (H : Heap) (locs : List Loc) (ls : Array Slot), (157 : Int) - j3l5.toInt ≤ (n : Int) → (0 : Int) ≤ j3l5.toInt → j3l5.toInt ≤ (156 : Int) → (j3a3_a = va_cpy fa1 fa3 a2.toNatClampNeg a4.toNatClampNeg j3l5.toNatClampNeg) → va_P (dC, dI) vwCl [(a1, .inl (ka1, 156, .inl (fa1))), (a3, .inl (ka3, 156, .inl (j3a3_a)))] H → va_D A [(a1, .inl (ka1, 156, .inl (fa1))), (a3, .inl (ka3, 156, .inl (j3a3_a)))] → va_S A s.heap H locs → lv_has ls 6 [(0, .ref a1), (1, .int a2), (2, .ref a3), (3, .int a4), (4, .int a5), (5, .int j3l5)] → K H locs (F0 m 3 ls []) := by
    intro n
    induction n with
    | zero =>
      intro j3l5 j3a3_a H locs ls hm bj3l5_l bj3l5_u cpy3 hP hD hS hl
      first | exact zg_0 hm bj3l5_u (by decide) | (have h8 := ai_min j3l5; have h9 := ai_max j3l5; exact absurd hm (by omega))
    | succ n ih3 =>
      intro j3l5 j3a3_a H locs ls hm bj3l5_l bj3l5_u cpy3 hP hD hS hl
      refine (hK0 _ _ _).mpr ?_
      have hm3 := hm
      refine lv_iload hx hb dX8_copy_3 (lv_at hl 5 rfl) ?_
      refine lv_iload hx hb dX8_copy_5 (lv_at hl 4 rfl) ?_
      refine lv_icmp_ge (tgt := 28) hx hb dX8_copy_7 (by decide) (fun c7 => ?_) (fun c7 => ?_)
      · have gc7 := ai_le c7
        have u7t_a5 : a5.toInt ≤ (156 : Int) := ba5_u
        have l7t_j3l5 : (156 : Int) ≤ j3l5.toInt := Int.le_trans ba5_l gc7
        exact W.vret hx hb hr (fun t ht hW => ⟨⟨(), rfl, trivial, j3a3_a, (cpy3.trans (congrArg (va_cpy fa1 fa3 a2.toNatClampNeg a4.toNatClampNeg) (cp_e (n := 156) (by omega)))), by rw [ht]; exact hP, va_K.moved hW.alike hK, hD⟩, hS.F ht⟩) hS.2.2 dX8_copy_28
      · have gc7 := ai_nle c7
        have u7f_j3l5 : j3l5.toInt ≤ (155 : Int) := ai_lthi gc7 ba5_u
        have l7f_a5 : (156 : Int) ≤ a5.toInt := ba5_l
        refine lv_aload_n hx hb dX8_copy_10 rfl (lv_at hl 2 rfl) ?_
        refine lv_iload_n hx hb dX8_copy_11 rfl (lv_at hl 3 rfl) ?_
        refine lv_iload hx hb dX8_copy_12 (lv_at hl 5 rfl) ?_
        refine lv_iadd hx hb dX8_copy_14 ?_
        refine lv_topi (fun x14 ex14 => ?_)
        have qx14 : x14.toInt = a4.toInt + j3l5.toInt := ai_add ex14 ⟨ba4_l, ba4_u⟩ ⟨bj3l5_l, u7f_j3l5⟩ (by decide) (by decide)
        have bx14 : (0 : Int) ≤ x14.toInt ∧ x14.toInt ≤ 155 := ⟨by rw [qx14]; exact Int.add_le_add ba4_l bj3l5_l, by rw [qx14]; exact Int.add_le_add ba4_u u7f_j3l5⟩
        refine lv_aload_n hx hb dX8_copy_15 rfl (lv_at hl 0 rfl) ?_
        refine lv_iload_n hx hb dX8_copy_16 rfl (lv_at hl 1 rfl) ?_
        refine lv_iload hx hb dX8_copy_17 (lv_at hl 5 rfl) ?_
        refine lv_iadd hx hb dX8_copy_19 ?_
        refine lv_topi (fun x19 ex19 => ?_)
        have qx19 : x19.toInt = a2.toInt + j3l5.toInt := ai_add ex19 ⟨ba2_l, ba2_u⟩ ⟨bj3l5_l, u7f_j3l5⟩ (by decide) (by decide)
        have bx19 : (0 : Int) ≤ x19.toInt ∧ x19.toInt ≤ 155 := ⟨by rw [qx19]; exact Int.add_le_add ba2_l bj3l5_l, by rw [qx19]; exact Int.add_le_add ba2_u u7f_j3l5⟩
        refine va_iald hx hb hK hP 0 0 rfl rfl (ai_in bx19.1 bx19.2 (by decide) (by decide)) dX8_copy_20 ?_
        refine lv_topi (fun x20 ex20 => ?_)
        refine va_iast hx hb hK hP hD hS 1 1 rfl rfl (ai_in bx14.1 bx14.2 (by decide) (by decide)) dX8_copy_21 (fun H locs hP hD hS => ?_)
        obtain ⟨f21, ef21, hP, hD⟩ : ∃ g9 : Nat → Int32, g9 = upd j3a3_a (x14 : Int32).toNatClampNeg x20 ∧ va_P (dC, dI) vwCl [(a1, .inl (ka1, 156, .inl (fa1))), (a3, .inl (ka3, 156, .inl (g9)))] H ∧ va_D A [(a1, .inl (ka1, 156, .inl (fa1))), (a3, .inl (ka3, 156, .inl (g9)))] := ⟨_, rfl, hP, hD⟩
        obtain ⟨x22, ex22⟩ : ∃ y : Int32, y = j3l5 + Int32.ofInt 1 := ⟨_, rfl⟩
        have qx22 : x22.toInt = j3l5.toInt + 1 := ai_inc ex22 (by decide) (by decide) u7f_j3l5 (by decide)
        have bx22 : (1 : Int) ≤ x22.toInt ∧ x22.toInt ≤ 156 := ⟨by rw [qx22]; exact Int.add_le_add bj3l5_l (Int.le_refl _), by rw [qx22]; exact Int.add_le_add u7f_j3l5 (Int.le_refl _)⟩
        refine lv_iinc (v := x22) (lv' := [(5, .int x22), (0, .ref a1), (1, .int a2), (2, .ref a3), (3, .int a4), (4, .int a5)]) hx hb dX8_copy_22 hl (k := 5) rfl ex22.symm (by decide) rfl (fun ls hl => ?_)
        refine lv_goto (tgt := 3) hx hb dX8_copy_25 (by decide) ?_
        exact (hK0 _ _ _).mp (ih3 x22 f21 _ _ _ (by first | exact zg_s hm3 qx22 | (have h0 := qx22; omega)) (Int.le_trans zq4 bx22.1) bx22.2 (cp_s cpy3 ef21 ex20 (cp_i qx14 ba4_l bj3l5_l) (cp_i qx19 ba2_l bj3l5_l) (cp_k qx22 bj3l5_l)) hP hD hS (lv_sub hl [1, 2, 3, 4, 5, 0] rfl))
  exact (hK0 _ _ _).mp (J3 157 0 fa3 _ _ _ (by first | decide +kernel | (have h1 : (0 : Int) ≤ (0 : Int32).toInt := zq5; have h2 : (0 : Int32).toInt ≤ (0 : Int) := zq6; omega)) zq5 (Int.le_trans zq6 zq167) (cp_0 (by decide)) hP hD hS (lv_sub hl [1, 2, 3, 4, 5, 0] rfl))
end P230_00_safe
section P232_00_safe
set_option maxHeartbeats 4000000 in
set_option maxRecDepth 100000 in
theorem c_X8_goRound (l : Launch) (dC : Nat → ClassId) (dI : Nat → Nat → Nat) (sz : Nat) (a0 : Nat) (a0g_0 a0g_1 a0g_2 a0g_3 a0g_4 a0g_5 a0g_6 a0g_7 a0g_8 a0g_9 a0g_10 a0g_11 a0g_12 a0g_13 a0g_14 a0g_16 a0g_18 a0g_19 a0g_20 a0g_21 a0g_22 a0g_23 a0g_24 a0g_25 a0g_26 a0g_27 a0g_28 a0g_32 a0g_33 a0g_34 a0g_35 a0g_36 a0g_37 a0g_38 a0g_39 : Value) (a0_15 : Nat) (a0_17 : Nat) (a0_29 : Nat) (a0_30 : Int32) (a0_31 : Int32) (ka0_17 : ClassId) (fa0_17 : Nat → Int32) (ka0_29 : ClassId) (fa0_29 : Nat → Int32) (ka0_15 : ClassId) (fa0_15 : Nat → Int32) (bfa0_17 : ((∀ k : Nat, 0 ≤ k → k ≤ 8 → (0 : Int) ≤ (fa0_17 k).toInt ∧ (fa0_17 k).toInt ≤ 8) ∧ (∀ k : Nat, 19 ≤ k → k ≤ 19 → (0 : Int) ≤ (fa0_17 k).toInt ∧ (fa0_17 k).toInt ≤ 8) ∧ (∀ k : Nat, 20 ≤ k → k ≤ 20 → (0 : Int) ≤ (fa0_17 k).toInt ∧ (fa0_17 k).toInt ≤ 19))) (bfa0_29 : (∀ k, (0 : Int) ≤ (fa0_29 k).toInt ∧ (fa0_29 k).toInt ≤ 8)) (bfa0_15 : ((∀ k : Nat, 0 ≤ k → k ≤ 0 → (2 : Int) ≤ (fa0_15 k).toInt ∧ (fa0_15 k).toInt ≤ 9) ∧ (∀ k : Nat, 1 ≤ k → k ≤ 1 → (1 : Int) ≤ (fa0_15 k).toInt ∧ (fa0_15 k).toInt ≤ 20) ∧ (∀ k : Nat, 2 ≤ k → k ≤ 2 → (0 : Int) ≤ (fa0_15 k).toInt ∧ (fa0_15 k).toInt ≤ 8) ∧ (∀ k : Nat, 3 ≤ k → k ≤ 3 → (0 : Int) ≤ (fa0_15 k).toInt ∧ (fa0_15 k).toInt ≤ 100) ∧ (∀ k : Nat, 4 ≤ k → k ≤ 4 → (0 : Int) ≤ (fa0_15 k).toInt ∧ (fa0_15 k).toInt ≤ 9) ∧ (∀ k : Nat, 5 ≤ k → k ≤ 5 → (0 : Int) ≤ (fa0_15 k).toInt ∧ (fa0_15 k).toInt ≤ 3) ∧ (∀ k : Nat, 6 ≤ k → k ≤ 6 → (0 : Int) ≤ (fa0_15 k).toInt ∧ (fa0_15 k).toInt ≤ 6) ∧ (∀ k : Nat, 7 ≤ k → k ≤ 9 → (0 : Int) ≤ (fa0_15 k).toInt ∧ (fa0_15 k).toInt ≤ 8) ∧ (∀ k : Nat, 12 ≤ k → k ≤ 29 → (0 : Int) ≤ (fa0_15 k).toInt ∧ (fa0_15 k).toInt ≤ 20) ∧ (∀ k : Nat, 30 ≤ k → k ≤ 35 → (0 : Int) ≤ (fa0_15 k).toInt ∧ (fa0_15 k).toInt ≤ 8) ∧ (∀ k : Nat, 36 ≤ k → k ≤ 47 → (0 : Int) ≤ (fa0_15 k).toInt ∧ (fa0_15 k).toInt ≤ 999))) : zm l yX8_goRound wsX8_goRound ({ frames := 1, cells := 0, slots := 0, locals := 21 }) [.ref a0] dC dI sz [(a0, .inr (8, [a0g_0, a0g_1, a0g_2, a0g_3, a0g_4, a0g_5, a0g_6, a0g_7, a0g_8, a0g_9, a0g_10, a0g_11, a0g_12, a0g_13, a0g_14, Value.ref a0_15, a0g_16, Value.ref a0_17, a0g_18, a0g_19, a0g_20, a0g_21, a0g_22, a0g_23, a0g_24, a0g_25, a0g_26, a0g_27, a0g_28, Value.ref a0_29, Value.int a0_30, Value.int a0_31, a0g_32, a0g_33, a0g_34, a0g_35, a0g_36, a0g_37, a0g_38, a0g_39])), (a0_17, .inl (ka0_17, 23, .inl (fa0_17))), (a0_29, .inl (ka0_29, 10, .inl (fa0_29))), (a0_15, .inl (ka0_15, 156, .inl (fa0_15)))] [(ka0_17, .int), (ka0_29, .int), (ka0_15, .int)] (fun A _ => True) (fun A => va_Qv (fun (_ : Unit) => True) (fun (_ : Unit) (t : State) => ∃ na0_30 : Int32, ∃ na0_31 : Int32, ∃ nfa0_29 : Nat → Int32, (∀ k, (0 : Int) ≤ (nfa0_29 k).toInt ∧ (nfa0_29 k).toInt ≤ 8) ∧ ((0 : Int) ≤ na0_30.toInt ∧ (1 : Int) ≤ na0_31.toInt ∧ na0_30.toInt + na0_31.toInt ≤ 9) ∧ ax_B dC dI A [(a0, .inr (8, [a0g_0, a0g_1, a0g_2, a0g_3, a0g_4, a0g_5, a0g_6, a0g_7, a0g_8, a0g_9, a0g_10, a0g_11, a0g_12, a0g_13, a0g_14, Value.ref a0_15, a0g_16, Value.ref a0_17, a0g_18, a0g_19, a0g_20, a0g_21, a0g_22, a0g_23, a0g_24, a0g_25, a0g_26, a0g_27, a0g_28, Value.ref a0_29, Value.int na0_30, Value.int na0_31, a0g_32, a0g_33, a0g_34, a0g_35, a0g_36, a0g_37, a0g_38, a0g_39])), (a0_17, .inl (ka0_17, 23, .inl (fa0_17))), (a0_29, .inl (ka0_29, 10, .inl (nfa0_29))), (a0_15, .inl (ka0_15, 156, .inl (fa0_15)))] [(ka0_17, .int), (ka0_29, .int), (ka0_15, .int)] t) A) := by
  refine zh (cc := cX8_goRound) (maxL := 4) (ret := none) zn_RX8 rfl (Nat.le_of_ble_eq_true rfl) (fun p e s m below meth c A ls hx hb hml hr hts (hown : s.vm.findClass RX8 = some m.cls) hlocks hA hS hP hK hD hE (hl : lv_has ls 4 [(0, .ref a0)]) => ?_)
  refine ai_open (fun K hK0 => ?_)
  refine (hK0 _ _ _).mpr ?_
  refine lv_iconst (v := 0) hx hb dX8_goRound_0 zk_iconst_0 ?_
  refine lv_istore_n (lv' := [(1, .int 0), (0, .ref a0)]) hx hb dX8_goRound_1 rfl hl (by decide) rfl (fun ls hl => ?_)
  refine lv_aload_n hx hb dX8_goRound_2 rfl (lv_at hl 1 rfl) ?_
  refine va_get (D := (dC, dI)) (ci := 8) (v := .ref a0_17) (C := RX8) (T := TX8) (N := 40) hx hb hts zi_X8_goRound_8 hown hK hP 0 rfl rfl 17 (by decide) (hts (.fieldLink RX8 26 "WaxTurnsModel" "st" "[I") (List.mem_cons_of_mem _ (List.mem_append_left _ (List.mem_of_getElem? (i := 0) rfl)))) (fun _ h9 => h9) rfl dX8_goRound_3 ?_
  refine lv_bipush (v := 19) hx hb dX8_goRound_6 zk_bipush_19 ?_
  refine va_iald hx hb hK hP 1 0 rfl rfl (by unfold vp_in; decide +kernel) dX8_goRound_8 ?_
  refine lv_topi (fun x8 ex8 => ?_)
  have bx8 : (0 : Int) ≤ x8.toInt ∧ x8.toInt ≤ 8 := by rw [ex8]; exact ai_rd bfa0_17.2.1 zq160 zq161 (by decide) (by decide) (by decide)
  refine lv_istore_n (lv' := [(2, .int x8), (1, .int 0), (0, .ref a0)]) hx hb dX8_goRound_9 rfl hl (by decide) rfl (fun ls hl => ?_)
  refine lv_aload_n hx hb dX8_goRound_10 rfl (lv_at hl 2 rfl) ?_
  refine lv_iconst (v := (-1)) hx hb dX8_goRound_11 zk_iconst_n1 ?_
  refine va_put (D := (dC, dI)) (ci := 8) (v := .int (-1)) (ty := .int) (C := RX8) (T := TX8) (N := 40) hx hb hts zi_X8_goRound_8 tyX8 tyX8_ok nmX8 hown hK hP hD hS 0 rfl rfl 30 (by decide) (hts (.fieldLink RX8 283 "WaxTurnsModel" "settled" "I") (List.mem_cons_of_mem _ (List.mem_append_left _ (List.mem_of_getElem? (i := 1) rfl)))) (fun _ h9 => h9) rfl (tyX8_ok 30 (by decide)) rfl rfl (Nat.le_of_ble_eq_true rfl) dX8_goRound_12 (fun H locs hP hD hS => ?_)
  refine zs_0 (y := (a0, .inr (8, [a0g_0, a0g_1, a0g_2, a0g_3, a0g_4, a0g_5, a0g_6, a0g_7, a0g_8, a0g_9, a0g_10, a0g_11, a0g_12, a0g_13, a0g_14, Value.ref a0_15, a0g_16, Value.ref a0_17, a0g_18, a0g_19, a0g_20, a0g_21, a0g_22, a0g_23, a0g_24, a0g_25, a0g_26, a0g_27, a0g_28, Value.ref a0_29, Value.int (-1), Value.int a0_31, a0g_32, a0g_33, a0g_34, a0g_35, a0g_36, a0g_37, a0g_38, a0g_39]))) hP hD rfl (fun hP hD => ?_)
  have J15 : ∀ (n : Nat) (j15l2 : Int32) (j15l1 : Int32) (j15a0_30 : Int32) (j15a0_29_a : Nat → Int32) (H : Heap) (locs : List Loc) (ls : Array Slot), (13 : Int) - j15l1.toInt ≤ (n : Int) → (0 : Int) ≤ j15l2.toInt → j15l2.toInt ≤ (8 : Int) → (0 : Int) ≤ j15l1.toInt → j15l1.toInt ≤ (12 : Int) → (∀ k, (0 : Int) ≤ (j15a0_29_a k).toInt ∧ (j15a0_29_a k).toInt ≤ 8) → (gr_D j15a0_29_a j15l1.toNatClampNeg) → (j15a0_30.toInt = -1) → va_P (dC, dI) vwCl [(a0, .inr (8, [a0g_0, a0g_1, a0g_2, a0g_3, a0g_4, a0g_5, a0g_6, a0g_7, a0g_8, a0g_9, a0g_10, a0g_11, a0g_12, a0g_13, a0g_14, Value.ref a0_15, a0g_16, Value.ref a0_17, a0g_18, a0g_19, a0g_20, a0g_21, a0g_22, a0g_23, a0g_24, a0g_25, a0g_26, a0g_27, a0g_28, Value.ref a0_29, Value.int j15a0_30, Value.int a0_31, a0g_32, a0g_33, a0g_34, a0g_35, a0g_36, a0g_37, a0g_38, a0g_39])), (a0_17, .inl (ka0_17, 23, .inl (fa0_17))), (a0_29, .inl (ka0_29, 10, .inl (j15a0_29_a))), (a0_15, .inl (ka0_15, 156, .inl (fa0_15)))] H → va_D A [(a0, .inr (8, [a0g_0, a0g_1, a0g_2, a0g_3, a0g_4, a0g_5, a0g_6, a0g_7, a0g_8, a0g_9, a0g_10, a0g_11, a0g_12, a0g_13, a0g_14, Value.ref a0_15, a0g_16, Value.ref a0_17, a0g_18, a0g_19, a0g_20, a0g_21, a0g_22, a0g_23, a0g_24, a0g_25, a0g_26, a0g_27, a0g_28, Value.ref a0_29, Value.int j15a0_30, Value.int a0_31, a0g_32, a0g_33, a0g_34, a0g_35, a0g_36, a0g_37, a0g_38, a0g_39])), (a0_17, .inl (ka0_17, 23, .inl (fa0_17))), (a0_29, .inl (ka0_29, 10, .inl (j15a0_29_a))), (a0_15, .inl (ka0_15, 156, .inl (fa0_15)))] → va_S A s.heap H locs → lv_has ls 4 [(0, .ref a0), (1, .int j15l1), (2, .int j15l2)] → K H locs (F0 m 15 ls []) := by
    intro n
    induction n with
    | zero =>
      intro j15l2 j15l1 j15a0_30 j15a0_29_a H locs ls hm bj15l2_l bj15l2_u bj15l1_l bj15l1_u bj15a0_29_a gr15 sm15 hP hD hS hl
      first | exact zg_0 hm bj15l1_u (by decide) | (have h8 := ai_min j15l1; have h9 := ai_max j15l1; exact absurd hm (by omega))
    | succ n ih15 =>
      intro j15l2 j15l1 j15a0_30 j15a0_29_a H locs ls hm bj15l2_l bj15l2_u bj15l1_l bj15l1_u bj15a0_29_a gr15 sm15 hP hD hS hl
      refine (hK0 _ _ _).mpr ?_
      have hm15 := hm
      refine lv_aload_n hx hb dX8_goRound_15 rfl (lv_at hl 0 rfl) ?_
      refine va_get (D := (dC, dI)) (ci := 8) (v := .int j15a0_30) (C := RX8) (T := TX8) (N := 40) hx hb hts zi_X8_goRound_8 hown hK hP 0 rfl rfl 30 (by decide) (hts (.fieldLink RX8 283 "WaxTurnsModel" "settled" "I") (List.mem_cons_of_mem _ (List.mem_append_left _ (List.mem_of_getElem? (i := 1) rfl)))) (fun _ h9 => h9) rfl dX8_goRound_16 ?_
      refine lv_if_ge (tgt := 79) hx hb dX8_goRound_19 (by decide) (fun c19 => ?_) (fun c19 => ?_)
      · have gc19 := ai_le c19
        have l19t_j15a0_30 : (0 : Int) ≤ j15a0_30.toInt := Int.le_trans zq5 gc19
        exact absurd (Int.le_trans l19t_j15a0_30 (Int.le_of_eq sm15)) (by decide)
      · have gc19 := ai_nle c19
        have u19f_j15a0_30 : j15a0_30.toInt ≤ (-1 : Int) := (Int.le_of_eq sm15)
        refine lv_iconst (v := 0) hx hb dX8_goRound_22 zk_iconst_0 ?_
        have u22z_j15l1 : j15l1.toInt ≤ (9 : Int) := gr_i gr15
        refine lv_istore_n (lv' := [(3, .int 0), (0, .ref a0), (1, .int j15l1), (2, .int j15l2)]) hx hb dX8_goRound_23 rfl hl (by decide) rfl (fun ls hl => ?_)
        have J24 : ∀ (n : Nat) (j24l3 : Int32) (j24a0_30 : Int32) (H : Heap) (locs : List Loc) (ls : Array Slot), (10 : Int) - j24l3.toInt ≤ (n : Int) → (0 : Int) ≤ j24l3.toInt → j24l3.toInt ≤ (9 : Int) → (gr_K j15a0_29_a j24a0_30 j24l3 j15l2 j15l1) → va_P (dC, dI) vwCl [(a0, .inr (8, [a0g_0, a0g_1, a0g_2, a0g_3, a0g_4, a0g_5, a0g_6, a0g_7, a0g_8, a0g_9, a0g_10, a0g_11, a0g_12, a0g_13, a0g_14, Value.ref a0_15, a0g_16, Value.ref a0_17, a0g_18, a0g_19, a0g_20, a0g_21, a0g_22, a0g_23, a0g_24, a0g_25, a0g_26, a0g_27, a0g_28, Value.ref a0_29, Value.int j24a0_30, Value.int a0_31, a0g_32, a0g_33, a0g_34, a0g_35, a0g_36, a0g_37, a0g_38, a0g_39])), (a0_17, .inl (ka0_17, 23, .inl (fa0_17))), (a0_29, .inl (ka0_29, 10, .inl (j15a0_29_a))), (a0_15, .inl (ka0_15, 156, .inl (fa0_15)))] H → va_D A [(a0, .inr (8, [a0g_0, a0g_1, a0g_2, a0g_3, a0g_4, a0g_5, a0g_6, a0g_7, a0g_8, a0g_9, a0g_10, a0g_11, a0g_12, a0g_13, a0g_14, Value.ref a0_15, a0g_16, Value.ref a0_17, a0g_18, a0g_19, a0g_20, a0g_21, a0g_22, a0g_23, a0g_24, a0g_25, a0g_26, a0g_27, a0g_28, Value.ref a0_29, Value.int j24a0_30, Value.int a0_31, a0g_32, a0g_33, a0g_34, a0g_35, a0g_36, a0g_37, a0g_38, a0g_39])), (a0_17, .inl (ka0_17, 23, .inl (fa0_17))), (a0_29, .inl (ka0_29, 10, .inl (j15a0_29_a))), (a0_15, .inl (ka0_15, 156, .inl (fa0_15)))] → va_S A s.heap H locs → lv_has ls 4 [(0, .ref a0), (1, .int j15l1), (2, .int j15l2), (3, .int j24l3)] → K H locs (F0 m 24 ls []) := by
          intro n
          induction n with
          | zero =>
            intro j24l3 j24a0_30 H locs ls hm bj24l3_l bj24l3_u sk24 hP hD hS hl
            first | exact zg_0 hm bj24l3_u (by decide) | (have h8 := ai_min j24l3; have h9 := ai_max j24l3; exact absurd hm (by omega))
          | succ n ih24 =>
            intro j24l3 j24a0_30 H locs ls hm bj24l3_l bj24l3_u sk24 hP hD hS hl
            refine (hK0 _ _ _).mpr ?_
            have hm24 := hm
            refine lv_iload_n hx hb dX8_goRound_24 rfl (lv_at hl 3 rfl) ?_
            refine lv_iload_n hx hb dX8_goRound_25 rfl (lv_at hl 1 rfl) ?_
            refine lv_icmp_ge (tgt := 50) hx hb dX8_goRound_26 (by decide) (fun c26 => ?_) (fun c26 => ?_)
            · have gc26 := ai_le c26
              have u26t_j15l1 : j15l1.toInt ≤ (9 : Int) := u22z_j15l1
              have l26t_j24l3 : (0 : Int) ≤ j24l3.toInt := bj24l3_l
              refine lv_aload_n hx hb dX8_goRound_50 rfl (lv_at hl 0 rfl) ?_
              refine va_get (D := (dC, dI)) (ci := 8) (v := .int j24a0_30) (C := RX8) (T := TX8) (N := 40) hx hb hts zi_X8_goRound_8 hown hK hP 0 rfl rfl 30 (by decide) (hts (.fieldLink RX8 283 "WaxTurnsModel" "settled" "I") (List.mem_cons_of_mem _ (List.mem_append_left _ (List.mem_of_getElem? (i := 1) rfl)))) (fun _ h9 => h9) rfl dX8_goRound_51 ?_
              refine lv_if_lt (tgt := 60) hx hb dX8_goRound_54 (by decide) (fun c54 => ?_) (fun c54 => ?_)
              · have gc54 := ai_lt c54
                have u54t_j24a0_30 : j24a0_30.toInt ≤ (-1 : Int) := ai_lthi gc54 zq6
                refine lv_aload_n hx hb dX8_goRound_60 rfl (lv_at hl 0 rfl) ?_
                have hne60 := gr_Kn sk24 (by omega) (by omega)
                have u60z_j15l1 : j15l1.toInt ≤ (9 : Int) := u26t_j15l1
                refine va_get (D := (dC, dI)) (ci := 8) (v := .ref a0_29) (C := RX8) (T := TX8) (N := 40) hx hb hts zi_X8_goRound_8 hown hK hP 0 rfl rfl 29 (by decide) (hts (.fieldLink RX8 44 "WaxTurnsModel" "row" "[I") (List.mem_cons_of_mem _ (List.mem_append_left _ (List.mem_of_getElem? (i := 2) rfl)))) (fun _ h9 => h9) rfl dX8_goRound_61 ?_
                refine lv_iload_n hx hb dX8_goRound_64 rfl (lv_at hl 1 rfl) ?_
                refine lv_iload_n hx hb dX8_goRound_65 rfl (lv_at hl 2 rfl) ?_
                refine va_iast hx hb hK hP hD hS 2 1 rfl rfl (ai_in bj15l1_l u60z_j15l1 (by decide) (by decide)) dX8_goRound_66 (fun H locs hP hD hS => ?_)
                obtain ⟨f66, ef66⟩ : ∃ g9 : Nat → Int32, g9 = upd j15a0_29_a (j15l1 : Int32).toNatClampNeg j15l2 := ⟨_, rfl⟩
                refine zs_2 (y := (a0_29, .inl (ka0_29, 10, .inl (f66)))) hP hD (by rw [ef66]) (fun hP hD => ?_)
                have bf66 : (∀ k, (0 : Int) ≤ (f66 k).toInt ∧ (f66 k).toInt ≤ 8) := by rw [ef66]; exact ai_upd bj15a0_29_a _ ⟨bj15l2_l, bj15l2_u⟩
                obtain ⟨x67, ex67⟩ : ∃ y : Int32, y = j15l1 + Int32.ofInt 1 := ⟨_, rfl⟩
                have qx67 : x67.toInt = j15l1.toInt + 1 := ai_inc ex67 (by decide) (by decide) u60z_j15l1 (by decide)
                have bx67 : (1 : Int) ≤ x67.toInt ∧ x67.toInt ≤ 10 := ⟨by rw [qx67]; exact Int.add_le_add bj15l1_l (Int.le_refl _), by rw [qx67]; exact Int.add_le_add u60z_j15l1 (Int.le_refl _)⟩
                refine lv_iinc (v := x67) (lv' := [(1, .int x67), (0, .ref a0), (2, .int j15l2), (3, .int j24l3)]) hx hb dX8_goRound_67 hl (k := 1) rfl ex67.symm (by decide) rfl (fun ls hl => ?_)
                refine lv_aload_n hx hb dX8_goRound_70 rfl (lv_at hl 1 rfl) ?_
                refine lv_iload_n hx hb dX8_goRound_71 rfl (lv_at hl 2 rfl) ?_
                refine zc_cutc (wc := [(a0, .inr (8, [a0g_0, a0g_1, a0g_2, a0g_3, a0g_4, a0g_5, a0g_6, a0g_7, a0g_8, a0g_9, a0g_10, a0g_11, a0g_12, a0g_13, a0g_14, Value.ref a0_15, a0g_16, Value.ref a0_17, a0g_18, a0g_19, a0g_20, a0g_21, a0g_22, a0g_23, a0g_24, a0g_25, a0g_26, a0g_27, a0g_28, Value.ref a0_29, Value.int j24a0_30, Value.int a0_31, a0g_32, a0g_33, a0g_34, a0g_35, a0g_36, a0g_37, a0g_38, a0g_39])), (a0_15, .inl (ka0_15, 156, .inl (fa0_15)))]) hP hD hS hA [0, 3] (by decide +kernel) rfl (fun hPc hDc hFc hCc => ?_)
                have hKc := hK.sub (tys' := [(ka0_15, .int)]) [2] rfl
                refine va_calli (va_runV (As := [.int j15l2]) (rest := []) ⟨hx, hb, hml, hown, hts⟩ (c_X8_nextOf l dC dI H.size a0 j15l2 a0g_0 a0g_1 a0g_2 a0g_3 a0g_4 a0g_5 a0g_6 a0g_7 a0g_8 a0g_9 a0g_10 a0g_11 a0g_12 a0g_13 a0g_14 a0g_16 (Value.ref a0_17) a0g_18 a0g_19 a0g_20 a0g_21 a0g_22 a0g_23 a0g_24 a0g_25 a0g_26 a0g_27 a0g_28 (Value.ref a0_29) (Value.int j24a0_30) (Value.int a0_31) a0g_32 a0g_33 a0g_34 a0g_35 a0g_36 a0g_37 a0g_38 a0g_39 a0_15 ka0_15 fa0_15 bj15l2_l bj15l2_u bfa0_15) (cwV 1 hts gX8_goRound_X8_nextOf rfl rfl rfl zd_X8_nextOf ⟨Nat.le_of_ble_eq_true rfl, Nat.le_of_ble_eq_true rfl⟩) ⟨ax_blind (fun _ _ _ _ _ => trivial), zr_8 hKc hPc (q0 := 0) rfl, ax_pre hPc hKc hDc (fun _ _ => trivial)⟩ rfl rfl hl.1 rfl (lv_room (Nat.le_of_ble_eq_true rfl)) dX8_goRound_72 ⟨Nat.le_of_ble_eq_true rfl, Nat.le_of_ble_eq_true rfl⟩) hS (fun q _ h => hFc q h) hFc (fun r72 u t H locs ht hvm hw hB hz1 hk1 hS1 => zo hB ht hS1 (fun hP1 hK1 hD1 hS => ?_))
                refine zc_backc (w := [(a0, .inr (8, [a0g_0, a0g_1, a0g_2, a0g_3, a0g_4, a0g_5, a0g_6, a0g_7, a0g_8, a0g_9, a0g_10, a0g_11, a0g_12, a0g_13, a0g_14, Value.ref a0_15, a0g_16, Value.ref a0_17, a0g_18, a0g_19, a0g_20, a0g_21, a0g_22, a0g_23, a0g_24, a0g_25, a0g_26, a0g_27, a0g_28, Value.ref a0_29, Value.int j24a0_30, Value.int a0_31, a0g_32, a0g_33, a0g_34, a0g_35, a0g_36, a0g_37, a0g_38, a0g_39])), (a0_17, .inl (ka0_17, 23, .inl (fa0_17))), (a0_29, .inl (ka0_29, 10, .inl (f66))), (a0_15, .inl (ka0_15, 156, .inl (fa0_15)))]) hP hD hCc hk1 hFc hP1 hD1 [.inr 0, .inl 1, .inl 2, .inr 1] (by decide +kernel) rfl (fun hP hD => ?_)
                have hw : (0 : Int) ≤ r72.toInt ∧ r72.toInt ≤ (8 : Int) := hw
                obtain ⟨h72_0, h72_1⟩ := hw
                refine lv_istore_n (lv' := [(2, .int r72), (1, .int x67), (0, .ref a0), (3, .int j24l3)]) hx hb dX8_goRound_75 rfl hl (by decide) rfl (fun ls hl => ?_)
                refine lv_goto (tgt := 15) hx hb dX8_goRound_76 (by decide) ?_
                exact (hK0 _ _ _).mp (ih15 r72 x67 j24a0_30 f66 _ _ _ (by first | exact zg_s hm15 qx67 | (have h0 := qx67; omega)) h72_0 h72_1 (Int.le_trans zq4 bx67.1) (Int.le_trans bx67.2 zq168) bf66 (gr_s gr15 hne60 ef66 bj15l2_l bj15l2_u qx67 bj15l1_l) (gr_Km sk24 (by omega)) hP hD hS (lv_sub hl [2, 1, 0] rfl))
              · have gc54 := ai_nlt c54
                have l54f_j24a0_30 : (0 : Int) ≤ j24a0_30.toInt := Int.le_trans zq5 gc54
                refine lv_goto (tgt := 15) hx hb dX8_goRound_57 (by decide) ?_
                have u57z_j15l1 : j15l1.toInt ≤ (9 : Int) := u26t_j15l1
                have hs57 := gr_Kp sk24 (by omega)
                have l57z_j24a0_30 : (0 : Int) ≤ j24a0_30.toInt := l54f_j24a0_30
                have u57z_j24a0_30 : j24a0_30.toInt ≤ (8 : Int) := by omega
                refine lv_aload_n hx hb dX8_goRound_15 rfl (lv_at hl 0 rfl) ?_
                refine va_get (D := (dC, dI)) (ci := 8) (v := .int j24a0_30) (C := RX8) (T := TX8) (N := 40) hx hb hts zi_X8_goRound_8 hown hK hP 0 rfl rfl 30 (by decide) (hts (.fieldLink RX8 283 "WaxTurnsModel" "settled" "I") (List.mem_cons_of_mem _ (List.mem_append_left _ (List.mem_of_getElem? (i := 1) rfl)))) (fun _ h9 => h9) rfl dX8_goRound_16 ?_
                refine lv_if_ge (tgt := 79) hx hb dX8_goRound_19 (by decide) (fun c19 => ?_) (fun c19 => ?_)
                · have gc19 := ai_le c19
                  have l19t_j24a0_30 : (0 : Int) ≤ j24a0_30.toInt := l57z_j24a0_30
                  refine lv_aload_n hx hb dX8_goRound_79 rfl (lv_at hl 0 rfl) ?_
                  refine lv_iload_n hx hb dX8_goRound_80 rfl (lv_at hl 1 rfl) ?_
                  refine lv_aload_n hx hb dX8_goRound_81 rfl (lv_at hl 0 rfl) ?_
                  refine va_get (D := (dC, dI)) (ci := 8) (v := .int j24a0_30) (C := RX8) (T := TX8) (N := 40) hx hb hts zi_X8_goRound_8 hown hK hP 0 rfl rfl 30 (by decide) (hts (.fieldLink RX8 283 "WaxTurnsModel" "settled" "I") (List.mem_cons_of_mem _ (List.mem_append_left _ (List.mem_of_getElem? (i := 1) rfl)))) (fun _ h9 => h9) rfl dX8_goRound_82 ?_
                  refine lv_isub hx hb dX8_goRound_85 ?_
                  refine lv_topi (fun x85 ex85 => ?_)
                  have qx85 : x85.toInt = j15l1.toInt - j24a0_30.toInt := ai_sub ex85 ⟨bj15l1_l, u57z_j15l1⟩ ⟨l19t_j24a0_30, u57z_j24a0_30⟩ (by decide) (by decide)
                  have bx85 : (-8 : Int) ≤ x85.toInt ∧ x85.toInt ≤ 9 := ⟨by rw [qx85]; exact Int.sub_le_sub bj15l1_l u57z_j24a0_30, by rw [qx85]; exact Int.sub_le_sub u57z_j15l1 l19t_j24a0_30⟩
                  refine va_put (D := (dC, dI)) (ci := 8) (v := .int x85) (ty := .int) (C := RX8) (T := TX8) (N := 40) hx hb hts zi_X8_goRound_8 tyX8 tyX8_ok nmX8 hown hK hP hD hS 0 rfl rfl 31 (by decide) (hts (.fieldLink RX8 286 "WaxTurnsModel" "again" "I") (List.mem_cons_of_mem _ (List.mem_append_left _ (List.mem_of_getElem? (i := 3) rfl)))) (fun _ h9 => h9) rfl (tyX8_ok 31 (by decide)) rfl rfl (Nat.le_of_ble_eq_true rfl) dX8_goRound_86 (fun H locs hP hD hS => ?_)
                  refine zs_0 (y := (a0, .inr (8, [a0g_0, a0g_1, a0g_2, a0g_3, a0g_4, a0g_5, a0g_6, a0g_7, a0g_8, a0g_9, a0g_10, a0g_11, a0g_12, a0g_13, a0g_14, Value.ref a0_15, a0g_16, Value.ref a0_17, a0g_18, a0g_19, a0g_20, a0g_21, a0g_22, a0g_23, a0g_24, a0g_25, a0g_26, a0g_27, a0g_28, Value.ref a0_29, Value.int j24a0_30, Value.int x85, a0g_32, a0g_33, a0g_34, a0g_35, a0g_36, a0g_37, a0g_38, a0g_39]))) hP hD rfl (fun hP hD => ?_)
                  exact W.vret hx hb hr (fun t ht hW => ⟨⟨(), rfl, trivial, j24a0_30, x85, j15a0_29_a, bj15a0_29_a, ⟨by omega, by omega, by omega⟩, by rw [ht]; exact hP, va_K.moved hW.alike hK, hD⟩, hS.F ht⟩) hS.2.2 dX8_goRound_89
                · have gc19 := ai_nle c19
                  have u19f_j24a0_30 : j24a0_30.toInt ≤ (-1 : Int) := ai_lthi gc19 zq6
                  exact absurd (Int.le_trans l57z_j24a0_30 u19f_j24a0_30) (by decide)
            · have gc26 := ai_nle c26
              have u26f_j24l3 : j24l3.toInt ≤ (8 : Int) := ai_lthi gc26 u22z_j15l1
              have l26f_j15l1 : (1 : Int) ≤ j15l1.toInt := ai_ltlo gc26 bj24l3_l
              refine lv_aload_n hx hb dX8_goRound_29 rfl (lv_at hl 0 rfl) ?_
              refine va_get (D := (dC, dI)) (ci := 8) (v := .ref a0_29) (C := RX8) (T := TX8) (N := 40) hx hb hts zi_X8_goRound_8 hown hK hP 0 rfl rfl 29 (by decide) (hts (.fieldLink RX8 44 "WaxTurnsModel" "row" "[I") (List.mem_cons_of_mem _ (List.mem_append_left _ (List.mem_of_getElem? (i := 2) rfl)))) (fun _ h9 => h9) rfl dX8_goRound_30 ?_
              refine lv_iload_n hx hb dX8_goRound_33 rfl (lv_at hl 3 rfl) ?_
              refine va_iald hx hb hK hP 2 1 rfl rfl (ai_in bj24l3_l u26f_j24l3 (by decide) (by decide)) dX8_goRound_34 ?_
              refine lv_topi (fun x34 ex34 => ?_)
              have bx34 : (0 : Int) ≤ x34.toInt ∧ x34.toInt ≤ 8 := by rw [ex34]; exact bj15a0_29_a _
              refine lv_iload_n hx hb dX8_goRound_35 rfl (lv_at hl 2 rfl) ?_
              refine lv_icmp_ne (tgt := 44) hx hb dX8_goRound_36 (by decide) (fun c36 => ?_) (fun c36 => ?_)
              · have gc36 := ai_ne c36
                obtain ⟨x44, ex44⟩ : ∃ y : Int32, y = j24l3 + Int32.ofInt 1 := ⟨_, rfl⟩
                have qx44 : x44.toInt = j24l3.toInt + 1 := ai_inc ex44 (by decide) (by decide) u26f_j24l3 (by decide)
                have bx44 : (1 : Int) ≤ x44.toInt ∧ x44.toInt ≤ 9 := ⟨by rw [qx44]; exact Int.add_le_add bj24l3_l (Int.le_refl _), by rw [qx44]; exact Int.add_le_add u26f_j24l3 (Int.le_refl _)⟩
                refine lv_iinc (v := x44) (lv' := [(3, .int x44), (0, .ref a0), (1, .int j15l1), (2, .int j15l2)]) hx hb dX8_goRound_44 hl (k := 3) rfl ex44.symm (by decide) rfl (fun ls hl => ?_)
                refine lv_goto (tgt := 24) hx hb dX8_goRound_47 (by decide) ?_
                exact (hK0 _ _ _).mp (ih24 x44 j24a0_30 _ _ _ (by first | exact zg_s hm24 qx44 | (have h0 := qx44; omega)) (Int.le_trans zq4 bx44.1) bx44.2 (gr_Ks sk24 ex34 c36 qx44 bj24l3_l) hP hD hS (lv_sub hl [1, 2, 3, 0] rfl))
              · have gc36 := ai_eq c36
                have u36f_x34 : x34.toInt ≤ (8 : Int) := bx34.2
                have l36f_x34 : (0 : Int) ≤ x34.toInt := bx34.1
                have u36f_j15l2 : j15l2.toInt ≤ (8 : Int) := bj15l2_u
                have l36f_j15l2 : (0 : Int) ≤ j15l2.toInt := bj15l2_l
                refine lv_aload_n hx hb dX8_goRound_39 rfl (lv_at hl 0 rfl) ?_
                refine lv_iload_n hx hb dX8_goRound_40 rfl (lv_at hl 3 rfl) ?_
                refine va_put (D := (dC, dI)) (ci := 8) (v := .int j24l3) (ty := .int) (C := RX8) (T := TX8) (N := 40) hx hb hts zi_X8_goRound_8 tyX8 tyX8_ok nmX8 hown hK hP hD hS 0 rfl rfl 30 (by decide) (hts (.fieldLink RX8 283 "WaxTurnsModel" "settled" "I") (List.mem_cons_of_mem _ (List.mem_append_left _ (List.mem_of_getElem? (i := 1) rfl)))) (fun _ h9 => h9) rfl (tyX8_ok 30 (by decide)) rfl rfl (Nat.le_of_ble_eq_true rfl) dX8_goRound_41 (fun H locs hP hD hS => ?_)
                refine zs_0 (y := (a0, .inr (8, [a0g_0, a0g_1, a0g_2, a0g_3, a0g_4, a0g_5, a0g_6, a0g_7, a0g_8, a0g_9, a0g_10, a0g_11, a0g_12, a0g_13, a0g_14, Value.ref a0_15, a0g_16, Value.ref a0_17, a0g_18, a0g_19, a0g_20, a0g_21, a0g_22, a0g_23, a0g_24, a0g_25, a0g_26, a0g_27, a0g_28, Value.ref a0_29, Value.int j24l3, Value.int a0_31, a0g_32, a0g_33, a0g_34, a0g_35, a0g_36, a0g_37, a0g_38, a0g_39]))) hP hD rfl (fun hP hD => ?_)
                obtain ⟨x44, ex44⟩ : ∃ y : Int32, y = j24l3 + Int32.ofInt 1 := ⟨_, rfl⟩
                have qx44 : x44.toInt = j24l3.toInt + 1 := ai_inc ex44 (by decide) (by decide) u26f_j24l3 (by decide)
                have bx44 : (1 : Int) ≤ x44.toInt ∧ x44.toInt ≤ 9 := ⟨by rw [qx44]; exact Int.add_le_add bj24l3_l (Int.le_refl _), by rw [qx44]; exact Int.add_le_add u26f_j24l3 (Int.le_refl _)⟩
                refine lv_iinc (v := x44) (lv' := [(3, .int x44), (0, .ref a0), (1, .int j15l1), (2, .int j15l2)]) hx hb dX8_goRound_44 hl (k := 3) rfl ex44.symm (by decide) rfl (fun ls hl => ?_)
                refine lv_goto (tgt := 24) hx hb dX8_goRound_47 (by decide) ?_
                exact (hK0 _ _ _).mp (ih24 x44 j24l3 _ _ _ (by first | exact zg_s hm24 qx44 | (have h0 := qx44; omega)) (Int.le_trans zq4 bx44.1) bx44.2 (Or.inr ⟨bj24l3_l, by omega⟩) hP hD hS (lv_sub hl [1, 2, 3, 0] rfl))
        exact (hK0 _ _ _).mp (J24 10 0 j15a0_30 _ _ _ (by first | decide +kernel | (have h1 : (0 : Int) ≤ (0 : Int32).toInt := zq5; have h2 : (0 : Int32).toInt ≤ (0 : Int) := zq6; omega)) zq5 (Int.le_trans zq6 zq7) (gr_K0 sm15 (by decide)) hP hD hS (lv_sub hl [1, 2, 3, 0] rfl))
  exact (hK0 _ _ _).mp (J15 13 x8 0 (-1) fa0_29 _ _ _ (by first | decide +kernel | (have h1 : (0 : Int) ≤ (0 : Int32).toInt := zq5; have h2 : (0 : Int32).toInt ≤ (0 : Int) := zq6; omega)) bx8.1 bx8.2 zq5 (Int.le_trans zq6 zq169) bfa0_29 (gr_z0 (by decide)) (by decide) hP hD hS (lv_sub hl [2, 1, 0] rfl))

set_option maxHeartbeats 4000000 in
set_option maxRecDepth 100000 in
theorem c_X8_turnAt (l : Launch) (dC : Nat → ClassId) (dI : Nat → Nat → Nat) (sz : Nat) (a0 : Nat) (a1 : Int32) (a0g_0 a0g_1 a0g_2 a0g_3 a0g_4 a0g_5 a0g_6 a0g_7 a0g_8 a0g_9 a0g_10 a0g_11 a0g_12 a0g_13 a0g_14 a0g_15 a0g_16 a0g_17 a0g_18 a0g_19 a0g_20 a0g_21 a0g_22 a0g_23 a0g_24 a0g_25 a0g_26 a0g_27 a0g_28 a0g_32 a0g_33 a0g_34 a0g_35 a0g_36 a0g_37 a0g_38 a0g_39 : Value) (a0_29 : Nat) (a0_30 : Int32) (a0_31 : Int32) (ka0_29 : ClassId) (fa0_29 : Nat → Int32) (ba1_l : (0 : Int) ≤ a1.toInt) (ba0_30_l : (0 : Int) ≤ a0_30.toInt) (ba0_30_u : a0_30.toInt ≤ (8 : Int)) (ba0_31_l : (1 : Int) ≤ a0_31.toInt) (ba0_31_u : a0_31.toInt ≤ (9 : Int)) (bfa0_29 : (∀ k, (0 : Int) ≤ (fa0_29 k).toInt ∧ (fa0_29 k).toInt ≤ 8)) (hsa : (0 : Int) ≤ a0_30.toInt ∧ (1 : Int) ≤ a0_31.toInt ∧ a0_30.toInt + a0_31.toInt ≤ 9) : zm l yX8_turnAt wsX8_turnAt ({ frames := 0, cells := 0, slots := 0, locals := 0 }) [.ref a0, .int a1] dC dI sz [(a0, .inr (8, [a0g_0, a0g_1, a0g_2, a0g_3, a0g_4, a0g_5, a0g_6, a0g_7, a0g_8, a0g_9, a0g_10, a0g_11, a0g_12, a0g_13, a0g_14, a0g_15, a0g_16, a0g_17, a0g_18, a0g_19, a0g_20, a0g_21, a0g_22, a0g_23, a0g_24, a0g_25, a0g_26, a0g_27, a0g_28, Value.ref a0_29, Value.int a0_30, Value.int a0_31, a0g_32, a0g_33, a0g_34, a0g_35, a0g_36, a0g_37, a0g_38, a0g_39])), (a0_29, .inl (ka0_29, 10, .inl (fa0_29)))] [(ka0_29, .int)] (fun A _ => True) (fun A => va_Qi (fun (r : Int32) (_ : Unit) => (0 : Int) ≤ r.toInt ∧ r.toInt ≤ (8 : Int)) (fun (_ : Unit) (t : State) => ax_B dC dI A [(a0, .inr (8, [a0g_0, a0g_1, a0g_2, a0g_3, a0g_4, a0g_5, a0g_6, a0g_7, a0g_8, a0g_9, a0g_10, a0g_11, a0g_12, a0g_13, a0g_14, a0g_15, a0g_16, a0g_17, a0g_18, a0g_19, a0g_20, a0g_21, a0g_22, a0g_23, a0g_24, a0g_25, a0g_26, a0g_27, a0g_28, Value.ref a0_29, Value.int a0_30, Value.int a0_31, a0g_32, a0g_33, a0g_34, a0g_35, a0g_36, a0g_37, a0g_38, a0g_39])), (a0_29, .inl (ka0_29, 10, .inl (fa0_29)))] [(ka0_29, .int)] t) A) := by
  refine zh (cc := cX8_turnAt) (maxL := 2) (ret := (some .int)) zn_RX8 rfl (Nat.le_of_ble_eq_true rfl) (fun p e s m below meth c A ls hx hb hml hr hts (hown : s.vm.findClass RX8 = some m.cls) hlocks hA hS hP hK hD hE (hl : lv_has ls 2 [(0, .ref a0), (1, .int a1)]) => ?_)
  refine lv_aload_n hx hb dX8_turnAt_0 rfl (lv_at hl 0 rfl) ?_
  refine va_get (D := (dC, dI)) (ci := 8) (v := .ref a0_29) (C := RX8) (T := TX8) (N := 40) hx hb hts zi_X8_turnAt_8 hown hK hP 0 rfl rfl 29 (by decide) (hts (.fieldLink RX8 44 "WaxTurnsModel" "row" "[I") (List.mem_cons_of_mem _ (List.mem_append_left _ (List.mem_of_getElem? (i := 0) rfl)))) (fun _ h9 => h9) rfl dX8_turnAt_1 ?_
  refine lv_iload_n hx hb dX8_turnAt_4 rfl (lv_at hl 1 rfl) ?_
  refine lv_aload_n hx hb dX8_turnAt_5 rfl (lv_at hl 0 rfl) ?_
  refine va_get (D := (dC, dI)) (ci := 8) (v := .int a0_30) (C := RX8) (T := TX8) (N := 40) hx hb hts zi_X8_turnAt_8 hown hK hP 0 rfl rfl 30 (by decide) (hts (.fieldLink RX8 283 "WaxTurnsModel" "settled" "I") (List.mem_cons_of_mem _ (List.mem_append_left _ (List.mem_of_getElem? (i := 1) rfl)))) (fun _ h9 => h9) rfl dX8_turnAt_6 ?_
  refine lv_icmp_ge (tgt := 16) hx hb dX8_turnAt_9 (by decide) (fun c9 => ?_) (fun c9 => ?_)
  · have gc9 := ai_le c9
    have l9t_a1 : (0 : Int) ≤ a1.toInt := ba1_l
    refine lv_aload_n hx hb dX8_turnAt_16 rfl (lv_at hl 0 rfl) ?_
    refine va_get (D := (dC, dI)) (ci := 8) (v := .int a0_30) (C := RX8) (T := TX8) (N := 40) hx hb hts zi_X8_turnAt_8 hown hK hP 0 rfl rfl 30 (by decide) (hts (.fieldLink RX8 283 "WaxTurnsModel" "settled" "I") (List.mem_cons_of_mem _ (List.mem_append_left _ (List.mem_of_getElem? (i := 1) rfl)))) (fun _ h9 => h9) rfl dX8_turnAt_17 ?_
    refine lv_iload_n hx hb dX8_turnAt_20 rfl (lv_at hl 1 rfl) ?_
    refine lv_aload_n hx hb dX8_turnAt_21 rfl (lv_at hl 0 rfl) ?_
    refine va_get (D := (dC, dI)) (ci := 8) (v := .int a0_30) (C := RX8) (T := TX8) (N := 40) hx hb hts zi_X8_turnAt_8 hown hK hP 0 rfl rfl 30 (by decide) (hts (.fieldLink RX8 283 "WaxTurnsModel" "settled" "I") (List.mem_cons_of_mem _ (List.mem_append_left _ (List.mem_of_getElem? (i := 1) rfl)))) (fun _ h9 => h9) rfl dX8_turnAt_22 ?_
    refine lv_isub hx hb dX8_turnAt_25 ?_
    refine lv_topi (fun x25 ex25 => ?_)
    have qx25 : x25.toInt = a1.toInt - a0_30.toInt := ai_sub ex25 ⟨l9t_a1, (ai_max a1)⟩ ⟨ba0_30_l, ba0_30_u⟩ (by decide) (by decide)
    have bx25 : (-8 : Int) ≤ x25.toInt ∧ x25.toInt ≤ 2147483647 := ⟨by rw [qx25]; exact Int.sub_le_sub l9t_a1 ba0_30_u, by rw [qx25]; exact Int.sub_le_sub (ai_max a1) ba0_30_l⟩
    have l25z_x25 : (0 : Int) ≤ x25.toInt := by omega
    refine lv_aload_n hx hb dX8_turnAt_26 rfl (lv_at hl 0 rfl) ?_
    refine va_get (D := (dC, dI)) (ci := 8) (v := .int a0_31) (C := RX8) (T := TX8) (N := 40) hx hb hts zi_X8_turnAt_8 hown hK hP 0 rfl rfl 31 (by decide) (hts (.fieldLink RX8 286 "WaxTurnsModel" "again" "I") (List.mem_cons_of_mem _ (List.mem_append_left _ (List.mem_of_getElem? (i := 2) rfl)))) (fun _ h9 => h9) rfl dX8_turnAt_27 ?_
    refine lv_irem hx hb dX8_turnAt_30 (ai_nz ba0_31_l (by decide)) ?_
    refine lv_topi (fun x30 ex30 => ?_)
    have qx30 := ai_rem2 ex30 l25z_x25 (Int.lt_of_lt_of_le zq19 ba0_31_l) ba0_31_u
    refine lv_iadd hx hb dX8_turnAt_31 ?_
    refine lv_topi (fun x31 ex31 => ?_)
    have qx31 : x31.toInt = a0_30.toInt + x30.toInt := ai_add ex31 ⟨ba0_30_l, ba0_30_u⟩ ⟨qx30.2.1, qx30.2.2⟩ (by decide) (by decide)
    have bx31 : (0 : Int) ≤ x31.toInt ∧ x31.toInt ≤ 16 := ⟨by rw [qx31]; exact Int.add_le_add ba0_30_l qx30.2.1, by rw [qx31]; exact Int.add_le_add ba0_30_u qx30.2.2⟩
    have hlt31 := Int.emod_lt_of_pos x25.toInt (show 0 < a0_31.toInt by omega)
    have hq31 := qx30.1
    have u31z_x31 : x31.toInt ≤ (9 : Int) := by omega
    refine va_iald hx hb hK hP 1 0 rfl rfl (ai_in bx31.1 u31z_x31 (by decide) (by decide)) dX8_turnAt_32 ?_
    refine lv_topi (fun x32 ex32 => ?_)
    have bx32 : (0 : Int) ≤ x32.toInt ∧ x32.toInt ≤ 8 := by rw [ex32]; exact bfa0_29 _
    exact W.iret (v := x32) hx hb hr (fun t ht hW => ⟨⟨x32, (), rfl, ⟨bx32.1, bx32.2⟩, by rw [ht]; exact hP, va_K.moved hW.alike hK, hD⟩, hS.F ht⟩) hS.2.2 dX8_turnAt_33
  · have gc9 := ai_nle c9
    have u9f_a1 : a1.toInt ≤ (7 : Int) := ai_lthi gc9 ba0_30_u
    have l9f_a0_30 : (1 : Int) ≤ a0_30.toInt := ai_ltlo gc9 ba1_l
    refine lv_iload_n hx hb dX8_turnAt_12 rfl (lv_at hl 1 rfl) ?_
    refine lv_goto (tgt := 32) hx hb dX8_turnAt_13 (by decide) ?_
    refine va_iald hx hb hK hP 1 0 rfl rfl (ai_in ba1_l u9f_a1 (by decide) (by decide)) dX8_turnAt_32 ?_
    refine lv_topi (fun x32 ex32 => ?_)
    have bx32 : (0 : Int) ≤ x32.toInt ∧ x32.toInt ≤ 8 := by rw [ex32]; exact bfa0_29 _
    exact W.iret (v := x32) hx hb hr (fun t ht hW => ⟨⟨x32, (), rfl, ⟨bx32.1, bx32.2⟩, by rw [ht]; exact hP, va_K.moved hW.alike hK, hD⟩, hS.F ht⟩) hS.2.2 dX8_turnAt_33
end P232_00_safe
section P234_00_safe
set_option maxHeartbeats 4000000 in
set_option maxRecDepth 100000 in
theorem c_X8_begin (l : Launch) (dC : Nat → ClassId) (dI : Nat → Nat → Nat) (sz : Nat) (a0 : Nat) (a0g_0 a0g_1 a0g_2 a0g_3 a0g_4 a0g_5 a0g_6 a0g_7 a0g_8 a0g_9 a0g_10 a0g_11 a0g_12 a0g_13 a0g_14 a0g_16 a0g_19 a0g_20 a0g_21 a0g_22 a0g_26 a0g_27 a0g_28 a0g_29 a0g_30 a0g_31 a0g_32 a0g_33 a0g_34 a0g_35 a0g_36 a0g_37 a0g_38 a0g_39 : Value) (a0_15 : Nat) (a0_17 : Nat) (a0_18 : Nat) (a0_23 : Nat) (a0_24 : Nat) (a0_25 : Int32) (ka0_15 : ClassId) (fa0_15 : Nat → Int32) (ka0_23 : ClassId) (fa0_23 : Nat → Int32) (ka0_24 : ClassId) (fa0_24 : Nat → Int32) (ka0_17 : ClassId) (fa0_17 : Nat → Int32) (ka0_18 : ClassId) (fa0_18 : Nat → Int32) (bfa0_15 : ((∀ k : Nat, 0 ≤ k → k ≤ 0 → (2 : Int) ≤ (fa0_15 k).toInt ∧ (fa0_15 k).toInt ≤ 9) ∧ (∀ k : Nat, 1 ≤ k → k ≤ 1 → (1 : Int) ≤ (fa0_15 k).toInt ∧ (fa0_15 k).toInt ≤ 20) ∧ (∀ k : Nat, 2 ≤ k → k ≤ 2 → (0 : Int) ≤ (fa0_15 k).toInt ∧ (fa0_15 k).toInt ≤ 8) ∧ (∀ k : Nat, 3 ≤ k → k ≤ 3 → (0 : Int) ≤ (fa0_15 k).toInt ∧ (fa0_15 k).toInt ≤ 100) ∧ (∀ k : Nat, 4 ≤ k → k ≤ 4 → (0 : Int) ≤ (fa0_15 k).toInt ∧ (fa0_15 k).toInt ≤ 9) ∧ (∀ k : Nat, 5 ≤ k → k ≤ 5 → (0 : Int) ≤ (fa0_15 k).toInt ∧ (fa0_15 k).toInt ≤ 3) ∧ (∀ k : Nat, 6 ≤ k → k ≤ 6 → (0 : Int) ≤ (fa0_15 k).toInt ∧ (fa0_15 k).toInt ≤ 6) ∧ (∀ k : Nat, 7 ≤ k → k ≤ 9 → (0 : Int) ≤ (fa0_15 k).toInt ∧ (fa0_15 k).toInt ≤ 8) ∧ (∀ k : Nat, 12 ≤ k → k ≤ 29 → (0 : Int) ≤ (fa0_15 k).toInt ∧ (fa0_15 k).toInt ≤ 20) ∧ (∀ k : Nat, 30 ≤ k → k ≤ 35 → (0 : Int) ≤ (fa0_15 k).toInt ∧ (fa0_15 k).toInt ≤ 8) ∧ (∀ k : Nat, 36 ≤ k → k ≤ 47 → (0 : Int) ≤ (fa0_15 k).toInt ∧ (fa0_15 k).toInt ≤ 999))) (bfa0_23 : (∀ k, (0 : Int) ≤ (fa0_23 k).toInt ∧ (fa0_23 k).toInt ≤ 80)) (bfa0_24 : (∀ k, (0 : Int) ≤ (fa0_24 k).toInt ∧ (fa0_24 k).toInt ≤ 80)) (bfa0_17 : ((∀ k : Nat, 0 ≤ k → k ≤ 8 → (0 : Int) ≤ (fa0_17 k).toInt ∧ (fa0_17 k).toInt ≤ 8) ∧ (∀ k : Nat, 19 ≤ k → k ≤ 19 → (0 : Int) ≤ (fa0_17 k).toInt ∧ (fa0_17 k).toInt ≤ 8) ∧ (∀ k : Nat, 20 ≤ k → k ≤ 20 → (0 : Int) ≤ (fa0_17 k).toInt ∧ (fa0_17 k).toInt ≤ 19))) (bfa0_18 : ((∀ k : Nat, 0 ≤ k → k ≤ 8 → (0 : Int) ≤ (fa0_18 k).toInt ∧ (fa0_18 k).toInt ≤ 8) ∧ (∀ k : Nat, 19 ≤ k → k ≤ 19 → (0 : Int) ≤ (fa0_18 k).toInt ∧ (fa0_18 k).toInt ≤ 8) ∧ (∀ k : Nat, 20 ≤ k → k ≤ 20 → (0 : Int) ≤ (fa0_18 k).toInt ∧ (fa0_18 k).toInt ≤ 19))) : zm l yX8_begin wsX8_begin ({ frames := 1, cells := 0, slots := 0, locals := 25 }) [.ref a0] dC dI sz [(a0, .inr (8, [a0g_0, a0g_1, a0g_2, a0g_3, a0g_4, a0g_5, a0g_6, a0g_7, a0g_8, a0g_9, a0g_10, a0g_11, a0g_12, a0g_13, a0g_14, Value.ref a0_15, a0g_16, Value.ref a0_17, Value.ref a0_18, a0g_19, a0g_20, a0g_21, a0g_22, Value.ref a0_23, Value.ref a0_24, Value.int a0_25, a0g_26, a0g_27, a0g_28, a0g_29, a0g_30, a0g_31, a0g_32, a0g_33, a0g_34, a0g_35, a0g_36, a0g_37, a0g_38, a0g_39])), (a0_15, .inl (ka0_15, 156, .inl (fa0_15))), (a0_23, .inl (ka0_23, 3, .inl (fa0_23))), (a0_24, .inl (ka0_24, 3, .inl (fa0_24))), (a0_17, .inl (ka0_17, 23, .inl (fa0_17))), (a0_18, .inl (ka0_18, 23, .inl (fa0_18)))] [(ka0_15, .int), (ka0_23, .int), (ka0_24, .int), (ka0_17, .int), (ka0_18, .int)] (fun A _ => True) (fun A => va_Qv (fun (_ : Unit) => True) (fun (_ : Unit) (t : State) => ∃ na0_25 : Int32, ∃ nfa0_23 : Nat → Int32, ∃ nfa0_24 : Nat → Int32, ∃ nfa0_18 : Nat → Int32, (∀ k, (0 : Int) ≤ (nfa0_23 k).toInt ∧ (nfa0_23 k).toInt ≤ 80) ∧ (∀ k, (0 : Int) ≤ (nfa0_24 k).toInt ∧ (nfa0_24 k).toInt ≤ 80) ∧ ((∀ k : Nat, 0 ≤ k → k ≤ 8 → (0 : Int) ≤ (nfa0_18 k).toInt ∧ (nfa0_18 k).toInt ≤ 8) ∧ (∀ k : Nat, 19 ≤ k → k ≤ 19 → (0 : Int) ≤ (nfa0_18 k).toInt ∧ (nfa0_18 k).toInt ≤ 8) ∧ (∀ k : Nat, 20 ≤ k → k ≤ 20 → (0 : Int) ≤ (nfa0_18 k).toInt ∧ (nfa0_18 k).toInt ≤ 19)) ∧ ax_B dC dI A [(a0, .inr (8, [a0g_0, a0g_1, a0g_2, a0g_3, a0g_4, a0g_5, a0g_6, a0g_7, a0g_8, a0g_9, a0g_10, a0g_11, a0g_12, a0g_13, a0g_14, Value.ref a0_15, a0g_16, Value.ref a0_17, Value.ref a0_18, a0g_19, a0g_20, a0g_21, a0g_22, Value.ref a0_23, Value.ref a0_24, Value.int na0_25, a0g_26, a0g_27, a0g_28, a0g_29, a0g_30, a0g_31, a0g_32, a0g_33, a0g_34, a0g_35, a0g_36, a0g_37, a0g_38, a0g_39])), (a0_15, .inl (ka0_15, 156, .inl (fa0_15))), (a0_23, .inl (ka0_23, 3, .inl (nfa0_23))), (a0_24, .inl (ka0_24, 3, .inl (nfa0_24))), (a0_17, .inl (ka0_17, 23, .inl (fa0_17))), (a0_18, .inl (ka0_18, 23, .inl (nfa0_18)))] [(ka0_15, .int), (ka0_23, .int), (ka0_24, .int), (ka0_17, .int), (ka0_18, .int)] t) A) := by
  refine zh (cc := cX8_begin) (maxL := 1) (ret := none) zn_RX8 rfl (Nat.le_of_ble_eq_true rfl) (fun p e s m below meth c A ls hx hb hml hr hts (hown : s.vm.findClass RX8 = some m.cls) hlocks hA hS hP hK hD hE (hl : lv_has ls 1 [(0, .ref a0)]) => ?_)
  refine lv_aload_n hx hb dX8_begin_0 rfl (lv_at hl 0 rfl) ?_
  have hKc := hK.sub (tys' := [(ka0_15, .int), (ka0_23, .int), (ka0_24, .int)]) [0, 1, 2] rfl
  refine va_callv (va_runV (As := []) (rest := []) ⟨hx, hb, hml, hown, hts⟩ (c_X8_watchAsTold l dC dI s.heap.size a0 a0g_0 a0g_1 a0g_2 a0g_3 a0g_4 a0g_5 a0g_6 a0g_7 a0g_8 a0g_9 a0g_10 a0g_11 a0g_12 a0g_13 a0g_14 a0g_16 (Value.ref a0_17) (Value.ref a0_18) a0g_19 a0g_20 a0g_21 a0g_22 a0g_26 a0g_27 a0g_28 a0g_29 a0g_30 a0g_31 a0g_32 a0g_33 a0g_34 a0g_35 a0g_36 a0g_37 a0g_38 a0g_39 a0_15 a0_23 a0_24 a0_25 ka0_15 fa0_15 ka0_23 fa0_23 ka0_24 fa0_24 bfa0_15 bfa0_23 bfa0_24) (cwV 0 hts gX8_begin_X8_watchAsTold rfl rfl rfl zd_X8_watchAsTold ⟨Nat.le_of_ble_eq_true rfl, Nat.le_of_ble_eq_true rfl⟩) ⟨ax_blind (fun _ _ _ _ _ => trivial), zr_8 hKc (zp_P4 hP) (q0 := 0) rfl, ax_pre (zp_P4 hP) hKc (zp_D4 hD) (fun _ _ => trivial)⟩ rfl rfl hl.1 rfl (lv_room (Nat.le_of_ble_eq_true rfl)) dX8_begin_1 ⟨Nat.le_of_ble_eq_true rfl, Nat.le_of_ble_eq_true rfl⟩) hS (fun q _ h => zp_F4 hD hS hA q h) (zp_F4 hD hS hA) (fun u t H locs ht hvm hw => zx_3 (fun v1na0_25 v1nfa0_23 v1nfa0_24 => zy_2 (fun bv1nfa0_23 bv1nfa0_24 hB hz1 hk1 hS1 => zo4 hB ht hP hD hk1 (zp_F4 hD hS hA) hS1 (fun hP hK1 hD hS => ?_))))
  refine lv_aload_n hx hb dX8_begin_4 rfl (lv_at hl 0 rfl) ?_
  refine va_get (D := (dC, dI)) (ci := 8) (v := .ref a0_17) (C := RX8) (T := TX8) (N := 40) hx hb hts zi_X8_begin_8 hown hK hP 0 rfl rfl 17 (by decide) (hts (.fieldLink RX8 26 "WaxTurnsModel" "st" "[I") (List.mem_cons_of_mem _ (List.mem_append_left _ (List.mem_of_getElem? (i := 0) rfl)))) (fun _ h9 => h9) rfl dX8_begin_5 ?_
  refine lv_iconst (v := 0) hx hb dX8_begin_8 zk_iconst_0 ?_
  refine lv_aload_n hx hb dX8_begin_9 rfl (lv_at hl 0 rfl) ?_
  refine va_get (D := (dC, dI)) (ci := 8) (v := .ref a0_18) (C := RX8) (T := TX8) (N := 40) hx hb hts zi_X8_begin_8 hown hK hP 0 rfl rfl 18 (by decide) (hts (.fieldLink RX8 29 "WaxTurnsModel" "trial" "[I") (List.mem_cons_of_mem _ (List.mem_append_left _ (List.mem_of_getElem? (i := 1) rfl)))) (fun _ h9 => h9) rfl dX8_begin_10 ?_
  refine lv_iconst (v := 0) hx hb dX8_begin_13 zk_iconst_0 ?_
  refine lv_bipush (v := 23) hx hb dX8_begin_14 zk_bipush_23 ?_
  refine zc_cutc (wc := [(a0_17, .inl (ka0_17, 23, .inl (fa0_17))), (a0_18, .inl (ka0_18, 23, .inl (fa0_18)))]) hP hD hS hA [4, 5] (by decide +kernel) rfl (fun hPc hDc hFc hCc => ?_)
  have hKc := hK.sub (tys' := [(ka0_17, .int), (ka0_18, .int)]) [3, 4] rfl
  refine va_callv (va_runS (As := [.ref a0_17, .int 0, .ref a0_18, .int 0, .int 23]) (rest := []) ⟨hx, hb, hml, hown, hts⟩ (c_X8_copy_23_23 l dC dI H.size a0_17 0 a0_18 0 23 ka0_17 fa0_17 ka0_18 fa0_18 zq5 zq6 zq5 zq6 zq170 zq171) (va_cwS 5 hts gX8_begin_X8_copy rfl rfl rfl zd_X8_copy.2 ⟨Nat.le_of_ble_eq_true rfl, Nat.le_of_ble_eq_true rfl⟩) ⟨ax_blind (fun _ _ _ _ _ => trivial), ax_pre hPc hKc hDc (fun _ _ => trivial)⟩ rfl rfl hl.1 rfl (lv_room (Nat.le_of_ble_eq_true rfl)) dX8_begin_16 ⟨Nat.le_of_ble_eq_true rfl, Nat.le_of_ble_eq_true rfl⟩) hS (fun q _ h => hFc q h) hFc (fun u t H locs ht hvm hw => zx_1 (fun v16nfa3 => zy_1 (fun hraw16_0 hB hz1 hk1 hS1 => zo hB ht hS1 (fun hP1 hK1 hD1 hS => ?_))))
  refine zc_backc (w := [(a0, .inr (8, [a0g_0, a0g_1, a0g_2, a0g_3, a0g_4, a0g_5, a0g_6, a0g_7, a0g_8, a0g_9, a0g_10, a0g_11, a0g_12, a0g_13, a0g_14, Value.ref a0_15, a0g_16, Value.ref a0_17, Value.ref a0_18, a0g_19, a0g_20, a0g_21, a0g_22, Value.ref a0_23, Value.ref a0_24, Value.int v1na0_25, a0g_26, a0g_27, a0g_28, a0g_29, a0g_30, a0g_31, a0g_32, a0g_33, a0g_34, a0g_35, a0g_36, a0g_37, a0g_38, a0g_39])), (a0_15, .inl (ka0_15, 156, .inl (fa0_15))), (a0_23, .inl (ka0_23, 3, .inl (v1nfa0_23))), (a0_24, .inl (ka0_24, 3, .inl (v1nfa0_24))), (a0_17, .inl (ka0_17, 23, .inl (fa0_17))), (a0_18, .inl (ka0_18, 23, .inl (v16nfa3)))]) hP hD hCc hk1 hFc hP1 hD1 [.inl 0, .inl 1, .inl 2, .inl 3, .inr 0, .inr 1] (by decide +kernel) rfl (fun hP hD => ?_)
  have bv16nfa3 : ((∀ k : Nat, 0 ≤ k → k ≤ 8 → (0 : Int) ≤ (v16nfa3 k).toInt ∧ (v16nfa3 k).toInt ≤ 8) ∧ (∀ k : Nat, 19 ≤ k → k ≤ 19 → (0 : Int) ≤ (v16nfa3 k).toInt ∧ (v16nfa3 k).toInt ≤ 8) ∧ (∀ k : Nat, 20 ≤ k → k ≤ 20 → (0 : Int) ≤ (v16nfa3 k).toInt ∧ (v16nfa3 k).toInt ≤ 19)) := cp_SS hraw16_0 (by decide) (by decide) bfa0_17
  exact W.vret hx hb hr (fun t ht hW => ⟨⟨(), rfl, trivial, v1na0_25, v1nfa0_23, v1nfa0_24, v16nfa3, bv1nfa0_23, bv1nfa0_24, bv16nfa3, by rw [ht]; exact hP, va_K.moved hW.alike hK, hD⟩, hS.F ht⟩) hS.2.2 dX8_begin_19

set_option maxHeartbeats 4000000 in
set_option maxRecDepth 100000 in
theorem c_X8_minutesOn (l : Launch) (dC : Nat → ClassId) (dI : Nat → Nat → Nat) (sz : Nat) (a0 : Nat) (a1 : Int32) (a0g_0 a0g_1 a0g_2 a0g_3 a0g_4 a0g_5 a0g_6 a0g_7 a0g_8 a0g_9 a0g_10 a0g_11 a0g_12 a0g_13 a0g_14 a0g_16 a0g_19 a0g_20 a0g_21 a0g_22 a0g_29 a0g_30 a0g_31 a0g_32 a0g_33 a0g_34 a0g_35 a0g_36 a0g_37 a0g_38 a0g_39 : Value) (a0_15 : Nat) (a0_17 : Nat) (a0_18 : Nat) (a0_23 : Nat) (a0_24 : Nat) (a0_25 : Int32) (a0_26 : Int32) (a0_27 : Int32) (a0_28 : Int32) (ka0_15 : ClassId) (fa0_15 : Nat → Int32) (ka0_23 : ClassId) (fa0_23 : Nat → Int32) (ka0_24 : ClassId) (fa0_24 : Nat → Int32) (ka0_17 : ClassId) (fa0_17 : Nat → Int32) (ka0_18 : ClassId) (fa0_18 : Nat → Int32) (bfa0_15 : ((∀ k : Nat, 0 ≤ k → k ≤ 0 → (2 : Int) ≤ (fa0_15 k).toInt ∧ (fa0_15 k).toInt ≤ 9) ∧ (∀ k : Nat, 1 ≤ k → k ≤ 1 → (1 : Int) ≤ (fa0_15 k).toInt ∧ (fa0_15 k).toInt ≤ 20) ∧ (∀ k : Nat, 2 ≤ k → k ≤ 2 → (0 : Int) ≤ (fa0_15 k).toInt ∧ (fa0_15 k).toInt ≤ 8) ∧ (∀ k : Nat, 3 ≤ k → k ≤ 3 → (0 : Int) ≤ (fa0_15 k).toInt ∧ (fa0_15 k).toInt ≤ 100) ∧ (∀ k : Nat, 4 ≤ k → k ≤ 4 → (0 : Int) ≤ (fa0_15 k).toInt ∧ (fa0_15 k).toInt ≤ 9) ∧ (∀ k : Nat, 5 ≤ k → k ≤ 5 → (0 : Int) ≤ (fa0_15 k).toInt ∧ (fa0_15 k).toInt ≤ 3) ∧ (∀ k : Nat, 6 ≤ k → k ≤ 6 → (0 : Int) ≤ (fa0_15 k).toInt ∧ (fa0_15 k).toInt ≤ 6) ∧ (∀ k : Nat, 7 ≤ k → k ≤ 9 → (0 : Int) ≤ (fa0_15 k).toInt ∧ (fa0_15 k).toInt ≤ 8) ∧ (∀ k : Nat, 12 ≤ k → k ≤ 29 → (0 : Int) ≤ (fa0_15 k).toInt ∧ (fa0_15 k).toInt ≤ 20) ∧ (∀ k : Nat, 30 ≤ k → k ≤ 35 → (0 : Int) ≤ (fa0_15 k).toInt ∧ (fa0_15 k).toInt ≤ 8) ∧ (∀ k : Nat, 36 ≤ k → k ≤ 47 → (0 : Int) ≤ (fa0_15 k).toInt ∧ (fa0_15 k).toInt ≤ 999))) (bfa0_23 : (∀ k, (0 : Int) ≤ (fa0_23 k).toInt ∧ (fa0_23 k).toInt ≤ 80)) (bfa0_24 : (∀ k, (0 : Int) ≤ (fa0_24 k).toInt ∧ (fa0_24 k).toInt ≤ 80)) (bfa0_17 : ((∀ k : Nat, 0 ≤ k → k ≤ 8 → (0 : Int) ≤ (fa0_17 k).toInt ∧ (fa0_17 k).toInt ≤ 8) ∧ (∀ k : Nat, 19 ≤ k → k ≤ 19 → (0 : Int) ≤ (fa0_17 k).toInt ∧ (fa0_17 k).toInt ≤ 8) ∧ (∀ k : Nat, 20 ≤ k → k ≤ 20 → (0 : Int) ≤ (fa0_17 k).toInt ∧ (fa0_17 k).toInt ≤ 19))) (bfa0_18 : ((∀ k : Nat, 0 ≤ k → k ≤ 8 → (0 : Int) ≤ (fa0_18 k).toInt ∧ (fa0_18 k).toInt ≤ 8) ∧ (∀ k : Nat, 19 ≤ k → k ≤ 19 → (0 : Int) ≤ (fa0_18 k).toInt ∧ (fa0_18 k).toInt ≤ 8) ∧ (∀ k : Nat, 20 ≤ k → k ≤ 20 → (0 : Int) ≤ (fa0_18 k).toInt ∧ (fa0_18 k).toInt ≤ 19))) (hkm : ∀ (j i0 i : Int32), (0 : Int) ≤ j.toInt → j.toInt ≤ 8 → i0.toInt = 12 + 2 * j.toInt → i.toInt = 13 + 2 * j.toInt → (fa0_15 i0.toNatClampNeg).toInt = (1 : Int32).toInt → (1 : Int) ≤ (fa0_15 i.toNatClampNeg).toInt) : zm l yX8_minutesOn wsX8_minutesOn ({ frames := 4, cells := 0, slots := 0, locals := 95 }) [.ref a0, .int a1] dC dI sz [(a0, .inr (8, [a0g_0, a0g_1, a0g_2, a0g_3, a0g_4, a0g_5, a0g_6, a0g_7, a0g_8, a0g_9, a0g_10, a0g_11, a0g_12, a0g_13, a0g_14, Value.ref a0_15, a0g_16, Value.ref a0_17, Value.ref a0_18, a0g_19, a0g_20, a0g_21, a0g_22, Value.ref a0_23, Value.ref a0_24, Value.int a0_25, Value.int a0_26, Value.int a0_27, Value.int a0_28, a0g_29, a0g_30, a0g_31, a0g_32, a0g_33, a0g_34, a0g_35, a0g_36, a0g_37, a0g_38, a0g_39])), (a0_15, .inl (ka0_15, 156, .inl (fa0_15))), (a0_23, .inl (ka0_23, 3, .inl (fa0_23))), (a0_24, .inl (ka0_24, 3, .inl (fa0_24))), (a0_17, .inl (ka0_17, 23, .inl (fa0_17))), (a0_18, .inl (ka0_18, 23, .inl (fa0_18)))] [(ka0_15, .int), (ka0_23, .int), (ka0_24, .int), (ka0_17, .int), (ka0_18, .int)] (fun A _ => True) (fun A => va_Qv (fun (_ : Unit) => True) (fun (_ : Unit) (t : State) => ∃ na0_25 : Int32, ∃ na0_26 : Int32, ∃ na0_27 : Int32, ∃ na0_28 : Int32, ∃ nfa0_23 : Nat → Int32, ∃ nfa0_24 : Nat → Int32, ∃ nfa0_18 : Nat → Int32, (∀ k, (0 : Int) ≤ (nfa0_23 k).toInt ∧ (nfa0_23 k).toInt ≤ 80) ∧ (∀ k, (0 : Int) ≤ (nfa0_24 k).toInt ∧ (nfa0_24 k).toInt ≤ 80) ∧ ((∀ k : Nat, 0 ≤ k → k ≤ 8 → (0 : Int) ≤ (nfa0_18 k).toInt ∧ (nfa0_18 k).toInt ≤ 8) ∧ (∀ k : Nat, 19 ≤ k → k ≤ 19 → (0 : Int) ≤ (nfa0_18 k).toInt ∧ (nfa0_18 k).toInt ≤ 8) ∧ (∀ k : Nat, 20 ≤ k → k ≤ 20 → (0 : Int) ≤ (nfa0_18 k).toInt ∧ (nfa0_18 k).toInt ≤ 19)) ∧ ax_B dC dI A [(a0, .inr (8, [a0g_0, a0g_1, a0g_2, a0g_3, a0g_4, a0g_5, a0g_6, a0g_7, a0g_8, a0g_9, a0g_10, a0g_11, a0g_12, a0g_13, a0g_14, Value.ref a0_15, a0g_16, Value.ref a0_17, Value.ref a0_18, a0g_19, a0g_20, a0g_21, a0g_22, Value.ref a0_23, Value.ref a0_24, Value.int na0_25, Value.int na0_26, Value.int na0_27, Value.int na0_28, a0g_29, a0g_30, a0g_31, a0g_32, a0g_33, a0g_34, a0g_35, a0g_36, a0g_37, a0g_38, a0g_39])), (a0_15, .inl (ka0_15, 156, .inl (fa0_15))), (a0_23, .inl (ka0_23, 3, .inl (nfa0_23))), (a0_24, .inl (ka0_24, 3, .inl (nfa0_24))), (a0_17, .inl (ka0_17, 23, .inl (fa0_17))), (a0_18, .inl (ka0_18, 23, .inl (nfa0_18)))] [(ka0_15, .int), (ka0_23, .int), (ka0_24, .int), (ka0_17, .int), (ka0_18, .int)] t) A) := by
  refine zh (cc := cX8_minutesOn) (maxL := 3) (ret := none) zn_RX8 rfl (Nat.le_of_ble_eq_true rfl) (fun p e s m below meth c A ls hx hb hml hr hts (hown : s.vm.findClass RX8 = some m.cls) hlocks hA hS hP hK hD hE (hl : lv_has ls 3 [(0, .ref a0), (1, .int a1)]) => ?_)
  refine ai_open (fun K hK0 => ?_)
  refine (hK0 _ _ _).mpr ?_
  refine lv_aload_n hx hb dX8_minutesOn_0 rfl (lv_at hl 0 rfl) ?_
  have hKc := hK.sub (tys' := [(ka0_15, .int), (ka0_23, .int), (ka0_24, .int), (ka0_17, .int), (ka0_18, .int)]) [0, 1, 2, 3, 4] rfl
  refine va_callv (va_runV (As := []) (rest := []) ⟨hx, hb, hml, hown, hts⟩ (c_X8_begin l dC dI s.heap.size a0 a0g_0 a0g_1 a0g_2 a0g_3 a0g_4 a0g_5 a0g_6 a0g_7 a0g_8 a0g_9 a0g_10 a0g_11 a0g_12 a0g_13 a0g_14 a0g_16 a0g_19 a0g_20 a0g_21 a0g_22 (Value.int a0_26) (Value.int a0_27) (Value.int a0_28) a0g_29 a0g_30 a0g_31 a0g_32 a0g_33 a0g_34 a0g_35 a0g_36 a0g_37 a0g_38 a0g_39 a0_15 a0_17 a0_18 a0_23 a0_24 a0_25 ka0_15 fa0_15 ka0_23 fa0_23 ka0_24 fa0_24 ka0_17 fa0_17 ka0_18 fa0_18 bfa0_15 bfa0_23 bfa0_24 bfa0_17 bfa0_18) (cwV 0 hts gX8_minutesOn_X8_begin rfl rfl rfl zd_X8_begin ⟨Nat.le_of_ble_eq_true rfl, Nat.le_of_ble_eq_true rfl⟩) ⟨ax_blind (fun _ _ _ _ _ => trivial), zr_8 hKc (zp_P6 hP) (q0 := 0) rfl, ax_pre (zp_P6 hP) hKc (zp_D6 hD) (fun _ _ => trivial)⟩ rfl rfl hl.1 rfl (lv_room (Nat.le_of_ble_eq_true rfl)) dX8_minutesOn_1 ⟨Nat.le_of_ble_eq_true rfl, Nat.le_of_ble_eq_true rfl⟩) hS (fun q _ h => zp_F6 hD hS hA q h) (zp_F6 hD hS hA) (fun u t H locs ht hvm hw => zx_4 (fun v1na0_25 v1nfa0_23 v1nfa0_24 v1nfa0_18 => zy_3 (fun bv1nfa0_23 bv1nfa0_24 bv1nfa0_18 hB hz1 hk1 hS1 => zo6 hB ht hP hD hk1 (zp_F6 hD hS hA) hS1 (fun hP hK1 hD hS => ?_))))
  refine lv_iconst (v := 0) hx hb dX8_minutesOn_4 zk_iconst_0 ?_
  refine lv_istore_n (lv' := [(2, .int 0), (0, .ref a0), (1, .int a1)]) hx hb dX8_minutesOn_5 rfl hl (by decide) rfl (fun ls hl => ?_)
  have J6 : ∀ (n : Nat) (j6l2 : Int32) (j6a0_26 : Int32) (j6a0_27 : Int32) (j6a0_28 : Int32) (j6a0_18_a : Nat → Int32) (H : Heap) (locs : List Loc) (ls : Array Slot), (2147483648 : Int) - j6l2.toInt ≤ (n : Int) → (0 : Int) ≤ j6l2.toInt → ((∀ k : Nat, 0 ≤ k → k ≤ 8 → (0 : Int) ≤ (j6a0_18_a k).toInt ∧ (j6a0_18_a k).toInt ≤ 8) ∧ (∀ k : Nat, 19 ≤ k → k ≤ 19 → (0 : Int) ≤ (j6a0_18_a k).toInt ∧ (j6a0_18_a k).toInt ≤ 8) ∧ (∀ k : Nat, 20 ≤ k → k ≤ 20 → (0 : Int) ≤ (j6a0_18_a k).toInt ∧ (j6a0_18_a k).toInt ≤ 19)) → va_P (dC, dI) vwCl [(a0, .inr (8, [a0g_0, a0g_1, a0g_2, a0g_3, a0g_4, a0g_5, a0g_6, a0g_7, a0g_8, a0g_9, a0g_10, a0g_11, a0g_12, a0g_13, a0g_14, Value.ref a0_15, a0g_16, Value.ref a0_17, Value.ref a0_18, a0g_19, a0g_20, a0g_21, a0g_22, Value.ref a0_23, Value.ref a0_24, Value.int v1na0_25, Value.int j6a0_26, Value.int j6a0_27, Value.int j6a0_28, a0g_29, a0g_30, a0g_31, a0g_32, a0g_33, a0g_34, a0g_35, a0g_36, a0g_37, a0g_38, a0g_39])), (a0_15, .inl (ka0_15, 156, .inl (fa0_15))), (a0_23, .inl (ka0_23, 3, .inl (v1nfa0_23))), (a0_24, .inl (ka0_24, 3, .inl (v1nfa0_24))), (a0_17, .inl (ka0_17, 23, .inl (fa0_17))), (a0_18, .inl (ka0_18, 23, .inl (j6a0_18_a)))] H → va_D A [(a0, .inr (8, [a0g_0, a0g_1, a0g_2, a0g_3, a0g_4, a0g_5, a0g_6, a0g_7, a0g_8, a0g_9, a0g_10, a0g_11, a0g_12, a0g_13, a0g_14, Value.ref a0_15, a0g_16, Value.ref a0_17, Value.ref a0_18, a0g_19, a0g_20, a0g_21, a0g_22, Value.ref a0_23, Value.ref a0_24, Value.int v1na0_25, Value.int j6a0_26, Value.int j6a0_27, Value.int j6a0_28, a0g_29, a0g_30, a0g_31, a0g_32, a0g_33, a0g_34, a0g_35, a0g_36, a0g_37, a0g_38, a0g_39])), (a0_15, .inl (ka0_15, 156, .inl (fa0_15))), (a0_23, .inl (ka0_23, 3, .inl (v1nfa0_23))), (a0_24, .inl (ka0_24, 3, .inl (v1nfa0_24))), (a0_17, .inl (ka0_17, 23, .inl (fa0_17))), (a0_18, .inl (ka0_18, 23, .inl (j6a0_18_a)))] → va_S A s.heap H locs → lv_has ls 3 [(0, .ref a0), (1, .int a1), (2, .int j6l2)] → K H locs (F0 m 6 ls []) := by
    intro n
    induction n with
    | zero =>
      intro j6l2 j6a0_26 j6a0_27 j6a0_28 j6a0_18_a H locs ls hm bj6l2_l bj6a0_18_a hP hD hS hl
      have h8 := ai_min j6l2
      have h9 := ai_max j6l2
      exact absurd hm (by omega)
    | succ n ih6 =>
      intro j6l2 j6a0_26 j6a0_27 j6a0_28 j6a0_18_a H locs ls hm bj6l2_l bj6a0_18_a hP hD hS hl
      refine (hK0 _ _ _).mpr ?_
      have hm6 := hm
      refine lv_iload_n hx hb dX8_minutesOn_6 rfl (lv_at hl 2 rfl) ?_
      refine lv_iload_n hx hb dX8_minutesOn_7 rfl (lv_at hl 1 rfl) ?_
      refine lv_icmp_ge (tgt := 25) hx hb dX8_minutesOn_8 (by decide) (fun c8 => ?_) (fun c8 => ?_)
      · have gc8 := ai_le c8
        exact W.vret hx hb hr (fun t ht hW => ⟨⟨(), rfl, trivial, v1na0_25, j6a0_26, j6a0_27, j6a0_28, v1nfa0_23, v1nfa0_24, j6a0_18_a, bv1nfa0_23, bv1nfa0_24, bj6a0_18_a, by rw [ht]; exact hP, va_K.moved hW.alike hK, hD⟩, hS.F ht⟩) hS.2.2 dX8_minutesOn_25
      · have gc8 := ai_nle c8
        have u8f_j6l2 : j6l2.toInt ≤ (2147483646 : Int) := ai_lthi gc8 (ai_max a1)
        have l8f_a1 : (1 : Int) ≤ a1.toInt := ai_ltlo gc8 bj6l2_l
        refine lv_aload_n hx hb dX8_minutesOn_11 rfl (lv_at hl 0 rfl) ?_
        refine lv_aload_n hx hb dX8_minutesOn_12 rfl (lv_at hl 0 rfl) ?_
        refine va_get (D := (dC, dI)) (ci := 8) (v := .ref a0_18) (C := RX8) (T := TX8) (N := 40) hx hb hts zi_X8_minutesOn_8 hown hK hP 0 rfl rfl 18 (by decide) (hts (.fieldLink RX8 29 "WaxTurnsModel" "trial" "[I") (zm_X8_minutesOn_r1 (List.mem_of_getElem? (i := 0) rfl))) (fun _ h9 => h9) rfl dX8_minutesOn_13 ?_
        refine zc_cutc (wc := [(a0, .inr (8, [a0g_0, a0g_1, a0g_2, a0g_3, a0g_4, a0g_5, a0g_6, a0g_7, a0g_8, a0g_9, a0g_10, a0g_11, a0g_12, a0g_13, a0g_14, Value.ref a0_15, a0g_16, Value.ref a0_17, Value.ref a0_18, a0g_19, a0g_20, a0g_21, a0g_22, Value.ref a0_23, Value.ref a0_24, Value.int v1na0_25, Value.int j6a0_26, Value.int j6a0_27, Value.int j6a0_28, a0g_29, a0g_30, a0g_31, a0g_32, a0g_33, a0g_34, a0g_35, a0g_36, a0g_37, a0g_38, a0g_39])), (a0_18, .inl (ka0_18, 23, .inl (j6a0_18_a))), (a0_15, .inl (ka0_15, 156, .inl (fa0_15))), (a0_24, .inl (ka0_24, 3, .inl (v1nfa0_24))), (a0_23, .inl (ka0_23, 3, .inl (v1nfa0_23)))]) hP hD hS hA [0, 5, 1, 3, 2] (by decide +kernel) rfl (fun hPc hDc hFc hCc => ?_)
        have hKc := hK.sub (tys' := [(ka0_18, .int), (ka0_15, .int), (ka0_24, .int), (ka0_23, .int)]) [4, 0, 2, 1] rfl
        refine va_callv (va_runV (As := [.ref a0_18]) (rest := []) ⟨hx, hb, hml, hown, hts⟩ (c_X8_minuteOn l dC dI H.size a0 a0_18 a0g_0 a0g_1 a0g_2 a0g_3 a0g_4 a0g_5 a0g_6 a0g_7 a0g_8 a0g_9 a0g_10 a0g_11 a0g_12 a0g_13 a0g_14 a0g_16 (Value.ref a0_17) (Value.ref a0_18) a0g_19 a0g_20 a0g_21 a0g_22 a0g_29 a0g_30 a0g_31 a0g_32 a0g_33 a0g_34 a0g_35 a0g_36 a0g_37 a0g_38 a0g_39 a0_15 a0_23 a0_24 v1na0_25 j6a0_26 j6a0_27 j6a0_28 ka0_18 j6a0_18_a ka0_15 fa0_15 ka0_24 v1nfa0_24 ka0_23 v1nfa0_23 bj6a0_18_a bfa0_15 bv1nfa0_24 bv1nfa0_23 hkm) (cwV 1 hts gX8_minutesOn_X8_minuteOn rfl rfl rfl zd_X8_minuteOn ⟨Nat.le_of_ble_eq_true rfl, Nat.le_of_ble_eq_true rfl⟩) ⟨ax_blind (fun _ _ _ _ _ => trivial), zr_8 hKc hPc (q0 := 0) rfl, ax_pre hPc hKc hDc (fun _ _ => trivial)⟩ rfl rfl hl.1 rfl (lv_room (Nat.le_of_ble_eq_true rfl)) dX8_minutesOn_16 ⟨Nat.le_of_ble_eq_true rfl, Nat.le_of_ble_eq_true rfl⟩) hS (fun q _ h => hFc q h) hFc (fun u t H locs ht hvm hw => zx_4 (fun v16na0_26 v16na0_27 v16na0_28 v16nfa1 => zy_1 (fun bv16nfa1 hB hz1 hk1 hS1 => zo hB ht hS1 (fun hP1 hK1 hD1 hS => ?_))))
        refine zc_backc (w := [(a0, .inr (8, [a0g_0, a0g_1, a0g_2, a0g_3, a0g_4, a0g_5, a0g_6, a0g_7, a0g_8, a0g_9, a0g_10, a0g_11, a0g_12, a0g_13, a0g_14, Value.ref a0_15, a0g_16, Value.ref a0_17, Value.ref a0_18, a0g_19, a0g_20, a0g_21, a0g_22, Value.ref a0_23, Value.ref a0_24, Value.int v1na0_25, Value.int v16na0_26, Value.int v16na0_27, Value.int v16na0_28, a0g_29, a0g_30, a0g_31, a0g_32, a0g_33, a0g_34, a0g_35, a0g_36, a0g_37, a0g_38, a0g_39])), (a0_15, .inl (ka0_15, 156, .inl (fa0_15))), (a0_23, .inl (ka0_23, 3, .inl (v1nfa0_23))), (a0_24, .inl (ka0_24, 3, .inl (v1nfa0_24))), (a0_17, .inl (ka0_17, 23, .inl (fa0_17))), (a0_18, .inl (ka0_18, 23, .inl (v16nfa1)))]) hP hD hCc hk1 hFc hP1 hD1 [.inr 0, .inr 2, .inr 4, .inr 3, .inl 4, .inr 1] (by decide +kernel) rfl (fun hP hD => ?_)
        obtain ⟨x19, ex19⟩ : ∃ y : Int32, y = j6l2 + Int32.ofInt 1 := ⟨_, rfl⟩
        have qx19 : x19.toInt = j6l2.toInt + 1 := ai_inc ex19 (by decide) (by decide) u8f_j6l2 (by decide)
        have bx19 : (1 : Int) ≤ x19.toInt ∧ x19.toInt ≤ 2147483647 := ⟨by rw [qx19]; exact Int.add_le_add bj6l2_l (Int.le_refl _), by rw [qx19]; exact Int.add_le_add u8f_j6l2 (Int.le_refl _)⟩
        refine lv_iinc (v := x19) (lv' := [(2, .int x19), (0, .ref a0), (1, .int a1)]) hx hb dX8_minutesOn_19 hl (k := 2) rfl ex19.symm (by decide) rfl (fun ls hl => ?_)
        refine lv_goto (tgt := 6) hx hb dX8_minutesOn_22 (by decide) ?_
        exact (hK0 _ _ _).mp (ih6 x19 v16na0_26 v16na0_27 v16na0_28 v16nfa1 _ _ _ (by first | exact zg_s hm6 qx19 | (have h0 := qx19; omega)) (Int.le_trans zq4 bx19.1) bv16nfa1 hP hD hS (lv_sub hl [1, 2, 0] rfl))
  exact (hK0 _ _ _).mp (J6 2147483648 0 a0_26 a0_27 a0_28 v1nfa0_18 _ _ _ (by first | decide +kernel | (have h1 : (0 : Int) ≤ (0 : Int32).toInt := zq5; have h2 : (0 : Int32).toInt ≤ (0 : Int) := zq6; omega)) zq5 bv1nfa0_18 hP hD hS (lv_sub hl [1, 2, 0] rfl))
end P234_00_safe
section P236_00_safe
set_option maxHeartbeats 4000000 in
set_option maxRecDepth 100000 in
theorem c_X8_whyB (l : Launch) (dC : Nat → ClassId) (dI : Nat → Nat → Nat) (sz : Nat) (a0 : Nat) (a1 : Int32) (a2 : Int32) (a0g_0 a0g_1 a0g_2 a0g_3 a0g_4 a0g_5 a0g_6 a0g_7 a0g_8 a0g_9 a0g_10 a0g_11 a0g_12 a0g_13 a0g_14 a0g_15 a0g_16 a0g_17 a0g_18 a0g_19 a0g_20 a0g_21 a0g_22 a0g_23 a0g_24 a0g_25 a0g_26 a0g_27 a0g_28 a0g_29 a0g_30 a0g_31 a0g_32 a0g_33 a0g_34 a0g_35 a0g_36 a0g_37 a0g_38 a0g_39 : Value) (ba1_l : (0 : Int) ≤ a1.toInt) (ba1_u : a1.toInt ≤ (1 : Int)) (ba2_l : (0 : Int) ≤ a2.toInt) (ba2_u : a2.toInt ≤ (1 : Int)) : zm l yX8_why wsX8_why ({ frames := 0, cells := 0, slots := 0, locals := 0 }) [.ref a0, .int a1, .int a2] dC dI sz [(a0, .inr (8, [a0g_0, a0g_1, a0g_2, a0g_3, a0g_4, a0g_5, a0g_6, a0g_7, a0g_8, a0g_9, a0g_10, a0g_11, a0g_12, a0g_13, a0g_14, a0g_15, a0g_16, a0g_17, a0g_18, a0g_19, a0g_20, a0g_21, a0g_22, a0g_23, a0g_24, a0g_25, a0g_26, a0g_27, a0g_28, a0g_29, a0g_30, a0g_31, a0g_32, a0g_33, a0g_34, a0g_35, a0g_36, a0g_37, a0g_38, a0g_39]))] [] (fun A _ => True) (fun A => va_Qi (fun (r : Int32) (_ : Unit) => (r = 2 ∧ (1 : Int) ≤ a1.toInt ∧ a1.toInt ≤ (1 : Int) ∧ (0 : Int) ≤ a2.toInt ∧ a2.toInt ≤ (0 : Int)) ∨ (r = 1 ∧ (0 : Int) ≤ a1.toInt ∧ a1.toInt ≤ (0 : Int)) ∨ (r = 0 ∧ (1 : Int) ≤ a1.toInt ∧ a1.toInt ≤ (1 : Int) ∧ (1 : Int) ≤ a2.toInt ∧ a2.toInt ≤ (1 : Int))) (fun (_ : Unit) (t : State) => ax_B dC dI A [(a0, .inr (8, [a0g_0, a0g_1, a0g_2, a0g_3, a0g_4, a0g_5, a0g_6, a0g_7, a0g_8, a0g_9, a0g_10, a0g_11, a0g_12, a0g_13, a0g_14, a0g_15, a0g_16, a0g_17, a0g_18, a0g_19, a0g_20, a0g_21, a0g_22, a0g_23, a0g_24, a0g_25, a0g_26, a0g_27, a0g_28, a0g_29, a0g_30, a0g_31, a0g_32, a0g_33, a0g_34, a0g_35, a0g_36, a0g_37, a0g_38, a0g_39]))] [] t) A) := by
  refine zh (cc := cX8_why) (maxL := 3) (ret := (some .int)) zn_RX8 rfl (Nat.le_of_ble_eq_true rfl) (fun p e s m below meth c A ls hx hb hml hr hts (hown : s.vm.findClass RX8 = some m.cls) hlocks hA hS hP hK hD hE (hl : lv_has ls 3 [(0, .ref a0), (1, .int a1), (2, .int a2)]) => ?_)
  refine lv_iload_n hx hb dX8_why_0 rfl (lv_at hl 1 rfl) ?_
  refine lv_if_ne (tgt := 8) hx hb dX8_why_1 (by decide) (fun c1 => ?_) (fun c1 => ?_)
  · have gc1 := ai_ne c1
    have l1t_a1 : (1 : Int) ≤ a1.toInt := (by first | exact zg_l ba1_l gc1 (by decide) (by decide) | (have h1 := ba1_l; have h2 : (0 : Int32).toInt = 0 := (by decide); rw [h2] at gc1; omega))
    refine lv_iload_n hx hb dX8_why_8 rfl (lv_at hl 2 rfl) ?_
    refine lv_if_eq (tgt := 16) hx hb dX8_why_9 (by decide) (fun c9 => ?_) (fun c9 => ?_)
    · have gc9 := ai_eq c9
      have u9t_a2 : a2.toInt ≤ (0 : Int) := Int.le_trans (Int.le_of_eq gc9) zq6
      have l9t_a2 : (0 : Int) ≤ a2.toInt := ba2_l
      refine lv_iconst (v := 2) hx hb dX8_why_16 zk_iconst_2 ?_
      exact W.iret (v := 2) hx hb hr (fun t ht hW => ⟨⟨2, (), rfl, (Or.inl ⟨rfl, l1t_a1, ba1_u, l9t_a2, u9t_a2⟩), by rw [ht]; exact hP, va_K.moved hW.alike hK, hD⟩, hS.F ht⟩) hS.2.2 dX8_why_17
    · have gc9 := ai_ne c9
      have l9f_a2 : (1 : Int) ≤ a2.toInt := (by first | exact zg_l ba2_l gc9 (by decide) (by decide) | (have h1 := ba2_l; have h2 : (0 : Int32).toInt = 0 := (by decide); rw [h2] at gc9; omega))
      refine lv_iconst (v := 0) hx hb dX8_why_12 zk_iconst_0 ?_
      refine lv_goto (tgt := 17) hx hb dX8_why_13 (by decide) ?_
      exact W.iret (v := 0) hx hb hr (fun t ht hW => ⟨⟨0, (), rfl, (Or.inr (Or.inr (⟨rfl, l1t_a1, ba1_u, l9f_a2, ba2_u⟩))), by rw [ht]; exact hP, va_K.moved hW.alike hK, hD⟩, hS.F ht⟩) hS.2.2 dX8_why_17
  · have gc1 := ai_eq c1
    have u1f_a1 : a1.toInt ≤ (0 : Int) := Int.le_trans (Int.le_of_eq gc1) zq6
    have l1f_a1 : (0 : Int) ≤ a1.toInt := ba1_l
    refine lv_iconst (v := 1) hx hb dX8_why_4 zk_iconst_1 ?_
    refine lv_goto (tgt := 17) hx hb dX8_why_5 (by decide) ?_
    exact W.iret (v := 1) hx hb hr (fun t ht hW => ⟨⟨1, (), rfl, (Or.inr (Or.inl ⟨rfl, l1f_a1, u1f_a1⟩)), by rw [ht]; exact hP, va_K.moved hW.alike hK, hD⟩, hS.F ht⟩) hS.2.2 dX8_why_17

set_option maxHeartbeats 4000000 in
set_option maxRecDepth 100000 in
theorem c_X8_aheadWhy (l : Launch) (dC : Nat → ClassId) (dI : Nat → Nat → Nat) (sz : Nat) (a0 : Nat) (a1 : Int32) (a2 : Int32) (a3 : Int32) (a0g_0 a0g_1 a0g_2 a0g_3 a0g_4 a0g_5 a0g_6 a0g_7 a0g_8 a0g_9 a0g_10 a0g_11 a0g_12 a0g_13 a0g_14 a0g_15 a0g_16 a0g_17 a0g_18 a0g_19 a0g_20 a0g_21 a0g_22 a0g_23 a0g_24 a0g_25 a0g_26 a0g_27 a0g_28 a0g_29 a0g_30 a0g_31 a0g_32 a0g_33 a0g_34 a0g_35 a0g_36 a0g_37 a0g_38 a0g_39 : Value) (ba1_l : (0 : Int) ≤ a1.toInt) (ba1_u : a1.toInt ≤ (1 : Int)) (ba2_l : (0 : Int) ≤ a2.toInt) (ba2_u : a2.toInt ≤ (1 : Int)) : zm l yX8_aheadWhy wsX8_aheadWhy ({ frames := 1, cells := 0, slots := 0, locals := 22 }) [.ref a0, .int a1, .int a2, .int a3] dC dI sz [(a0, .inr (8, [a0g_0, a0g_1, a0g_2, a0g_3, a0g_4, a0g_5, a0g_6, a0g_7, a0g_8, a0g_9, a0g_10, a0g_11, a0g_12, a0g_13, a0g_14, a0g_15, a0g_16, a0g_17, a0g_18, a0g_19, a0g_20, a0g_21, a0g_22, a0g_23, a0g_24, a0g_25, a0g_26, a0g_27, a0g_28, a0g_29, a0g_30, a0g_31, a0g_32, a0g_33, a0g_34, a0g_35, a0g_36, a0g_37, a0g_38, a0g_39]))] [] (fun A _ => True) (fun A => va_Qi (fun (r : Int32) (_ : Unit) => (r = 2 ∧ (1 : Int) ≤ a1.toInt ∧ a1.toInt ≤ (1 : Int)) ∨ (r = 1 ∧ (0 : Int) ≤ a1.toInt ∧ a1.toInt ≤ (0 : Int)) ∨ (r = 0 ∧ (1 : Int) ≤ a1.toInt ∧ a1.toInt ≤ (1 : Int) ∧ (0 : Int) ≤ a3.toInt ∧ a3.toInt ≤ (300 : Int))) (fun (_ : Unit) (t : State) => ax_B dC dI A [(a0, .inr (8, [a0g_0, a0g_1, a0g_2, a0g_3, a0g_4, a0g_5, a0g_6, a0g_7, a0g_8, a0g_9, a0g_10, a0g_11, a0g_12, a0g_13, a0g_14, a0g_15, a0g_16, a0g_17, a0g_18, a0g_19, a0g_20, a0g_21, a0g_22, a0g_23, a0g_24, a0g_25, a0g_26, a0g_27, a0g_28, a0g_29, a0g_30, a0g_31, a0g_32, a0g_33, a0g_34, a0g_35, a0g_36, a0g_37, a0g_38, a0g_39]))] [] t) A) := by
  refine zh (cc := cX8_aheadWhy) (maxL := 4) (ret := (some .int)) zn_RX8 rfl (Nat.le_of_ble_eq_true rfl) (fun p e s m below meth c A ls hx hb hml hr hts (hown : s.vm.findClass RX8 = some m.cls) hlocks hA hS hP hK hD hE (hl : lv_has ls 4 [(0, .ref a0), (1, .int a1), (2, .int a2), (3, .int a3)]) => ?_)
  refine lv_aload_n hx hb dX8_aheadWhy_0 rfl (lv_at hl 0 rfl) ?_
  refine lv_iload_n hx hb dX8_aheadWhy_1 rfl (lv_at hl 1 rfl) ?_
  refine lv_iload_n hx hb dX8_aheadWhy_2 rfl (lv_at hl 3 rfl) ?_
  refine lv_iload_n hx hb dX8_aheadWhy_3 rfl (lv_at hl 2 rfl) ?_
  refine lv_sipush (v := 300) hx hb dX8_aheadWhy_4 zk_sipush_300 ?_
  refine va_calli (va_runS (As := [.int a3, .int a2, .int 300]) (rest := [.int a1, .ref a0]) ⟨hx, hb, hml, hown, hts⟩ (c_X8_in l dC dI s.heap.size a3 a2 300 ) (va_cwS 3 hts gX8_aheadWhy_X8_in rfl rfl rfl zd_X8_in.2 ⟨Nat.le_of_ble_eq_true rfl, Nat.le_of_ble_eq_true rfl⟩) ⟨ax_blind (fun _ _ _ _ _ => trivial), ax_pre (zp_P0 hP) (zp_K hK) (zp_D0 hD) (fun _ _ => trivial)⟩ rfl rfl hl.1 rfl (lv_room (Nat.le_of_ble_eq_true rfl)) dX8_aheadWhy_7 ⟨Nat.le_of_ble_eq_true rfl, Nat.le_of_ble_eq_true rfl⟩) hS (fun q _ h => zp_F0 hD hS hA q h) (zp_F0 hD hS hA) (fun r7 u t H locs ht hvm hw hB hz1 hk1 hS1 => zo0 hB ht hP hD hk1 (zp_F0 hD hS hA) hS1 (fun hP hK1 hD hS => ?_))
  rcases hw with hw | hw
  · obtain ⟨hw, h7⟩ := hw
    subst hw
    have l7k0_a3 : (0 : Int) ≤ a3.toInt := Int.le_trans ba2_l h7.1
    have u7k0_a3 : a3.toInt ≤ (300 : Int) := Int.le_trans h7.2 zq82
    refine va_calli (va_runV (As := [.int a1, .int 1]) (rest := []) ⟨hx, hb, hml, hown, hts⟩ (c_X8_whyB l dC dI H.size a0 a1 1 a0g_0 a0g_1 a0g_2 a0g_3 a0g_4 a0g_5 a0g_6 a0g_7 a0g_8 a0g_9 a0g_10 a0g_11 a0g_12 a0g_13 a0g_14 a0g_15 a0g_16 a0g_17 a0g_18 a0g_19 a0g_20 a0g_21 a0g_22 a0g_23 a0g_24 a0g_25 a0g_26 a0g_27 a0g_28 a0g_29 a0g_30 a0g_31 a0g_32 a0g_33 a0g_34 a0g_35 a0g_36 a0g_37 a0g_38 a0g_39 ba1_l ba1_u (Int.le_trans zq4 zq1) zq0) (cwV 2 hts gX8_aheadWhy_X8_why rfl rfl rfl zd_X8_why ⟨Nat.le_of_ble_eq_true rfl, Nat.le_of_ble_eq_true rfl⟩) ⟨ax_blind (fun _ _ _ _ _ => trivial), zr_8 (zp_K hK) (zp_P1 hP) (q0 := 0) rfl, ax_pre (zp_P1 hP) (zp_K hK) (zp_D1 hD) (fun _ _ => trivial)⟩ rfl rfl hl.1 rfl (lv_room (Nat.le_of_ble_eq_true rfl)) dX8_aheadWhy_10 ⟨Nat.le_of_ble_eq_true rfl, Nat.le_of_ble_eq_true rfl⟩) hS (fun q _ h => zp_F1 hD hS hA q h) (zp_F1 hD hS hA) (fun r10 u t H locs ht hvm hw hB hz1 hk1 hS1 => zo1 hB ht hP hD hk1 (zp_F1 hD hS hA) hS1 (fun hP hK1 hD hS => ?_))
    rcases hw with hw | hw | hw
    · obtain ⟨hw, h10_0, h10_1, h10_2, h10_3⟩ := hw
      subst hw
      have l10k0_a1 : (1 : Int) ≤ a1.toInt := h10_0
      have u10k0_a1 : a1.toInt ≤ (1 : Int) := ba1_u
      exact absurd h10_3 (by decide)
    · obtain ⟨hw, h10_0, h10_1⟩ := hw
      subst hw
      have l10k1_a1 : (0 : Int) ≤ a1.toInt := ba1_l
      have u10k1_a1 : a1.toInt ≤ (0 : Int) := h10_1
      exact W.iret (v := 1) hx hb hr (fun t ht hW => ⟨⟨1, (), rfl, (Or.inr (Or.inl ⟨rfl, l10k1_a1, u10k1_a1⟩)), by rw [ht]; exact hP, va_K.moved hW.alike hK, hD⟩, hS.F ht⟩) hS.2.2 dX8_aheadWhy_13
    · obtain ⟨hw, h10_0, h10_1, h10_2, h10_3⟩ := hw
      subst hw
      have l10k2_a1 : (1 : Int) ≤ a1.toInt := h10_0
      have u10k2_a1 : a1.toInt ≤ (1 : Int) := ba1_u
      exact W.iret (v := 0) hx hb hr (fun t ht hW => ⟨⟨0, (), rfl, (Or.inr (Or.inr (⟨rfl, l10k2_a1, u10k2_a1, l7k0_a3, u7k0_a3⟩))), by rw [ht]; exact hP, va_K.moved hW.alike hK, hD⟩, hS.F ht⟩) hS.2.2 dX8_aheadWhy_13
  · obtain ⟨hw, h7⟩ := hw
    subst hw
    refine va_calli (va_runV (As := [.int a1, .int 0]) (rest := []) ⟨hx, hb, hml, hown, hts⟩ (c_X8_whyB l dC dI H.size a0 a1 0 a0g_0 a0g_1 a0g_2 a0g_3 a0g_4 a0g_5 a0g_6 a0g_7 a0g_8 a0g_9 a0g_10 a0g_11 a0g_12 a0g_13 a0g_14 a0g_15 a0g_16 a0g_17 a0g_18 a0g_19 a0g_20 a0g_21 a0g_22 a0g_23 a0g_24 a0g_25 a0g_26 a0g_27 a0g_28 a0g_29 a0g_30 a0g_31 a0g_32 a0g_33 a0g_34 a0g_35 a0g_36 a0g_37 a0g_38 a0g_39 ba1_l ba1_u zq5 (Int.le_trans zq6 zq4)) (cwV 2 hts gX8_aheadWhy_X8_why rfl rfl rfl zd_X8_why ⟨Nat.le_of_ble_eq_true rfl, Nat.le_of_ble_eq_true rfl⟩) ⟨ax_blind (fun _ _ _ _ _ => trivial), zr_8 (zp_K hK) (zp_P1 hP) (q0 := 0) rfl, ax_pre (zp_P1 hP) (zp_K hK) (zp_D1 hD) (fun _ _ => trivial)⟩ rfl rfl hl.1 rfl (lv_room (Nat.le_of_ble_eq_true rfl)) dX8_aheadWhy_10 ⟨Nat.le_of_ble_eq_true rfl, Nat.le_of_ble_eq_true rfl⟩) hS (fun q _ h => zp_F1 hD hS hA q h) (zp_F1 hD hS hA) (fun r10 u t H locs ht hvm hw hB hz1 hk1 hS1 => zo1 hB ht hP hD hk1 (zp_F1 hD hS hA) hS1 (fun hP hK1 hD hS => ?_))
    rcases hw with hw | hw | hw
    · obtain ⟨hw, h10_0, h10_1, h10_2, h10_3⟩ := hw
      subst hw
      have l10k0_a1 : (1 : Int) ≤ a1.toInt := h10_0
      have u10k0_a1 : a1.toInt ≤ (1 : Int) := ba1_u
      exact W.iret (v := 2) hx hb hr (fun t ht hW => ⟨⟨2, (), rfl, (Or.inl ⟨rfl, l10k0_a1, u10k0_a1⟩), by rw [ht]; exact hP, va_K.moved hW.alike hK, hD⟩, hS.F ht⟩) hS.2.2 dX8_aheadWhy_13
    · obtain ⟨hw, h10_0, h10_1⟩ := hw
      subst hw
      have l10k1_a1 : (0 : Int) ≤ a1.toInt := ba1_l
      have u10k1_a1 : a1.toInt ≤ (0 : Int) := h10_1
      exact W.iret (v := 1) hx hb hr (fun t ht hW => ⟨⟨1, (), rfl, (Or.inr (Or.inl ⟨rfl, l10k1_a1, u10k1_a1⟩)), by rw [ht]; exact hP, va_K.moved hW.alike hK, hD⟩, hS.F ht⟩) hS.2.2 dX8_aheadWhy_13
    · obtain ⟨hw, h10_0, h10_1, h10_2, h10_3⟩ := hw
      subst hw
      have l10k2_a1 : (1 : Int) ≤ a1.toInt := h10_0
      have u10k2_a1 : a1.toInt ≤ (1 : Int) := ba1_u
      exact absurd h10_2 (by decide)

set_option maxHeartbeats 4000000 in
set_option maxRecDepth 100000 in
theorem c_X8_routeWhy (l : Launch) (dC : Nat → ClassId) (dI : Nat → Nat → Nat) (sz : Nat) (a0 : Nat) (a1 : Int32) (a2 : Int32) (a0g_0 a0g_1 a0g_2 a0g_3 a0g_4 a0g_5 a0g_6 a0g_7 a0g_8 a0g_9 a0g_10 a0g_11 a0g_12 a0g_13 a0g_16 a0g_17 a0g_18 a0g_19 a0g_20 a0g_21 a0g_22 a0g_23 a0g_24 a0g_25 a0g_26 a0g_27 a0g_28 a0g_29 a0g_30 a0g_31 a0g_32 a0g_33 a0g_34 a0g_35 a0g_36 a0g_37 a0g_38 a0g_39 : Value) (a0_14 : Int32) (a0_15 : Nat) (ka0_15 : ClassId) (fa0_15 : Nat → Int32) (ba0_14_l : (1 : Int) ≤ a0_14.toInt) (ba0_14_u : a0_14.toInt ≤ (1 : Int)) (bfa0_15 : ((∀ k : Nat, 0 ≤ k → k ≤ 0 → (2 : Int) ≤ (fa0_15 k).toInt ∧ (fa0_15 k).toInt ≤ 9) ∧ (∀ k : Nat, 1 ≤ k → k ≤ 1 → (1 : Int) ≤ (fa0_15 k).toInt ∧ (fa0_15 k).toInt ≤ 20) ∧ (∀ k : Nat, 2 ≤ k → k ≤ 2 → (0 : Int) ≤ (fa0_15 k).toInt ∧ (fa0_15 k).toInt ≤ 8) ∧ (∀ k : Nat, 3 ≤ k → k ≤ 3 → (0 : Int) ≤ (fa0_15 k).toInt ∧ (fa0_15 k).toInt ≤ 100) ∧ (∀ k : Nat, 4 ≤ k → k ≤ 4 → (0 : Int) ≤ (fa0_15 k).toInt ∧ (fa0_15 k).toInt ≤ 9) ∧ (∀ k : Nat, 5 ≤ k → k ≤ 5 → (0 : Int) ≤ (fa0_15 k).toInt ∧ (fa0_15 k).toInt ≤ 3) ∧ (∀ k : Nat, 6 ≤ k → k ≤ 6 → (0 : Int) ≤ (fa0_15 k).toInt ∧ (fa0_15 k).toInt ≤ 6) ∧ (∀ k : Nat, 7 ≤ k → k ≤ 9 → (0 : Int) ≤ (fa0_15 k).toInt ∧ (fa0_15 k).toInt ≤ 8) ∧ (∀ k : Nat, 12 ≤ k → k ≤ 29 → (0 : Int) ≤ (fa0_15 k).toInt ∧ (fa0_15 k).toInt ≤ 20) ∧ (∀ k : Nat, 30 ≤ k → k ≤ 35 → (0 : Int) ≤ (fa0_15 k).toInt ∧ (fa0_15 k).toInt ≤ 8) ∧ (∀ k : Nat, 36 ≤ k → k ≤ 47 → (0 : Int) ≤ (fa0_15 k).toInt ∧ (fa0_15 k).toInt ≤ 999))) : zm l yX8_routeWhy wsX8_routeWhy ({ frames := 2, cells := 0, slots := 0, locals := 43 }) [.ref a0, .int a1, .int a2] dC dI sz [(a0, .inr (8, [a0g_0, a0g_1, a0g_2, a0g_3, a0g_4, a0g_5, a0g_6, a0g_7, a0g_8, a0g_9, a0g_10, a0g_11, a0g_12, a0g_13, Value.int a0_14, Value.ref a0_15, a0g_16, a0g_17, a0g_18, a0g_19, a0g_20, a0g_21, a0g_22, a0g_23, a0g_24, a0g_25, a0g_26, a0g_27, a0g_28, a0g_29, a0g_30, a0g_31, a0g_32, a0g_33, a0g_34, a0g_35, a0g_36, a0g_37, a0g_38, a0g_39])), (a0_15, .inl (ka0_15, 156, .inl (fa0_15)))] [(ka0_15, .int)] (fun A _ => True) (fun A => va_Qi (fun (r : Int32) (_ : Unit) => (r = 2 ∧ (0 : Int) ≤ a1.toInt ∧ a1.toInt ≤ (8 : Int)) ∨ (r = 1) ∨ (r = 0 ∧ (0 : Int) ≤ a1.toInt ∧ a1.toInt ≤ (8 : Int) ∧ (1 : Int) ≤ a2.toInt ∧ a2.toInt ≤ (60 : Int))) (fun (_ : Unit) (t : State) => ax_B dC dI A [(a0, .inr (8, [a0g_0, a0g_1, a0g_2, a0g_3, a0g_4, a0g_5, a0g_6, a0g_7, a0g_8, a0g_9, a0g_10, a0g_11, a0g_12, a0g_13, Value.int a0_14, Value.ref a0_15, a0g_16, a0g_17, a0g_18, a0g_19, a0g_20, a0g_21, a0g_22, a0g_23, a0g_24, a0g_25, a0g_26, a0g_27, a0g_28, a0g_29, a0g_30, a0g_31, a0g_32, a0g_33, a0g_34, a0g_35, a0g_36, a0g_37, a0g_38, a0g_39])), (a0_15, .inl (ka0_15, 156, .inl (fa0_15)))] [(ka0_15, .int)] t) A) := by
  refine zh (cc := cX8_routeWhy) (maxL := 3) (ret := (some .int)) zn_RX8 rfl (Nat.le_of_ble_eq_true rfl) (fun p e s m below meth c A ls hx hb hml hr hts (hown : s.vm.findClass RX8 = some m.cls) hlocks hA hS hP hK hD hE (hl : lv_has ls 3 [(0, .ref a0), (1, .int a1), (2, .int a2)]) => ?_)
  refine lv_aload_n hx hb dX8_routeWhy_0 rfl (lv_at hl 0 rfl) ?_
  refine lv_aload_n hx hb dX8_routeWhy_1 rfl (lv_at hl 0 rfl) ?_
  refine lv_iload_n hx hb dX8_routeWhy_2 rfl (lv_at hl 1 rfl) ?_
  have hKc := hK.sub (tys' := [(ka0_15, .int)]) [0] rfl
  refine va_calli (va_runV (As := [.int a1]) (rest := [.ref a0]) ⟨hx, hb, hml, hown, hts⟩ (c_X8_isFigure l dC dI s.heap.size a0 a1 a0g_0 a0g_1 a0g_2 a0g_3 a0g_4 a0g_5 a0g_6 a0g_7 a0g_8 a0g_9 a0g_10 a0g_11 a0g_12 a0g_13 a0g_16 a0g_17 a0g_18 a0g_19 a0g_20 a0g_21 a0g_22 a0g_23 a0g_24 a0g_25 a0g_26 a0g_27 a0g_28 a0g_29 a0g_30 a0g_31 a0g_32 a0g_33 a0g_34 a0g_35 a0g_36 a0g_37 a0g_38 a0g_39 a0_14 a0_15 ka0_15 fa0_15 ba0_14_l ba0_14_u bfa0_15) (cwV 1 hts gX8_routeWhy_X8_isFigure rfl rfl rfl zd_X8_isFigure ⟨Nat.le_of_ble_eq_true rfl, Nat.le_of_ble_eq_true rfl⟩) ⟨ax_blind (fun _ _ _ _ _ => trivial), zr_8 hKc (zp_P2 hP) (q0 := 0) rfl, ax_pre (zp_P2 hP) hKc (zp_D2 hD) (fun _ _ => trivial)⟩ rfl rfl hl.1 rfl (lv_room (Nat.le_of_ble_eq_true rfl)) dX8_routeWhy_3 ⟨Nat.le_of_ble_eq_true rfl, Nat.le_of_ble_eq_true rfl⟩) hS (fun q _ h => zp_F2 hD hS hA q h) (zp_F2 hD hS hA) (fun r3 u t H locs ht hvm hw hB hz1 hk1 hS1 => zo2 hB ht hP hD hk1 (zp_F2 hD hS hA) hS1 (fun hP hK1 hD hS => ?_))
  rcases hw with hw | hw
  · obtain ⟨hw, h3_0, h3_1⟩ := hw
    subst hw
    have l3k0_a1 : (0 : Int) ≤ a1.toInt := h3_0
    have u3k0_a1 : a1.toInt ≤ (8 : Int) := h3_1
    refine lv_iload_n hx hb dX8_routeWhy_6 rfl (lv_at hl 2 rfl) ?_
    refine lv_iconst (v := 1) hx hb dX8_routeWhy_7 zk_iconst_1 ?_
    refine lv_bipush (v := 60) hx hb dX8_routeWhy_8 zk_bipush_60 ?_
    refine va_calli (va_runS (As := [.int a2, .int 1, .int 60]) (rest := [.int 1, .ref a0]) ⟨hx, hb, hml, hown, hts⟩ (c_X8_in l dC dI H.size a2 1 60 ) (va_cwS 3 hts gX8_routeWhy_X8_in rfl rfl rfl zd_X8_in.2 ⟨Nat.le_of_ble_eq_true rfl, Nat.le_of_ble_eq_true rfl⟩) ⟨ax_blind (fun _ _ _ _ _ => trivial), ax_pre (zp_P0 hP) (zp_K hK) (zp_D0 hD) (fun _ _ => trivial)⟩ rfl rfl hl.1 rfl (lv_room (Nat.le_of_ble_eq_true rfl)) dX8_routeWhy_10 ⟨Nat.le_of_ble_eq_true rfl, Nat.le_of_ble_eq_true rfl⟩) hS (fun q _ h => zp_F0 hD hS hA q h) (zp_F0 hD hS hA) (fun r10 u t H locs ht hvm hw hB hz1 hk1 hS1 => zo0 hB ht hP hD hk1 (zp_F0 hD hS hA) hS1 (fun hP hK1 hD hS => ?_))
    rcases hw with hw | hw
    · obtain ⟨hw, h10⟩ := hw
      subst hw
      have l10k0_a2 : (1 : Int) ≤ a2.toInt := Int.le_trans zq1 h10.1
      have u10k0_a2 : a2.toInt ≤ (60 : Int) := Int.le_trans h10.2 zq46
      refine va_calli (va_runV (As := [.int 1, .int 1]) (rest := []) ⟨hx, hb, hml, hown, hts⟩ (c_X8_whyB l dC dI H.size a0 1 1 a0g_0 a0g_1 a0g_2 a0g_3 a0g_4 a0g_5 a0g_6 a0g_7 a0g_8 a0g_9 a0g_10 a0g_11 a0g_12 a0g_13 (Value.int a0_14) (Value.ref a0_15) a0g_16 a0g_17 a0g_18 a0g_19 a0g_20 a0g_21 a0g_22 a0g_23 a0g_24 a0g_25 a0g_26 a0g_27 a0g_28 a0g_29 a0g_30 a0g_31 a0g_32 a0g_33 a0g_34 a0g_35 a0g_36 a0g_37 a0g_38 a0g_39 (Int.le_trans zq4 zq1) zq0 (Int.le_trans zq4 zq1) zq0) (cwV 2 hts gX8_routeWhy_X8_why rfl rfl rfl zd_X8_why ⟨Nat.le_of_ble_eq_true rfl, Nat.le_of_ble_eq_true rfl⟩) ⟨ax_blind (fun _ _ _ _ _ => trivial), zr_8 (zp_K hK) (zp_P1 hP) (q0 := 0) rfl, ax_pre (zp_P1 hP) (zp_K hK) (zp_D1 hD) (fun _ _ => trivial)⟩ rfl rfl hl.1 rfl (lv_room (Nat.le_of_ble_eq_true rfl)) dX8_routeWhy_13 ⟨Nat.le_of_ble_eq_true rfl, Nat.le_of_ble_eq_true rfl⟩) hS (fun q _ h => zp_F1 hD hS hA q h) (zp_F1 hD hS hA) (fun r13 u t H locs ht hvm hw hB hz1 hk1 hS1 => zo1 hB ht hP hD hk1 (zp_F1 hD hS hA) hS1 (fun hP hK1 hD hS => ?_))
      rcases hw with hw | hw | hw
      · obtain ⟨hw, h13_0, h13_1, h13_2, h13_3⟩ := hw
        subst hw
        exact absurd h13_3 (by decide)
      · obtain ⟨hw, h13_0, h13_1⟩ := hw
        subst hw
        exact absurd h13_1 (by decide)
      · obtain ⟨hw, h13_0, h13_1, h13_2, h13_3⟩ := hw
        subst hw
        exact W.iret (v := 0) hx hb hr (fun t ht hW => ⟨⟨0, (), rfl, (Or.inr (Or.inr (⟨rfl, l3k0_a1, u3k0_a1, l10k0_a2, u10k0_a2⟩))), by rw [ht]; exact hP, va_K.moved hW.alike hK, hD⟩, hS.F ht⟩) hS.2.2 dX8_routeWhy_16
    · obtain ⟨hw, h10⟩ := hw
      subst hw
      refine va_calli (va_runV (As := [.int 1, .int 0]) (rest := []) ⟨hx, hb, hml, hown, hts⟩ (c_X8_whyB l dC dI H.size a0 1 0 a0g_0 a0g_1 a0g_2 a0g_3 a0g_4 a0g_5 a0g_6 a0g_7 a0g_8 a0g_9 a0g_10 a0g_11 a0g_12 a0g_13 (Value.int a0_14) (Value.ref a0_15) a0g_16 a0g_17 a0g_18 a0g_19 a0g_20 a0g_21 a0g_22 a0g_23 a0g_24 a0g_25 a0g_26 a0g_27 a0g_28 a0g_29 a0g_30 a0g_31 a0g_32 a0g_33 a0g_34 a0g_35 a0g_36 a0g_37 a0g_38 a0g_39 (Int.le_trans zq4 zq1) zq0 zq5 (Int.le_trans zq6 zq4)) (cwV 2 hts gX8_routeWhy_X8_why rfl rfl rfl zd_X8_why ⟨Nat.le_of_ble_eq_true rfl, Nat.le_of_ble_eq_true rfl⟩) ⟨ax_blind (fun _ _ _ _ _ => trivial), zr_8 (zp_K hK) (zp_P1 hP) (q0 := 0) rfl, ax_pre (zp_P1 hP) (zp_K hK) (zp_D1 hD) (fun _ _ => trivial)⟩ rfl rfl hl.1 rfl (lv_room (Nat.le_of_ble_eq_true rfl)) dX8_routeWhy_13 ⟨Nat.le_of_ble_eq_true rfl, Nat.le_of_ble_eq_true rfl⟩) hS (fun q _ h => zp_F1 hD hS hA q h) (zp_F1 hD hS hA) (fun r13 u t H locs ht hvm hw hB hz1 hk1 hS1 => zo1 hB ht hP hD hk1 (zp_F1 hD hS hA) hS1 (fun hP hK1 hD hS => ?_))
      rcases hw with hw | hw | hw
      · obtain ⟨hw, h13_0, h13_1, h13_2, h13_3⟩ := hw
        subst hw
        exact W.iret (v := 2) hx hb hr (fun t ht hW => ⟨⟨2, (), rfl, (Or.inl ⟨rfl, l3k0_a1, u3k0_a1⟩), by rw [ht]; exact hP, va_K.moved hW.alike hK, hD⟩, hS.F ht⟩) hS.2.2 dX8_routeWhy_16
      · obtain ⟨hw, h13_0, h13_1⟩ := hw
        subst hw
        exact absurd h13_1 (by decide)
      · obtain ⟨hw, h13_0, h13_1, h13_2, h13_3⟩ := hw
        subst hw
        exact absurd h13_2 (by decide)
  · subst hw
    refine lv_iload_n hx hb dX8_routeWhy_6 rfl (lv_at hl 2 rfl) ?_
    refine lv_iconst (v := 1) hx hb dX8_routeWhy_7 zk_iconst_1 ?_
    refine lv_bipush (v := 60) hx hb dX8_routeWhy_8 zk_bipush_60 ?_
    refine va_calli (va_runS (As := [.int a2, .int 1, .int 60]) (rest := [.int 0, .ref a0]) ⟨hx, hb, hml, hown, hts⟩ (c_X8_in l dC dI H.size a2 1 60 ) (va_cwS 3 hts gX8_routeWhy_X8_in rfl rfl rfl zd_X8_in.2 ⟨Nat.le_of_ble_eq_true rfl, Nat.le_of_ble_eq_true rfl⟩) ⟨ax_blind (fun _ _ _ _ _ => trivial), ax_pre (zp_P0 hP) (zp_K hK) (zp_D0 hD) (fun _ _ => trivial)⟩ rfl rfl hl.1 rfl (lv_room (Nat.le_of_ble_eq_true rfl)) dX8_routeWhy_10 ⟨Nat.le_of_ble_eq_true rfl, Nat.le_of_ble_eq_true rfl⟩) hS (fun q _ h => zp_F0 hD hS hA q h) (zp_F0 hD hS hA) (fun r10 u t H locs ht hvm hw hB hz1 hk1 hS1 => zo0 hB ht hP hD hk1 (zp_F0 hD hS hA) hS1 (fun hP hK1 hD hS => ?_))
    rcases hw with hw | hw
    · obtain ⟨hw, h10⟩ := hw
      subst hw
      have l10k0_a2 : (1 : Int) ≤ a2.toInt := Int.le_trans zq1 h10.1
      have u10k0_a2 : a2.toInt ≤ (60 : Int) := Int.le_trans h10.2 zq46
      refine va_calli (va_runV (As := [.int 0, .int 1]) (rest := []) ⟨hx, hb, hml, hown, hts⟩ (c_X8_whyB l dC dI H.size a0 0 1 a0g_0 a0g_1 a0g_2 a0g_3 a0g_4 a0g_5 a0g_6 a0g_7 a0g_8 a0g_9 a0g_10 a0g_11 a0g_12 a0g_13 (Value.int a0_14) (Value.ref a0_15) a0g_16 a0g_17 a0g_18 a0g_19 a0g_20 a0g_21 a0g_22 a0g_23 a0g_24 a0g_25 a0g_26 a0g_27 a0g_28 a0g_29 a0g_30 a0g_31 a0g_32 a0g_33 a0g_34 a0g_35 a0g_36 a0g_37 a0g_38 a0g_39 zq5 (Int.le_trans zq6 zq4) (Int.le_trans zq4 zq1) zq0) (cwV 2 hts gX8_routeWhy_X8_why rfl rfl rfl zd_X8_why ⟨Nat.le_of_ble_eq_true rfl, Nat.le_of_ble_eq_true rfl⟩) ⟨ax_blind (fun _ _ _ _ _ => trivial), zr_8 (zp_K hK) (zp_P1 hP) (q0 := 0) rfl, ax_pre (zp_P1 hP) (zp_K hK) (zp_D1 hD) (fun _ _ => trivial)⟩ rfl rfl hl.1 rfl (lv_room (Nat.le_of_ble_eq_true rfl)) dX8_routeWhy_13 ⟨Nat.le_of_ble_eq_true rfl, Nat.le_of_ble_eq_true rfl⟩) hS (fun q _ h => zp_F1 hD hS hA q h) (zp_F1 hD hS hA) (fun r13 u t H locs ht hvm hw hB hz1 hk1 hS1 => zo1 hB ht hP hD hk1 (zp_F1 hD hS hA) hS1 (fun hP hK1 hD hS => ?_))
      rcases hw with hw | hw | hw
      · obtain ⟨hw, h13_0, h13_1, h13_2, h13_3⟩ := hw
        subst hw
        exact absurd h13_0 (by decide)
      · obtain ⟨hw, h13_0, h13_1⟩ := hw
        subst hw
        exact W.iret (v := 1) hx hb hr (fun t ht hW => ⟨⟨1, (), rfl, (Or.inr (Or.inl (rfl))), by rw [ht]; exact hP, va_K.moved hW.alike hK, hD⟩, hS.F ht⟩) hS.2.2 dX8_routeWhy_16
      · obtain ⟨hw, h13_0, h13_1, h13_2, h13_3⟩ := hw
        subst hw
        exact absurd h13_0 (by decide)
    · obtain ⟨hw, h10⟩ := hw
      subst hw
      refine va_calli (va_runV (As := [.int 0, .int 0]) (rest := []) ⟨hx, hb, hml, hown, hts⟩ (c_X8_whyB l dC dI H.size a0 0 0 a0g_0 a0g_1 a0g_2 a0g_3 a0g_4 a0g_5 a0g_6 a0g_7 a0g_8 a0g_9 a0g_10 a0g_11 a0g_12 a0g_13 (Value.int a0_14) (Value.ref a0_15) a0g_16 a0g_17 a0g_18 a0g_19 a0g_20 a0g_21 a0g_22 a0g_23 a0g_24 a0g_25 a0g_26 a0g_27 a0g_28 a0g_29 a0g_30 a0g_31 a0g_32 a0g_33 a0g_34 a0g_35 a0g_36 a0g_37 a0g_38 a0g_39 zq5 (Int.le_trans zq6 zq4) zq5 (Int.le_trans zq6 zq4)) (cwV 2 hts gX8_routeWhy_X8_why rfl rfl rfl zd_X8_why ⟨Nat.le_of_ble_eq_true rfl, Nat.le_of_ble_eq_true rfl⟩) ⟨ax_blind (fun _ _ _ _ _ => trivial), zr_8 (zp_K hK) (zp_P1 hP) (q0 := 0) rfl, ax_pre (zp_P1 hP) (zp_K hK) (zp_D1 hD) (fun _ _ => trivial)⟩ rfl rfl hl.1 rfl (lv_room (Nat.le_of_ble_eq_true rfl)) dX8_routeWhy_13 ⟨Nat.le_of_ble_eq_true rfl, Nat.le_of_ble_eq_true rfl⟩) hS (fun q _ h => zp_F1 hD hS hA q h) (zp_F1 hD hS hA) (fun r13 u t H locs ht hvm hw hB hz1 hk1 hS1 => zo1 hB ht hP hD hk1 (zp_F1 hD hS hA) hS1 (fun hP hK1 hD hS => ?_))
      rcases hw with hw | hw | hw
      · obtain ⟨hw, h13_0, h13_1, h13_2, h13_3⟩ := hw
        subst hw
        exact absurd h13_0 (by decide)
      · obtain ⟨hw, h13_0, h13_1⟩ := hw
        subst hw
        exact W.iret (v := 1) hx hb hr (fun t ht hW => ⟨⟨1, (), rfl, (Or.inr (Or.inl (rfl))), by rw [ht]; exact hP, va_K.moved hW.alike hK, hD⟩, hS.F ht⟩) hS.2.2 dX8_routeWhy_16
      · obtain ⟨hw, h13_0, h13_1, h13_2, h13_3⟩ := hw
        subst hw
        exact absurd h13_0 (by decide)
end P236_00_safe
section P240_00_safe
set_option maxHeartbeats 4000000 in
set_option maxRecDepth 100000 in
theorem c_X8_figure (l : Launch) (dC : Nat → ClassId) (dI : Nat → Nat → Nat) (sz : Nat) (a0 : Nat) (a1 : Int32) (a2 : Int32) (a0_0 : Int32) (a0g_1 a0g_2 a0g_3 a0g_4 a0g_5 a0g_6 a0g_7 a0g_8 a0g_9 a0g_10 a0g_12 a0g_13 a0g_16 a0g_18 a0g_19 a0g_20 a0g_21 a0g_22 a0g_23 a0g_24 a0g_25 a0g_26 a0g_27 a0g_28 a0g_29 a0g_30 a0g_31 a0g_32 a0g_33 a0g_34 a0g_35 a0g_36 a0g_37 a0g_38 a0g_39 : Value) (a0_11 : Int32) (a0_14 : Int32) (a0_15 : Nat) (a0_17 : Nat) (ka0_15 : ClassId) (fa0_15 : Nat → Int32) (ka0_17 : ClassId) (fa0_17 : Nat → Int32) (ba0_14_l : (1 : Int) ≤ a0_14.toInt) (ba0_14_u : a0_14.toInt ≤ (1 : Int)) (bfa0_15 : ((∀ k : Nat, 0 ≤ k → k ≤ 0 → (2 : Int) ≤ (fa0_15 k).toInt ∧ (fa0_15 k).toInt ≤ 9) ∧ (∀ k : Nat, 1 ≤ k → k ≤ 1 → (1 : Int) ≤ (fa0_15 k).toInt ∧ (fa0_15 k).toInt ≤ 20) ∧ (∀ k : Nat, 2 ≤ k → k ≤ 2 → (0 : Int) ≤ (fa0_15 k).toInt ∧ (fa0_15 k).toInt ≤ 8) ∧ (∀ k : Nat, 3 ≤ k → k ≤ 3 → (0 : Int) ≤ (fa0_15 k).toInt ∧ (fa0_15 k).toInt ≤ 100) ∧ (∀ k : Nat, 4 ≤ k → k ≤ 4 → (0 : Int) ≤ (fa0_15 k).toInt ∧ (fa0_15 k).toInt ≤ 9) ∧ (∀ k : Nat, 5 ≤ k → k ≤ 5 → (0 : Int) ≤ (fa0_15 k).toInt ∧ (fa0_15 k).toInt ≤ 3) ∧ (∀ k : Nat, 6 ≤ k → k ≤ 6 → (0 : Int) ≤ (fa0_15 k).toInt ∧ (fa0_15 k).toInt ≤ 6) ∧ (∀ k : Nat, 7 ≤ k → k ≤ 9 → (0 : Int) ≤ (fa0_15 k).toInt ∧ (fa0_15 k).toInt ≤ 8) ∧ (∀ k : Nat, 12 ≤ k → k ≤ 29 → (0 : Int) ≤ (fa0_15 k).toInt ∧ (fa0_15 k).toInt ≤ 20) ∧ (∀ k : Nat, 30 ≤ k → k ≤ 35 → (0 : Int) ≤ (fa0_15 k).toInt ∧ (fa0_15 k).toInt ≤ 8) ∧ (∀ k : Nat, 36 ≤ k → k ≤ 47 → (0 : Int) ≤ (fa0_15 k).toInt ∧ (fa0_15 k).toInt ≤ 999))) (bfa0_17 : ((∀ k : Nat, 0 ≤ k → k ≤ 8 → (0 : Int) ≤ (fa0_17 k).toInt ∧ (fa0_17 k).toInt ≤ 8) ∧ (∀ k : Nat, 19 ≤ k → k ≤ 19 → (0 : Int) ≤ (fa0_17 k).toInt ∧ (fa0_17 k).toInt ≤ 8) ∧ (∀ k : Nat, 20 ≤ k → k ≤ 20 → (0 : Int) ≤ (fa0_17 k).toInt ∧ (fa0_17 k).toInt ≤ 19))) : zm l yX8_figure wsX8_figure ({ frames := 2, cells := 0, slots := 0, locals := 43 }) [.ref a0, .int a1, .int a2] dC dI sz [(a0, .inr (8, [Value.int a0_0, a0g_1, a0g_2, a0g_3, a0g_4, a0g_5, a0g_6, a0g_7, a0g_8, a0g_9, a0g_10, Value.int a0_11, a0g_12, a0g_13, Value.int a0_14, Value.ref a0_15, a0g_16, Value.ref a0_17, a0g_18, a0g_19, a0g_20, a0g_21, a0g_22, a0g_23, a0g_24, a0g_25, a0g_26, a0g_27, a0g_28, a0g_29, a0g_30, a0g_31, a0g_32, a0g_33, a0g_34, a0g_35, a0g_36, a0g_37, a0g_38, a0g_39])), (a0_15, .inl (ka0_15, 156, .inl (fa0_15))), (a0_17, .inl (ka0_17, 23, .inl (fa0_17)))] [(ka0_15, .int), (ka0_17, .int)] (fun A _ => True) (fun A => va_Qi (fun (r : Int32) (_ : Unit) => True) (fun (_ : Unit) (t : State) => ∃ na0_0 : Int32, ∃ na0_11 : Int32, ax_B dC dI A [(a0, .inr (8, [Value.int na0_0, a0g_1, a0g_2, a0g_3, a0g_4, a0g_5, a0g_6, a0g_7, a0g_8, a0g_9, a0g_10, Value.int na0_11, a0g_12, a0g_13, Value.int a0_14, Value.ref a0_15, a0g_16, Value.ref a0_17, a0g_18, a0g_19, a0g_20, a0g_21, a0g_22, a0g_23, a0g_24, a0g_25, a0g_26, a0g_27, a0g_28, a0g_29, a0g_30, a0g_31, a0g_32, a0g_33, a0g_34, a0g_35, a0g_36, a0g_37, a0g_38, a0g_39])), (a0_15, .inl (ka0_15, 156, .inl (fa0_15))), (a0_17, .inl (ka0_17, 23, .inl (fa0_17)))] [(ka0_15, .int), (ka0_17, .int)] t) A) := by
  refine zh (cc := cX8_figure) (maxL := 3) (ret := (some .int)) zn_RX8 rfl (Nat.le_of_ble_eq_true rfl) (fun p e s m below meth c A ls hx hb hml hr hts (hown : s.vm.findClass RX8 = some m.cls) hlocks hA hS hP hK hD hE (hl : lv_has ls 3 [(0, .ref a0), (1, .int a1), (2, .int a2)]) => ?_)
  refine lv_aload_n hx hb dX8_figure_0 rfl (lv_at hl 0 rfl) ?_
  refine va_callv (va_runV (As := []) (rest := []) ⟨hx, hb, hml, hown, hts⟩ (c_X8_good l dC dI s.heap.size a0 a0_0 a0g_1 a0g_2 a0g_3 a0g_4 a0g_5 a0g_6 a0g_7 a0g_8 a0g_9 a0g_10 a0g_12 a0g_13 (Value.int a0_14) (Value.ref a0_15) a0g_16 (Value.ref a0_17) a0g_18 a0g_19 a0g_20 a0g_21 a0g_22 a0g_23 a0g_24 a0g_25 a0g_26 a0g_27 a0g_28 a0g_29 a0g_30 a0g_31 a0g_32 a0g_33 a0g_34 a0g_35 a0g_36 a0g_37 a0g_38 a0g_39 a0_11 ) (cwV 0 hts gX8_figure_X8_good rfl rfl rfl zd_X8_good ⟨Nat.le_of_ble_eq_true rfl, Nat.le_of_ble_eq_true rfl⟩) ⟨ax_blind (fun _ _ _ _ _ => trivial), zr_8 (zp_K hK) (zp_P1 hP) (q0 := 0) rfl, ax_pre (zp_P1 hP) (zp_K hK) (zp_D1 hD) (fun _ _ => trivial)⟩ rfl rfl hl.1 rfl (lv_room (Nat.le_of_ble_eq_true rfl)) dX8_figure_1 ⟨Nat.le_of_ble_eq_true rfl, Nat.le_of_ble_eq_true rfl⟩) hS (fun q _ h => zp_F1 hD hS hA q h) (zp_F1 hD hS hA) (fun u t H locs ht hvm hw => zx_2 (fun v1na0_0 v1na0_11 hB hz1 hk1 hS1 => zo1 hB ht hP hD hk1 (zp_F1 hD hS hA) hS1 (fun hP hK1 hD hS => ?_)))
  refine lv_aload_n hx hb dX8_figure_4 rfl (lv_at hl 0 rfl) ?_
  refine lv_iload_n hx hb dX8_figure_5 rfl (lv_at hl 1 rfl) ?_
  have hKc := hK.sub (tys' := [(ka0_15, .int)]) [0] rfl
  refine va_calli (va_runV (As := [.int a1]) (rest := []) ⟨hx, hb, hml, hown, hts⟩ (c_X8_isFigure l dC dI H.size a0 a1 (Value.int v1na0_0) a0g_1 a0g_2 a0g_3 a0g_4 a0g_5 a0g_6 a0g_7 a0g_8 a0g_9 a0g_10 (Value.int v1na0_11) a0g_12 a0g_13 a0g_16 (Value.ref a0_17) a0g_18 a0g_19 a0g_20 a0g_21 a0g_22 a0g_23 a0g_24 a0g_25 a0g_26 a0g_27 a0g_28 a0g_29 a0g_30 a0g_31 a0g_32 a0g_33 a0g_34 a0g_35 a0g_36 a0g_37 a0g_38 a0g_39 a0_14 a0_15 ka0_15 fa0_15 ba0_14_l ba0_14_u bfa0_15) (cwV 1 hts gX8_figure_X8_isFigure rfl rfl rfl zd_X8_isFigure ⟨Nat.le_of_ble_eq_true rfl, Nat.le_of_ble_eq_true rfl⟩) ⟨ax_blind (fun _ _ _ _ _ => trivial), zr_8 hKc (zp_P2 hP) (q0 := 0) rfl, ax_pre (zp_P2 hP) hKc (zp_D2 hD) (fun _ _ => trivial)⟩ rfl rfl hl.1 rfl (lv_room (Nat.le_of_ble_eq_true rfl)) dX8_figure_6 ⟨Nat.le_of_ble_eq_true rfl, Nat.le_of_ble_eq_true rfl⟩) hS (fun q _ h => zp_F2 hD hS hA q h) (zp_F2 hD hS hA) (fun r6 u t H locs ht hvm hw hB hz1 hk1 hS1 => zo2 hB ht hP hD hk1 (zp_F2 hD hS hA) hS1 (fun hP hK1 hD hS => ?_))
  rcases hw with hw | hw
  · obtain ⟨hw, h6_0, h6_1⟩ := hw
    subst hw
    have l6k0_a1 : (0 : Int) ≤ a1.toInt := h6_0
    have u6k0_a1 : a1.toInt ≤ (8 : Int) := h6_1
    refine lv_if_eq (tgt := 21) hx hb dX8_figure_9 (by decide) (fun c9 => absurd c9 (by decide +kernel)) (fun _ => ?_)
    refine lv_iload_n hx hb dX8_figure_12 rfl (lv_at hl 2 rfl) ?_
    refine lv_iconst (v := 0) hx hb dX8_figure_13 zk_iconst_0 ?_
    refine lv_iconst (v := 4) hx hb dX8_figure_14 zk_iconst_4 ?_
    refine va_calli (va_runS (As := [.int a2, .int 0, .int 4]) (rest := []) ⟨hx, hb, hml, hown, hts⟩ (c_X8_in l dC dI H.size a2 0 4 ) (va_cwS 3 hts gX8_figure_X8_in rfl rfl rfl zd_X8_in.2 ⟨Nat.le_of_ble_eq_true rfl, Nat.le_of_ble_eq_true rfl⟩) ⟨ax_blind (fun _ _ _ _ _ => trivial), ax_pre (zp_P0 hP) (zp_K hK) (zp_D0 hD) (fun _ _ => trivial)⟩ rfl rfl hl.1 rfl (lv_room (Nat.le_of_ble_eq_true rfl)) dX8_figure_15 ⟨Nat.le_of_ble_eq_true rfl, Nat.le_of_ble_eq_true rfl⟩) hS (fun q _ h => zp_F0 hD hS hA q h) (zp_F0 hD hS hA) (fun r15 u t H locs ht hvm hw hB hz1 hk1 hS1 => zo0 hB ht hP hD hk1 (zp_F0 hD hS hA) hS1 (fun hP hK1 hD hS => ?_))
    rcases hw with hw | hw
    · obtain ⟨hw, h15⟩ := hw
      subst hw
      have l15k0_a2 : (0 : Int) ≤ a2.toInt := Int.le_trans zq5 h15.1
      have u15k0_a2 : a2.toInt ≤ (4 : Int) := Int.le_trans h15.2 zq67
      refine lv_if_ne (tgt := 27) hx hb dX8_figure_18 (by decide) (fun _ => ?_) (fun c18 => absurd c18 (by decide +kernel))
      refine lv_iload_n hx hb dX8_figure_27 rfl (lv_at hl 2 rfl) ?_
      by_cases n_1 : a2 = 0
      · subst n_1
        refine lv_tableIn (off := 32) (tgt := 60) hx hb dX8_figure_28 (by decide) (by decide) (by decide +kernel) (by decide) ?_
        refine lv_aload_n hx hb dX8_figure_60 rfl (lv_at hl 0 rfl) ?_
        refine va_get (D := (dC, dI)) (ci := 8) (v := .ref a0_15) (C := RX8) (T := TX8) (N := 40) hx hb hts zi_X8_figure_8 hown hK hP 0 rfl rfl 15 (by decide) (hts (.fieldLink RX8 20 "WaxTurnsModel" "\x72" "[I") (List.mem_cons_of_mem _ (List.mem_append_left _ (List.mem_of_getElem? (i := 0) rfl)))) (fun _ h9 => h9) rfl dX8_figure_61 ?_
        refine lv_bipush (v := 12) hx hb dX8_figure_64 zk_bipush_12 ?_
        refine lv_iconst (v := 2) hx hb dX8_figure_66 zk_iconst_2 ?_
        refine lv_iload_n hx hb dX8_figure_67 rfl (lv_at hl 1 rfl) ?_
        refine lv_imul hx hb dX8_figure_68 ?_
        refine lv_topi (fun x68 ex68 => ?_)
        have qx68 : x68.toInt = (2 : Int32).toInt * a1.toInt ∧ (0 : Int) ≤ x68.toInt ∧ x68.toInt ≤ 16 := ai_mul ex68 ⟨zq12, zq13⟩ ⟨l6k0_a1, u6k0_a1⟩ (by decide) (by decide) zq155
        have wx68 : x68.toInt = 2 * a1.toInt := qx68.1
        refine lv_iadd hx hb dX8_figure_69 ?_
        refine lv_topi (fun x69 ex69 => ?_)
        have qx69 : x69.toInt = (12 : Int32).toInt + x68.toInt := ai_add ex69 ⟨zq119, zq120⟩ ⟨qx68.2.1, qx68.2.2⟩ (by decide) (by decide)
        have bx69 : (12 : Int) ≤ x69.toInt ∧ x69.toInt ≤ 28 := ⟨by rw [qx69]; exact Int.add_le_add zq119 qx68.2.1, by rw [qx69]; exact Int.add_le_add zq120 qx68.2.2⟩
        have wx69 : x69.toInt = 12 + x68.toInt := qx69
        refine lv_iload_n hx hb dX8_figure_70 rfl (lv_at hl 2 rfl) ?_
        refine lv_iadd hx hb dX8_figure_71 ?_
        refine lv_topi (fun x71 ex71 => ?_)
        have qx71 : x71.toInt = x69.toInt + (0 : Int32).toInt := ai_add ex71 ⟨bx69.1, bx69.2⟩ ⟨zq5, zq6⟩ (by decide) (by decide)
        have bx71 : (12 : Int) ≤ x71.toInt ∧ x71.toInt ≤ 28 := ⟨by rw [qx71]; exact Int.add_le_add bx69.1 zq5, by rw [qx71]; exact Int.add_le_add bx69.2 zq6⟩
        have wx71 : x71.toInt = x69.toInt + 0 := qx71
        refine va_iald hx hb hK hP 1 0 rfl rfl (ai_in bx71.1 bx71.2 (by decide) (by decide)) dX8_figure_72 ?_
        refine lv_topi (fun x72 ex72 => ?_)
        have bx72 : (0 : Int) ≤ x72.toInt ∧ x72.toInt ≤ 20 := by rw [ex72]; exact ai_rd bfa0_15.2.2.2.2.2.2.2.2.1 bx71.1 bx71.2 (by decide) (by decide) (by decide)
        exact W.iret (v := x72) hx hb hr (fun t ht hW => ⟨⟨x72, (), rfl, trivial, v1na0_0, v1na0_11, by rw [ht]; exact hP, va_K.moved hW.alike hK, hD⟩, hS.F ht⟩) hS.2.2 dX8_figure_73
      by_cases n_2 : a2 = 1
      · subst n_2
        refine lv_tableIn (off := 32) (tgt := 60) hx hb dX8_figure_28 (by decide) (by decide) (by decide +kernel) (by decide) ?_
        refine lv_aload_n hx hb dX8_figure_60 rfl (lv_at hl 0 rfl) ?_
        refine va_get (D := (dC, dI)) (ci := 8) (v := .ref a0_15) (C := RX8) (T := TX8) (N := 40) hx hb hts zi_X8_figure_8 hown hK hP 0 rfl rfl 15 (by decide) (hts (.fieldLink RX8 20 "WaxTurnsModel" "\x72" "[I") (List.mem_cons_of_mem _ (List.mem_append_left _ (List.mem_of_getElem? (i := 0) rfl)))) (fun _ h9 => h9) rfl dX8_figure_61 ?_
        refine lv_bipush (v := 12) hx hb dX8_figure_64 zk_bipush_12 ?_
        refine lv_iconst (v := 2) hx hb dX8_figure_66 zk_iconst_2 ?_
        refine lv_iload_n hx hb dX8_figure_67 rfl (lv_at hl 1 rfl) ?_
        refine lv_imul hx hb dX8_figure_68 ?_
        refine lv_topi (fun x68 ex68 => ?_)
        have qx68 : x68.toInt = (2 : Int32).toInt * a1.toInt ∧ (0 : Int) ≤ x68.toInt ∧ x68.toInt ≤ 16 := ai_mul ex68 ⟨zq12, zq13⟩ ⟨l6k0_a1, u6k0_a1⟩ (by decide) (by decide) zq155
        have wx68 : x68.toInt = 2 * a1.toInt := qx68.1
        refine lv_iadd hx hb dX8_figure_69 ?_
        refine lv_topi (fun x69 ex69 => ?_)
        have qx69 : x69.toInt = (12 : Int32).toInt + x68.toInt := ai_add ex69 ⟨zq119, zq120⟩ ⟨qx68.2.1, qx68.2.2⟩ (by decide) (by decide)
        have bx69 : (12 : Int) ≤ x69.toInt ∧ x69.toInt ≤ 28 := ⟨by rw [qx69]; exact Int.add_le_add zq119 qx68.2.1, by rw [qx69]; exact Int.add_le_add zq120 qx68.2.2⟩
        have wx69 : x69.toInt = 12 + x68.toInt := qx69
        refine lv_iload_n hx hb dX8_figure_70 rfl (lv_at hl 2 rfl) ?_
        refine lv_iadd hx hb dX8_figure_71 ?_
        refine lv_topi (fun x71 ex71 => ?_)
        have qx71 : x71.toInt = x69.toInt + (1 : Int32).toInt := ai_add ex71 ⟨bx69.1, bx69.2⟩ ⟨zq1, zq0⟩ (by decide) (by decide)
        have bx71 : (13 : Int) ≤ x71.toInt ∧ x71.toInt ≤ 29 := ⟨by rw [qx71]; exact Int.add_le_add bx69.1 zq1, by rw [qx71]; exact Int.add_le_add bx69.2 zq0⟩
        have wx71 : x71.toInt = x69.toInt + 1 := qx71
        refine va_iald hx hb hK hP 1 0 rfl rfl (ai_in bx71.1 bx71.2 (by decide) (by decide)) dX8_figure_72 ?_
        refine lv_topi (fun x72 ex72 => ?_)
        have bx72 : (0 : Int) ≤ x72.toInt ∧ x72.toInt ≤ 20 := by rw [ex72]; exact ai_rd bfa0_15.2.2.2.2.2.2.2.2.1 bx71.1 bx71.2 (by decide) (by decide) (by decide)
        exact W.iret (v := x72) hx hb hr (fun t ht hW => ⟨⟨x72, (), rfl, trivial, v1na0_0, v1na0_11, by rw [ht]; exact hP, va_K.moved hW.alike hK, hD⟩, hS.F ht⟩) hS.2.2 dX8_figure_73
      by_cases n_3 : a2 = 2
      · subst n_3
        refine lv_tableIn (off := 46) (tgt := 74) hx hb dX8_figure_28 (by decide) (by decide) (by decide +kernel) (by decide) ?_
        refine lv_aload_n hx hb dX8_figure_74 rfl (lv_at hl 0 rfl) ?_
        refine va_get (D := (dC, dI)) (ci := 8) (v := .ref a0_17) (C := RX8) (T := TX8) (N := 40) hx hb hts zi_X8_figure_8 hown hK hP 0 rfl rfl 17 (by decide) (hts (.fieldLink RX8 26 "WaxTurnsModel" "st" "[I") (List.mem_cons_of_mem _ (List.mem_append_left _ (List.mem_of_getElem? (i := 1) rfl)))) (fun _ h9 => h9) rfl dX8_figure_75 ?_
        refine lv_iload_n hx hb dX8_figure_78 rfl (lv_at hl 1 rfl) ?_
        refine va_iald hx hb hK hP 2 1 rfl rfl (ai_in l6k0_a1 u6k0_a1 (by decide) (by decide)) dX8_figure_79 ?_
        refine lv_topi (fun x79 ex79 => ?_)
        have bx79 : (0 : Int) ≤ x79.toInt ∧ x79.toInt ≤ 8 := by rw [ex79]; exact ai_rd bfa0_17.1 l6k0_a1 u6k0_a1 (by decide) (by decide) (by decide)
        exact W.iret (v := x79) hx hb hr (fun t ht hW => ⟨⟨x79, (), rfl, trivial, v1na0_0, v1na0_11, by rw [ht]; exact hP, va_K.moved hW.alike hK, hD⟩, hS.F ht⟩) hS.2.2 dX8_figure_80
      by_cases n_4 : a2 = 3
      · subst n_4
        refine lv_tableIn (off := 53) (tgt := 81) hx hb dX8_figure_28 (by decide) (by decide) (by decide +kernel) (by decide) ?_
        refine lv_aload_n hx hb dX8_figure_81 rfl (lv_at hl 0 rfl) ?_
        refine va_get (D := (dC, dI)) (ci := 8) (v := .ref a0_17) (C := RX8) (T := TX8) (N := 40) hx hb hts zi_X8_figure_8 hown hK hP 0 rfl rfl 17 (by decide) (hts (.fieldLink RX8 26 "WaxTurnsModel" "st" "[I") (List.mem_cons_of_mem _ (List.mem_append_left _ (List.mem_of_getElem? (i := 1) rfl)))) (fun _ h9 => h9) rfl dX8_figure_82 ?_
        refine lv_bipush (v := 18) hx hb dX8_figure_85 zk_bipush_18 ?_
        refine va_iald hx hb hK hP 2 1 rfl rfl (by unfold vp_in; decide +kernel) dX8_figure_87 ?_
        refine lv_topi (fun x87 ex87 => ?_)
        refine lv_iload_n hx hb dX8_figure_88 rfl (lv_at hl 1 rfl) ?_
        refine lv_ishr hx hb dX8_figure_89 ?_
        refine lv_topi (fun x89 ex89 => ?_)
        refine lv_iconst (v := 1) hx hb dX8_figure_90 zk_iconst_1 ?_
        refine lv_iand hx hb dX8_figure_91 ?_
        refine lv_topi (fun x91 ex91 => ?_)
        exact W.iret (v := x91) hx hb hr (fun t ht hW => ⟨⟨x91, (), rfl, trivial, v1na0_0, v1na0_11, by rw [ht]; exact hP, va_K.moved hW.alike hK, hD⟩, hS.F ht⟩) hS.2.2 dX8_figure_92
      have o_5 : a2.toInt < 0 ∨ 3 < a2.toInt := by
        have en_1 : a2.toInt ≠ 0 := fun h9 => n_1 (Int32.toInt_inj.mp (h9.trans (by decide)))
        have en_2 : a2.toInt ≠ 1 := fun h9 => n_2 (Int32.toInt_inj.mp (h9.trans (by decide)))
        have en_3 : a2.toInt ≠ 2 := fun h9 => n_3 (Int32.toInt_inj.mp (h9.trans (by decide)))
        have en_4 : a2.toInt ≠ 3 := fun h9 => n_4 (Int32.toInt_inj.mp (h9.trans (by decide)))
        omega
      refine lv_tableOut (tgt := 93) hx hb dX8_figure_28 o_5 (by decide) ?_
      refine lv_aload_n hx hb dX8_figure_93 rfl (lv_at hl 0 rfl) ?_
      refine va_get (D := (dC, dI)) (ci := 8) (v := .ref a0_17) (C := RX8) (T := TX8) (N := 40) hx hb hts zi_X8_figure_8 hown hK hP 0 rfl rfl 17 (by decide) (hts (.fieldLink RX8 26 "WaxTurnsModel" "st" "[I") (List.mem_cons_of_mem _ (List.mem_append_left _ (List.mem_of_getElem? (i := 1) rfl)))) (fun _ h9 => h9) rfl dX8_figure_94 ?_
      refine lv_bipush (v := 9) hx hb dX8_figure_97 zk_bipush_9 ?_
      refine lv_iload_n hx hb dX8_figure_99 rfl (lv_at hl 1 rfl) ?_
      refine lv_iadd hx hb dX8_figure_100 ?_
      refine lv_topi (fun x100 ex100 => ?_)
      have qx100 : x100.toInt = (9 : Int32).toInt + a1.toInt := ai_add ex100 ⟨zq2, zq3⟩ ⟨l6k0_a1, u6k0_a1⟩ (by decide) (by decide)
      have bx100 : (9 : Int) ≤ x100.toInt ∧ x100.toInt ≤ 17 := ⟨by rw [qx100]; exact Int.add_le_add zq2 l6k0_a1, by rw [qx100]; exact Int.add_le_add zq3 u6k0_a1⟩
      have wx100 : x100.toInt = 9 + a1.toInt := qx100
      refine va_iald hx hb hK hP 2 1 rfl rfl (ai_in bx100.1 bx100.2 (by decide) (by decide)) dX8_figure_101 ?_
      refine lv_topi (fun x101 ex101 => ?_)
      exact W.iret (v := x101) hx hb hr (fun t ht hW => ⟨⟨x101, (), rfl, trivial, v1na0_0, v1na0_11, by rw [ht]; exact hP, va_K.moved hW.alike hK, hD⟩, hS.F ht⟩) hS.2.2 dX8_figure_102
    · obtain ⟨hw, h15⟩ := hw
      subst hw
      refine lv_if_ne (tgt := 27) hx hb dX8_figure_18 (by decide) (fun c18 => absurd (by decide +kernel) c18) (fun _ => ?_)
      refine lv_aload_n hx hb dX8_figure_21 rfl (lv_at hl 0 rfl) ?_
      refine lv_iconst (v := 1) hx hb dX8_figure_22 zk_iconst_1 ?_
      refine va_calli (va_runV (As := [.int 1]) (rest := []) ⟨hx, hb, hml, hown, hts⟩ (c_X8_no l dC dI H.size a0 1 (Value.int v1na0_0) a0g_1 a0g_2 a0g_3 a0g_4 a0g_5 a0g_6 a0g_7 a0g_8 a0g_9 a0g_10 a0g_12 a0g_13 (Value.int a0_14) (Value.ref a0_15) a0g_16 (Value.ref a0_17) a0g_18 a0g_19 a0g_20 a0g_21 a0g_22 a0g_23 a0g_24 a0g_25 a0g_26 a0g_27 a0g_28 a0g_29 a0g_30 a0g_31 a0g_32 a0g_33 a0g_34 a0g_35 a0g_36 a0g_37 a0g_38 a0g_39 v1na0_11 ) (cwV 1 hts gX8_figure_X8_no rfl rfl rfl zd_X8_no ⟨Nat.le_of_ble_eq_true rfl, Nat.le_of_ble_eq_true rfl⟩) ⟨ax_blind (fun _ _ _ _ _ => trivial), zr_8 (zp_K hK) (zp_P1 hP) (q0 := 0) rfl, ax_pre (zp_P1 hP) (zp_K hK) (zp_D1 hD) (fun _ _ => trivial)⟩ rfl rfl hl.1 rfl (lv_room (Nat.le_of_ble_eq_true rfl)) dX8_figure_23 ⟨Nat.le_of_ble_eq_true rfl, Nat.le_of_ble_eq_true rfl⟩) hS (fun q _ h => zp_F1 hD hS hA q h) (zp_F1 hD hS hA) (fun r23 u t H locs ht hvm hw => zx_1 (fun v23na0_11 hB hz1 hk1 hS1 => zo1 hB ht hP hD hk1 (zp_F1 hD hS hA) hS1 (fun hP hK1 hD hS => ?_)))
      have hw : r23 = (-1) := hw
      have hw := hw.symm
      subst hw
      exact W.iret (v := (-1)) hx hb hr (fun t ht hW => ⟨⟨(-1), (), rfl, trivial, v1na0_0, v23na0_11, by rw [ht]; exact hP, va_K.moved hW.alike hK, hD⟩, hS.F ht⟩) hS.2.2 dX8_figure_26
  · subst hw
    refine lv_if_eq (tgt := 21) hx hb dX8_figure_9 (by decide) (fun _ => ?_) (fun c9 => absurd (by decide +kernel) c9)
    refine lv_aload_n hx hb dX8_figure_21 rfl (lv_at hl 0 rfl) ?_
    refine lv_iconst (v := 1) hx hb dX8_figure_22 zk_iconst_1 ?_
    refine va_calli (va_runV (As := [.int 1]) (rest := []) ⟨hx, hb, hml, hown, hts⟩ (c_X8_no l dC dI H.size a0 1 (Value.int v1na0_0) a0g_1 a0g_2 a0g_3 a0g_4 a0g_5 a0g_6 a0g_7 a0g_8 a0g_9 a0g_10 a0g_12 a0g_13 (Value.int a0_14) (Value.ref a0_15) a0g_16 (Value.ref a0_17) a0g_18 a0g_19 a0g_20 a0g_21 a0g_22 a0g_23 a0g_24 a0g_25 a0g_26 a0g_27 a0g_28 a0g_29 a0g_30 a0g_31 a0g_32 a0g_33 a0g_34 a0g_35 a0g_36 a0g_37 a0g_38 a0g_39 v1na0_11 ) (cwV 1 hts gX8_figure_X8_no rfl rfl rfl zd_X8_no ⟨Nat.le_of_ble_eq_true rfl, Nat.le_of_ble_eq_true rfl⟩) ⟨ax_blind (fun _ _ _ _ _ => trivial), zr_8 (zp_K hK) (zp_P1 hP) (q0 := 0) rfl, ax_pre (zp_P1 hP) (zp_K hK) (zp_D1 hD) (fun _ _ => trivial)⟩ rfl rfl hl.1 rfl (lv_room (Nat.le_of_ble_eq_true rfl)) dX8_figure_23 ⟨Nat.le_of_ble_eq_true rfl, Nat.le_of_ble_eq_true rfl⟩) hS (fun q _ h => zp_F1 hD hS hA q h) (zp_F1 hD hS hA) (fun r23 u t H locs ht hvm hw => zx_1 (fun v23na0_11 hB hz1 hk1 hS1 => zo1 hB ht hP hD hk1 (zp_F1 hD hS hA) hS1 (fun hP hK1 hD hS => ?_)))
    have hw : r23 = (-1) := hw
    have hw := hw.symm
    subst hw
    exact W.iret (v := (-1)) hx hb hr (fun t ht hW => ⟨⟨(-1), (), rfl, trivial, v1na0_0, v23na0_11, by rw [ht]; exact hP, va_K.moved hW.alike hK, hD⟩, hS.F ht⟩) hS.2.2 dX8_figure_26

set_option maxHeartbeats 4000000 in
set_option maxRecDepth 100000 in
theorem c_X8_watcher (l : Launch) (dC : Nat → ClassId) (dI : Nat → Nat → Nat) (sz : Nat) (a0 : Nat) (a1 : Int32) (a2 : Int32) (a0_0 : Int32) (a0g_1 a0g_2 a0g_3 a0g_4 a0g_5 a0g_6 a0g_7 a0g_8 a0g_9 a0g_10 a0g_12 a0g_13 a0g_16 a0g_18 a0g_19 a0g_20 a0g_21 a0g_22 a0g_26 a0g_27 a0g_28 a0g_29 a0g_30 a0g_31 a0g_32 a0g_33 a0g_34 a0g_35 a0g_36 a0g_37 a0g_38 a0g_39 : Value) (a0_11 : Int32) (a0_14 : Int32) (a0_15 : Nat) (a0_17 : Nat) (a0_23 : Nat) (a0_24 : Nat) (a0_25 : Int32) (ka0_15 : ClassId) (fa0_15 : Nat → Int32) (ka0_23 : ClassId) (fa0_23 : Nat → Int32) (ka0_24 : ClassId) (fa0_24 : Nat → Int32) (ka0_17 : ClassId) (fa0_17 : Nat → Int32) (ba0_14_l : (1 : Int) ≤ a0_14.toInt) (ba0_14_u : a0_14.toInt ≤ (1 : Int)) (bfa0_15 : ((∀ k : Nat, 0 ≤ k → k ≤ 0 → (2 : Int) ≤ (fa0_15 k).toInt ∧ (fa0_15 k).toInt ≤ 9) ∧ (∀ k : Nat, 1 ≤ k → k ≤ 1 → (1 : Int) ≤ (fa0_15 k).toInt ∧ (fa0_15 k).toInt ≤ 20) ∧ (∀ k : Nat, 2 ≤ k → k ≤ 2 → (0 : Int) ≤ (fa0_15 k).toInt ∧ (fa0_15 k).toInt ≤ 8) ∧ (∀ k : Nat, 3 ≤ k → k ≤ 3 → (0 : Int) ≤ (fa0_15 k).toInt ∧ (fa0_15 k).toInt ≤ 100) ∧ (∀ k : Nat, 4 ≤ k → k ≤ 4 → (0 : Int) ≤ (fa0_15 k).toInt ∧ (fa0_15 k).toInt ≤ 9) ∧ (∀ k : Nat, 5 ≤ k → k ≤ 5 → (0 : Int) ≤ (fa0_15 k).toInt ∧ (fa0_15 k).toInt ≤ 3) ∧ (∀ k : Nat, 6 ≤ k → k ≤ 6 → (0 : Int) ≤ (fa0_15 k).toInt ∧ (fa0_15 k).toInt ≤ 6) ∧ (∀ k : Nat, 7 ≤ k → k ≤ 9 → (0 : Int) ≤ (fa0_15 k).toInt ∧ (fa0_15 k).toInt ≤ 8) ∧ (∀ k : Nat, 12 ≤ k → k ≤ 29 → (0 : Int) ≤ (fa0_15 k).toInt ∧ (fa0_15 k).toInt ≤ 20) ∧ (∀ k : Nat, 30 ≤ k → k ≤ 35 → (0 : Int) ≤ (fa0_15 k).toInt ∧ (fa0_15 k).toInt ≤ 8) ∧ (∀ k : Nat, 36 ≤ k → k ≤ 47 → (0 : Int) ≤ (fa0_15 k).toInt ∧ (fa0_15 k).toInt ≤ 999))) (bfa0_23 : (∀ k, (0 : Int) ≤ (fa0_23 k).toInt ∧ (fa0_23 k).toInt ≤ 80)) (bfa0_24 : (∀ k, (0 : Int) ≤ (fa0_24 k).toInt ∧ (fa0_24 k).toInt ≤ 80)) (bfa0_17 : ((∀ k : Nat, 0 ≤ k → k ≤ 8 → (0 : Int) ≤ (fa0_17 k).toInt ∧ (fa0_17 k).toInt ≤ 8) ∧ (∀ k : Nat, 19 ≤ k → k ≤ 19 → (0 : Int) ≤ (fa0_17 k).toInt ∧ (fa0_17 k).toInt ≤ 8) ∧ (∀ k : Nat, 20 ≤ k → k ≤ 20 → (0 : Int) ≤ (fa0_17 k).toInt ∧ (fa0_17 k).toInt ≤ 19))) : zm l yX8_watcher wsX8_watcher ({ frames := 2, cells := 0, slots := 0, locals := 43 }) [.ref a0, .int a1, .int a2] dC dI sz [(a0, .inr (8, [Value.int a0_0, a0g_1, a0g_2, a0g_3, a0g_4, a0g_5, a0g_6, a0g_7, a0g_8, a0g_9, a0g_10, Value.int a0_11, a0g_12, a0g_13, Value.int a0_14, Value.ref a0_15, a0g_16, Value.ref a0_17, a0g_18, a0g_19, a0g_20, a0g_21, a0g_22, Value.ref a0_23, Value.ref a0_24, Value.int a0_25, a0g_26, a0g_27, a0g_28, a0g_29, a0g_30, a0g_31, a0g_32, a0g_33, a0g_34, a0g_35, a0g_36, a0g_37, a0g_38, a0g_39])), (a0_15, .inl (ka0_15, 156, .inl (fa0_15))), (a0_23, .inl (ka0_23, 3, .inl (fa0_23))), (a0_24, .inl (ka0_24, 3, .inl (fa0_24))), (a0_17, .inl (ka0_17, 23, .inl (fa0_17)))] [(ka0_15, .int), (ka0_23, .int), (ka0_24, .int), (ka0_17, .int)] (fun A _ => True) (fun A => va_Qi (fun (r : Int32) (_ : Unit) => True) (fun (_ : Unit) (t : State) => ∃ na0_0 : Int32, ∃ na0_11 : Int32, ∃ na0_25 : Int32, ∃ nfa0_23 : Nat → Int32, ∃ nfa0_24 : Nat → Int32, (∀ k, (0 : Int) ≤ (nfa0_23 k).toInt ∧ (nfa0_23 k).toInt ≤ 80) ∧ (∀ k, (0 : Int) ≤ (nfa0_24 k).toInt ∧ (nfa0_24 k).toInt ≤ 80) ∧ ax_B dC dI A [(a0, .inr (8, [Value.int na0_0, a0g_1, a0g_2, a0g_3, a0g_4, a0g_5, a0g_6, a0g_7, a0g_8, a0g_9, a0g_10, Value.int na0_11, a0g_12, a0g_13, Value.int a0_14, Value.ref a0_15, a0g_16, Value.ref a0_17, a0g_18, a0g_19, a0g_20, a0g_21, a0g_22, Value.ref a0_23, Value.ref a0_24, Value.int na0_25, a0g_26, a0g_27, a0g_28, a0g_29, a0g_30, a0g_31, a0g_32, a0g_33, a0g_34, a0g_35, a0g_36, a0g_37, a0g_38, a0g_39])), (a0_15, .inl (ka0_15, 156, .inl (fa0_15))), (a0_23, .inl (ka0_23, 3, .inl (nfa0_23))), (a0_24, .inl (ka0_24, 3, .inl (nfa0_24))), (a0_17, .inl (ka0_17, 23, .inl (fa0_17)))] [(ka0_15, .int), (ka0_23, .int), (ka0_24, .int), (ka0_17, .int)] t) A) := by
  refine zh (cc := cX8_watcher) (maxL := 3) (ret := (some .int)) zn_RX8 rfl (Nat.le_of_ble_eq_true rfl) (fun p e s m below meth c A ls hx hb hml hr hts (hown : s.vm.findClass RX8 = some m.cls) hlocks hA hS hP hK hD hE (hl : lv_has ls 3 [(0, .ref a0), (1, .int a1), (2, .int a2)]) => ?_)
  refine lv_aload_n hx hb dX8_watcher_0 rfl (lv_at hl 0 rfl) ?_
  refine va_callv (va_runV (As := []) (rest := []) ⟨hx, hb, hml, hown, hts⟩ (c_X8_good l dC dI s.heap.size a0 a0_0 a0g_1 a0g_2 a0g_3 a0g_4 a0g_5 a0g_6 a0g_7 a0g_8 a0g_9 a0g_10 a0g_12 a0g_13 (Value.int a0_14) (Value.ref a0_15) a0g_16 (Value.ref a0_17) a0g_18 a0g_19 a0g_20 a0g_21 a0g_22 (Value.ref a0_23) (Value.ref a0_24) (Value.int a0_25) a0g_26 a0g_27 a0g_28 a0g_29 a0g_30 a0g_31 a0g_32 a0g_33 a0g_34 a0g_35 a0g_36 a0g_37 a0g_38 a0g_39 a0_11 ) (cwV 0 hts gX8_watcher_X8_good rfl rfl rfl zd_X8_good ⟨Nat.le_of_ble_eq_true rfl, Nat.le_of_ble_eq_true rfl⟩) ⟨ax_blind (fun _ _ _ _ _ => trivial), zr_8 (zp_K hK) (zp_P1 hP) (q0 := 0) rfl, ax_pre (zp_P1 hP) (zp_K hK) (zp_D1 hD) (fun _ _ => trivial)⟩ rfl rfl hl.1 rfl (lv_room (Nat.le_of_ble_eq_true rfl)) dX8_watcher_1 ⟨Nat.le_of_ble_eq_true rfl, Nat.le_of_ble_eq_true rfl⟩) hS (fun q _ h => zp_F1 hD hS hA q h) (zp_F1 hD hS hA) (fun u t H locs ht hvm hw => zx_2 (fun v1na0_0 v1na0_11 hB hz1 hk1 hS1 => zo1 hB ht hP hD hk1 (zp_F1 hD hS hA) hS1 (fun hP hK1 hD hS => ?_)))
  refine lv_aload_n hx hb dX8_watcher_4 rfl (lv_at hl 0 rfl) ?_
  refine lv_iload_n hx hb dX8_watcher_5 rfl (lv_at hl 1 rfl) ?_
  have hKc := hK.sub (tys' := [(ka0_15, .int)]) [0] rfl
  refine va_calli (va_runV (As := [.int a1]) (rest := []) ⟨hx, hb, hml, hown, hts⟩ (c_X8_isWatcher l dC dI H.size a0 a1 (Value.int v1na0_0) a0g_1 a0g_2 a0g_3 a0g_4 a0g_5 a0g_6 a0g_7 a0g_8 a0g_9 a0g_10 (Value.int v1na0_11) a0g_12 a0g_13 a0g_16 (Value.ref a0_17) a0g_18 a0g_19 a0g_20 a0g_21 a0g_22 (Value.ref a0_23) (Value.ref a0_24) (Value.int a0_25) a0g_26 a0g_27 a0g_28 a0g_29 a0g_30 a0g_31 a0g_32 a0g_33 a0g_34 a0g_35 a0g_36 a0g_37 a0g_38 a0g_39 a0_14 a0_15 ka0_15 fa0_15 ba0_14_l ba0_14_u bfa0_15) (cwV 1 hts gX8_watcher_X8_isWatcher rfl rfl rfl zd_X8_isWatcher ⟨Nat.le_of_ble_eq_true rfl, Nat.le_of_ble_eq_true rfl⟩) ⟨ax_blind (fun _ _ _ _ _ => trivial), zr_8 hKc (zp_P2 hP) (q0 := 0) rfl, ax_pre (zp_P2 hP) hKc (zp_D2 hD) (fun _ _ => trivial)⟩ rfl rfl hl.1 rfl (lv_room (Nat.le_of_ble_eq_true rfl)) dX8_watcher_6 ⟨Nat.le_of_ble_eq_true rfl, Nat.le_of_ble_eq_true rfl⟩) hS (fun q _ h => zp_F2 hD hS hA q h) (zp_F2 hD hS hA) (fun r6 u t H locs ht hvm hw hB hz1 hk1 hS1 => zo2 hB ht hP hD hk1 (zp_F2 hD hS hA) hS1 (fun hP hK1 hD hS => ?_))
  rcases hw with hw | hw
  · obtain ⟨hw, h6_0, h6_1⟩ := hw
    subst hw
    have l6k0_a1 : (0 : Int) ≤ a1.toInt := h6_0
    have u6k0_a1 : a1.toInt ≤ (2 : Int) := h6_1
    refine lv_if_eq (tgt := 21) hx hb dX8_watcher_9 (by decide) (fun c9 => absurd c9 (by decide +kernel)) (fun _ => ?_)
    refine lv_iload_n hx hb dX8_watcher_12 rfl (lv_at hl 2 rfl) ?_
    refine lv_iconst (v := 0) hx hb dX8_watcher_13 zk_iconst_0 ?_
    refine lv_iconst (v := 2) hx hb dX8_watcher_14 zk_iconst_2 ?_
    refine va_calli (va_runS (As := [.int a2, .int 0, .int 2]) (rest := []) ⟨hx, hb, hml, hown, hts⟩ (c_X8_in l dC dI H.size a2 0 2 ) (va_cwS 3 hts gX8_watcher_X8_in rfl rfl rfl zd_X8_in.2 ⟨Nat.le_of_ble_eq_true rfl, Nat.le_of_ble_eq_true rfl⟩) ⟨ax_blind (fun _ _ _ _ _ => trivial), ax_pre (zp_P0 hP) (zp_K hK) (zp_D0 hD) (fun _ _ => trivial)⟩ rfl rfl hl.1 rfl (lv_room (Nat.le_of_ble_eq_true rfl)) dX8_watcher_15 ⟨Nat.le_of_ble_eq_true rfl, Nat.le_of_ble_eq_true rfl⟩) hS (fun q _ h => zp_F0 hD hS hA q h) (zp_F0 hD hS hA) (fun r15 u t H locs ht hvm hw hB hz1 hk1 hS1 => zo0 hB ht hP hD hk1 (zp_F0 hD hS hA) hS1 (fun hP hK1 hD hS => ?_))
    rcases hw with hw | hw
    · obtain ⟨hw, h15⟩ := hw
      subst hw
      have l15k0_a2 : (0 : Int) ≤ a2.toInt := Int.le_trans zq5 h15.1
      have u15k0_a2 : a2.toInt ≤ (2 : Int) := Int.le_trans h15.2 zq13
      refine lv_if_ne (tgt := 27) hx hb dX8_watcher_18 (by decide) (fun _ => ?_) (fun c18 => absurd c18 (by decide +kernel))
      refine lv_aload_n hx hb dX8_watcher_27 rfl (lv_at hl 0 rfl) ?_
      have hKc := hK.sub (tys' := [(ka0_15, .int), (ka0_23, .int), (ka0_24, .int)]) [0, 1, 2] rfl
      refine va_callv (va_runV (As := []) (rest := []) ⟨hx, hb, hml, hown, hts⟩ (c_X8_watchAsTold l dC dI H.size a0 (Value.int v1na0_0) a0g_1 a0g_2 a0g_3 a0g_4 a0g_5 a0g_6 a0g_7 a0g_8 a0g_9 a0g_10 (Value.int v1na0_11) a0g_12 a0g_13 (Value.int a0_14) a0g_16 (Value.ref a0_17) a0g_18 a0g_19 a0g_20 a0g_21 a0g_22 a0g_26 a0g_27 a0g_28 a0g_29 a0g_30 a0g_31 a0g_32 a0g_33 a0g_34 a0g_35 a0g_36 a0g_37 a0g_38 a0g_39 a0_15 a0_23 a0_24 a0_25 ka0_15 fa0_15 ka0_23 fa0_23 ka0_24 fa0_24 bfa0_15 bfa0_23 bfa0_24) (cwV 0 hts gX8_watcher_X8_watchAsTold rfl rfl rfl zd_X8_watchAsTold ⟨Nat.le_of_ble_eq_true rfl, Nat.le_of_ble_eq_true rfl⟩) ⟨ax_blind (fun _ _ _ _ _ => trivial), zr_8 hKc (zp_P4 hP) (q0 := 0) rfl, ax_pre (zp_P4 hP) hKc (zp_D4 hD) (fun _ _ => trivial)⟩ rfl rfl hl.1 rfl (lv_room (Nat.le_of_ble_eq_true rfl)) dX8_watcher_28 ⟨Nat.le_of_ble_eq_true rfl, Nat.le_of_ble_eq_true rfl⟩) hS (fun q _ h => zp_F4 hD hS hA q h) (zp_F4 hD hS hA) (fun u t H locs ht hvm hw => zx_3 (fun v28na0_25 v28nfa0_23 v28nfa0_24 => zy_2 (fun bv28nfa0_23 bv28nfa0_24 hB hz1 hk1 hS1 => zo4 hB ht hP hD hk1 (zp_F4 hD hS hA) hS1 (fun hP hK1 hD hS => ?_))))
      refine lv_iload_n hx hb dX8_watcher_31 rfl (lv_at hl 2 rfl) ?_
      refine lv_iconst (v := 2) hx hb dX8_watcher_32 zk_iconst_2 ?_
      refine lv_icmp_ge (tgt := 52) hx hb dX8_watcher_33 (by decide) (fun c33 => ?_) (fun c33 => ?_)
      · have gc33 := ai_le c33
        have l33t_a2 : (2 : Int) ≤ a2.toInt := Int.le_trans zq12 gc33
        refine lv_aload_n hx hb dX8_watcher_52 rfl (lv_at hl 0 rfl) ?_
        refine lv_iload_n hx hb dX8_watcher_53 rfl (lv_at hl 1 rfl) ?_
        refine lv_aload_n hx hb dX8_watcher_54 rfl (lv_at hl 0 rfl) ?_
        refine va_get (D := (dC, dI)) (ci := 8) (v := .ref a0_17) (C := RX8) (T := TX8) (N := 40) hx hb hts zi_X8_watcher_8 hown hK hP 0 rfl rfl 17 (by decide) (hts (.fieldLink RX8 26 "WaxTurnsModel" "st" "[I") (zm_X8_watcher_r1 (List.mem_of_getElem? (i := 1) rfl))) (fun _ h9 => h9) rfl dX8_watcher_55 ?_
        refine lv_bipush (v := 21) hx hb dX8_watcher_58 zk_bipush_21 ?_
        refine va_iald hx hb hK hP 4 3 rfl rfl (by unfold vp_in; decide +kernel) dX8_watcher_60 ?_
        refine lv_topi (fun x60 ex60 => ?_)
        refine zc_cutc (wc := [(a0, .inr (8, [Value.int v1na0_0, a0g_1, a0g_2, a0g_3, a0g_4, a0g_5, a0g_6, a0g_7, a0g_8, a0g_9, a0g_10, Value.int v1na0_11, a0g_12, a0g_13, Value.int a0_14, Value.ref a0_15, a0g_16, Value.ref a0_17, a0g_18, a0g_19, a0g_20, a0g_21, a0g_22, Value.ref a0_23, Value.ref a0_24, Value.int v28na0_25, a0g_26, a0g_27, a0g_28, a0g_29, a0g_30, a0g_31, a0g_32, a0g_33, a0g_34, a0g_35, a0g_36, a0g_37, a0g_38, a0g_39])), (a0_24, .inl (ka0_24, 3, .inl (v28nfa0_24))), (a0_23, .inl (ka0_23, 3, .inl (v28nfa0_23)))]) hP hD hS hA [0, 3, 2] (by decide +kernel) rfl (fun hPc hDc hFc hCc => ?_)
        have hKc := hK.sub (tys' := [(ka0_24, .int), (ka0_23, .int)]) [2, 1] rfl
        refine va_calli (va_runV (As := [.int a1, .int x60]) (rest := []) ⟨hx, hb, hml, hown, hts⟩ (c_X8_watcherAt l dC dI H.size a0 a1 x60 (Value.int v1na0_0) a0g_1 a0g_2 a0g_3 a0g_4 a0g_5 a0g_6 a0g_7 a0g_8 a0g_9 a0g_10 (Value.int v1na0_11) a0g_12 a0g_13 (Value.int a0_14) (Value.ref a0_15) a0g_16 (Value.ref a0_17) a0g_18 a0g_19 a0g_20 a0g_21 a0g_22 (Value.int v28na0_25) a0g_26 a0g_27 a0g_28 a0g_29 a0g_30 a0g_31 a0g_32 a0g_33 a0g_34 a0g_35 a0g_36 a0g_37 a0g_38 a0g_39 a0_23 a0_24 ka0_24 v28nfa0_24 ka0_23 v28nfa0_23 l6k0_a1 u6k0_a1 bv28nfa0_24 bv28nfa0_23) (cwV 2 hts gX8_watcher_X8_watcherAt rfl rfl rfl zd_X8_watcherAt ⟨Nat.le_of_ble_eq_true rfl, Nat.le_of_ble_eq_true rfl⟩) ⟨ax_blind (fun _ _ _ _ _ => trivial), zr_8 hKc hPc (q0 := 0) rfl, ax_pre hPc hKc hDc (fun _ _ => trivial)⟩ rfl rfl hl.1 rfl (lv_room (Nat.le_of_ble_eq_true rfl)) dX8_watcher_61 ⟨Nat.le_of_ble_eq_true rfl, Nat.le_of_ble_eq_true rfl⟩) hS (fun q _ h => hFc q h) hFc (fun r61 u t H locs ht hvm hw hB hz1 hk1 hS1 => zo hB ht hS1 (fun hP1 hK1 hD1 hS => ?_))
        refine zc_backc (w := [(a0, .inr (8, [Value.int v1na0_0, a0g_1, a0g_2, a0g_3, a0g_4, a0g_5, a0g_6, a0g_7, a0g_8, a0g_9, a0g_10, Value.int v1na0_11, a0g_12, a0g_13, Value.int a0_14, Value.ref a0_15, a0g_16, Value.ref a0_17, a0g_18, a0g_19, a0g_20, a0g_21, a0g_22, Value.ref a0_23, Value.ref a0_24, Value.int v28na0_25, a0g_26, a0g_27, a0g_28, a0g_29, a0g_30, a0g_31, a0g_32, a0g_33, a0g_34, a0g_35, a0g_36, a0g_37, a0g_38, a0g_39])), (a0_15, .inl (ka0_15, 156, .inl (fa0_15))), (a0_23, .inl (ka0_23, 3, .inl (v28nfa0_23))), (a0_24, .inl (ka0_24, 3, .inl (v28nfa0_24))), (a0_17, .inl (ka0_17, 23, .inl (fa0_17)))]) hP hD hCc hk1 hFc hP1 hD1 [.inr 0, .inl 1, .inr 2, .inr 1, .inl 4] (by decide +kernel) rfl (fun hP hD => ?_)
        exact W.iret (v := r61) hx hb hr (fun t ht hW => ⟨⟨r61, (), rfl, trivial, v1na0_0, v1na0_11, v28na0_25, v28nfa0_23, v28nfa0_24, bv28nfa0_23, bv28nfa0_24, by rw [ht]; exact hP, va_K.moved hW.alike hK, hD⟩, hS.F ht⟩) hS.2.2 dX8_watcher_64
      · have gc33 := ai_nle c33
        have u33f_a2 : a2.toInt ≤ (1 : Int) := ai_lthi gc33 zq13
        refine lv_aload_n hx hb dX8_watcher_36 rfl (lv_at hl 0 rfl) ?_
        refine va_get (D := (dC, dI)) (ci := 8) (v := .ref a0_15) (C := RX8) (T := TX8) (N := 40) hx hb hts zi_X8_watcher_8 hown hK hP 0 rfl rfl 15 (by decide) (hts (.fieldLink RX8 20 "WaxTurnsModel" "\x72" "[I") (zm_X8_watcher_r1 (List.mem_of_getElem? (i := 0) rfl))) (fun _ h9 => h9) rfl dX8_watcher_37 ?_
        refine lv_bipush (v := 30) hx hb dX8_watcher_40 zk_bipush_30 ?_
        refine lv_iconst (v := 2) hx hb dX8_watcher_42 zk_iconst_2 ?_
        refine lv_iload_n hx hb dX8_watcher_43 rfl (lv_at hl 1 rfl) ?_
        refine lv_imul hx hb dX8_watcher_44 ?_
        refine lv_topi (fun x44 ex44 => ?_)
        have qx44 : x44.toInt = (2 : Int32).toInt * a1.toInt ∧ (0 : Int) ≤ x44.toInt ∧ x44.toInt ≤ 4 := ai_mul ex44 ⟨zq12, zq13⟩ ⟨l6k0_a1, u6k0_a1⟩ (by decide) (by decide) zq150
        have wx44 : x44.toInt = 2 * a1.toInt := qx44.1
        refine lv_iadd hx hb dX8_watcher_45 ?_
        refine lv_topi (fun x45 ex45 => ?_)
        have qx45 : x45.toInt = (30 : Int32).toInt + x44.toInt := ai_add ex45 ⟨zq151, zq152⟩ ⟨qx44.2.1, qx44.2.2⟩ (by decide) (by decide)
        have bx45 : (30 : Int) ≤ x45.toInt ∧ x45.toInt ≤ 34 := ⟨by rw [qx45]; exact Int.add_le_add zq151 qx44.2.1, by rw [qx45]; exact Int.add_le_add zq152 qx44.2.2⟩
        have wx45 : x45.toInt = 30 + x44.toInt := qx45
        refine lv_iload_n hx hb dX8_watcher_46 rfl (lv_at hl 2 rfl) ?_
        refine lv_iadd hx hb dX8_watcher_47 ?_
        refine lv_topi (fun x47 ex47 => ?_)
        have qx47 : x47.toInt = x45.toInt + a2.toInt := ai_add ex47 ⟨bx45.1, bx45.2⟩ ⟨l15k0_a2, u33f_a2⟩ (by decide) (by decide)
        have bx47 : (30 : Int) ≤ x47.toInt ∧ x47.toInt ≤ 35 := ⟨by rw [qx47]; exact Int.add_le_add bx45.1 l15k0_a2, by rw [qx47]; exact Int.add_le_add bx45.2 u33f_a2⟩
        refine va_iald hx hb hK hP 1 0 rfl rfl (ai_in bx47.1 bx47.2 (by decide) (by decide)) dX8_watcher_48 ?_
        refine lv_topi (fun x48 ex48 => ?_)
        have bx48 : (0 : Int) ≤ x48.toInt ∧ x48.toInt ≤ 8 := by rw [ex48]; exact ai_rd bfa0_15.2.2.2.2.2.2.2.2.2.1 bx47.1 bx47.2 (by decide) (by decide) (by decide)
        refine lv_goto (tgt := 64) hx hb dX8_watcher_49 (by decide) ?_
        exact W.iret (v := x48) hx hb hr (fun t ht hW => ⟨⟨x48, (), rfl, trivial, v1na0_0, v1na0_11, v28na0_25, v28nfa0_23, v28nfa0_24, bv28nfa0_23, bv28nfa0_24, by rw [ht]; exact hP, va_K.moved hW.alike hK, hD⟩, hS.F ht⟩) hS.2.2 dX8_watcher_64
    · obtain ⟨hw, h15⟩ := hw
      subst hw
      refine lv_if_ne (tgt := 27) hx hb dX8_watcher_18 (by decide) (fun c18 => absurd (by decide +kernel) c18) (fun _ => ?_)
      refine lv_aload_n hx hb dX8_watcher_21 rfl (lv_at hl 0 rfl) ?_
      refine lv_iconst (v := 1) hx hb dX8_watcher_22 zk_iconst_1 ?_
      refine va_calli (va_runV (As := [.int 1]) (rest := []) ⟨hx, hb, hml, hown, hts⟩ (c_X8_no l dC dI H.size a0 1 (Value.int v1na0_0) a0g_1 a0g_2 a0g_3 a0g_4 a0g_5 a0g_6 a0g_7 a0g_8 a0g_9 a0g_10 a0g_12 a0g_13 (Value.int a0_14) (Value.ref a0_15) a0g_16 (Value.ref a0_17) a0g_18 a0g_19 a0g_20 a0g_21 a0g_22 (Value.ref a0_23) (Value.ref a0_24) (Value.int a0_25) a0g_26 a0g_27 a0g_28 a0g_29 a0g_30 a0g_31 a0g_32 a0g_33 a0g_34 a0g_35 a0g_36 a0g_37 a0g_38 a0g_39 v1na0_11 ) (cwV 1 hts gX8_watcher_X8_no rfl rfl rfl zd_X8_no ⟨Nat.le_of_ble_eq_true rfl, Nat.le_of_ble_eq_true rfl⟩) ⟨ax_blind (fun _ _ _ _ _ => trivial), zr_8 (zp_K hK) (zp_P1 hP) (q0 := 0) rfl, ax_pre (zp_P1 hP) (zp_K hK) (zp_D1 hD) (fun _ _ => trivial)⟩ rfl rfl hl.1 rfl (lv_room (Nat.le_of_ble_eq_true rfl)) dX8_watcher_23 ⟨Nat.le_of_ble_eq_true rfl, Nat.le_of_ble_eq_true rfl⟩) hS (fun q _ h => zp_F1 hD hS hA q h) (zp_F1 hD hS hA) (fun r23 u t H locs ht hvm hw => zx_1 (fun v23na0_11 hB hz1 hk1 hS1 => zo1 hB ht hP hD hk1 (zp_F1 hD hS hA) hS1 (fun hP hK1 hD hS => ?_)))
      have hw : r23 = (-1) := hw
      have hw := hw.symm
      subst hw
      exact W.iret (v := (-1)) hx hb hr (fun t ht hW => ⟨⟨(-1), (), rfl, trivial, v1na0_0, v23na0_11, a0_25, fa0_23, fa0_24, bfa0_23, bfa0_24, by rw [ht]; exact hP, va_K.moved hW.alike hK, hD⟩, hS.F ht⟩) hS.2.2 dX8_watcher_26
  · subst hw
    refine lv_if_eq (tgt := 21) hx hb dX8_watcher_9 (by decide) (fun _ => ?_) (fun c9 => absurd (by decide +kernel) c9)
    refine lv_aload_n hx hb dX8_watcher_21 rfl (lv_at hl 0 rfl) ?_
    refine lv_iconst (v := 1) hx hb dX8_watcher_22 zk_iconst_1 ?_
    refine va_calli (va_runV (As := [.int 1]) (rest := []) ⟨hx, hb, hml, hown, hts⟩ (c_X8_no l dC dI H.size a0 1 (Value.int v1na0_0) a0g_1 a0g_2 a0g_3 a0g_4 a0g_5 a0g_6 a0g_7 a0g_8 a0g_9 a0g_10 a0g_12 a0g_13 (Value.int a0_14) (Value.ref a0_15) a0g_16 (Value.ref a0_17) a0g_18 a0g_19 a0g_20 a0g_21 a0g_22 (Value.ref a0_23) (Value.ref a0_24) (Value.int a0_25) a0g_26 a0g_27 a0g_28 a0g_29 a0g_30 a0g_31 a0g_32 a0g_33 a0g_34 a0g_35 a0g_36 a0g_37 a0g_38 a0g_39 v1na0_11 ) (cwV 1 hts gX8_watcher_X8_no rfl rfl rfl zd_X8_no ⟨Nat.le_of_ble_eq_true rfl, Nat.le_of_ble_eq_true rfl⟩) ⟨ax_blind (fun _ _ _ _ _ => trivial), zr_8 (zp_K hK) (zp_P1 hP) (q0 := 0) rfl, ax_pre (zp_P1 hP) (zp_K hK) (zp_D1 hD) (fun _ _ => trivial)⟩ rfl rfl hl.1 rfl (lv_room (Nat.le_of_ble_eq_true rfl)) dX8_watcher_23 ⟨Nat.le_of_ble_eq_true rfl, Nat.le_of_ble_eq_true rfl⟩) hS (fun q _ h => zp_F1 hD hS hA q h) (zp_F1 hD hS hA) (fun r23 u t H locs ht hvm hw => zx_1 (fun v23na0_11 hB hz1 hk1 hS1 => zo1 hB ht hP hD hk1 (zp_F1 hD hS hA) hS1 (fun hP hK1 hD hS => ?_)))
    have hw : r23 = (-1) := hw
    have hw := hw.symm
    subst hw
    exact W.iret (v := (-1)) hx hb hr (fun t ht hW => ⟨⟨(-1), (), rfl, trivial, v1na0_0, v23na0_11, a0_25, fa0_23, fa0_24, bfa0_23, bfa0_24, by rw [ht]; exact hP, va_K.moved hW.alike hK, hD⟩, hS.F ht⟩) hS.2.2 dX8_watcher_26

set_option maxHeartbeats 4000000 in
set_option maxRecDepth 100000 in
theorem c_X8_alive (l : Launch) (dC : Nat → ClassId) (dI : Nat → Nat → Nat) (sz : Nat) (a0 : Nat) (a0_0 : Int32) (a0g_1 a0g_2 a0g_3 a0g_4 a0g_5 a0g_6 a0g_7 a0g_8 a0g_9 a0g_10 a0g_12 a0g_13 a0g_15 a0g_16 a0g_18 a0g_19 a0g_20 a0g_21 a0g_22 a0g_23 a0g_24 a0g_25 a0g_26 a0g_27 a0g_28 a0g_29 a0g_30 a0g_31 a0g_32 a0g_33 a0g_34 a0g_35 a0g_36 a0g_37 a0g_38 a0g_39 : Value) (a0_11 : Int32) (a0_14 : Int32) (a0_17 : Nat) (ka0_17 : ClassId) (fa0_17 : Nat → Int32) (ba0_14_l : (1 : Int) ≤ a0_14.toInt) (ba0_14_u : a0_14.toInt ≤ (1 : Int)) (bfa0_17 : ((∀ k : Nat, 0 ≤ k → k ≤ 8 → (0 : Int) ≤ (fa0_17 k).toInt ∧ (fa0_17 k).toInt ≤ 8) ∧ (∀ k : Nat, 19 ≤ k → k ≤ 19 → (0 : Int) ≤ (fa0_17 k).toInt ∧ (fa0_17 k).toInt ≤ 8) ∧ (∀ k : Nat, 20 ≤ k → k ≤ 20 → (0 : Int) ≤ (fa0_17 k).toInt ∧ (fa0_17 k).toInt ≤ 19))) : zm l yX8_alive wsX8_alive ({ frames := 1, cells := 0, slots := 0, locals := 20 }) [.ref a0] dC dI sz [(a0, .inr (8, [Value.int a0_0, a0g_1, a0g_2, a0g_3, a0g_4, a0g_5, a0g_6, a0g_7, a0g_8, a0g_9, a0g_10, Value.int a0_11, a0g_12, a0g_13, Value.int a0_14, a0g_15, a0g_16, Value.ref a0_17, a0g_18, a0g_19, a0g_20, a0g_21, a0g_22, a0g_23, a0g_24, a0g_25, a0g_26, a0g_27, a0g_28, a0g_29, a0g_30, a0g_31, a0g_32, a0g_33, a0g_34, a0g_35, a0g_36, a0g_37, a0g_38, a0g_39])), (a0_17, .inl (ka0_17, 23, .inl (fa0_17)))] [(ka0_17, .int)] (fun A _ => True) (fun A => va_Qi (fun (r : Int32) (_ : Unit) => (0 : Int) ≤ r.toInt ∧ r.toInt ≤ (8 : Int)) (fun (_ : Unit) (t : State) => ∃ na0_0 : Int32, ∃ na0_11 : Int32, ax_B dC dI A [(a0, .inr (8, [Value.int na0_0, a0g_1, a0g_2, a0g_3, a0g_4, a0g_5, a0g_6, a0g_7, a0g_8, a0g_9, a0g_10, Value.int na0_11, a0g_12, a0g_13, Value.int a0_14, a0g_15, a0g_16, Value.ref a0_17, a0g_18, a0g_19, a0g_20, a0g_21, a0g_22, a0g_23, a0g_24, a0g_25, a0g_26, a0g_27, a0g_28, a0g_29, a0g_30, a0g_31, a0g_32, a0g_33, a0g_34, a0g_35, a0g_36, a0g_37, a0g_38, a0g_39])), (a0_17, .inl (ka0_17, 23, .inl (fa0_17)))] [(ka0_17, .int)] t) A) := by
  refine zh (cc := cX8_alive) (maxL := 1) (ret := (some .int)) zn_RX8 rfl (Nat.le_of_ble_eq_true rfl) (fun p e s m below meth c A ls hx hb hml hr hts (hown : s.vm.findClass RX8 = some m.cls) hlocks hA hS hP hK hD hE (hl : lv_has ls 1 [(0, .ref a0)]) => ?_)
  refine lv_aload_n hx hb dX8_alive_0 rfl (lv_at hl 0 rfl) ?_
  refine va_callv (va_runV (As := []) (rest := []) ⟨hx, hb, hml, hown, hts⟩ (c_X8_good l dC dI s.heap.size a0 a0_0 a0g_1 a0g_2 a0g_3 a0g_4 a0g_5 a0g_6 a0g_7 a0g_8 a0g_9 a0g_10 a0g_12 a0g_13 (Value.int a0_14) a0g_15 a0g_16 (Value.ref a0_17) a0g_18 a0g_19 a0g_20 a0g_21 a0g_22 a0g_23 a0g_24 a0g_25 a0g_26 a0g_27 a0g_28 a0g_29 a0g_30 a0g_31 a0g_32 a0g_33 a0g_34 a0g_35 a0g_36 a0g_37 a0g_38 a0g_39 a0_11 ) (cwV 0 hts gX8_alive_X8_good rfl rfl rfl zd_X8_good ⟨Nat.le_of_ble_eq_true rfl, Nat.le_of_ble_eq_true rfl⟩) ⟨ax_blind (fun _ _ _ _ _ => trivial), zr_8 (zp_K hK) (zp_P1 hP) (q0 := 0) rfl, ax_pre (zp_P1 hP) (zp_K hK) (zp_D1 hD) (fun _ _ => trivial)⟩ rfl rfl hl.1 rfl (lv_room (Nat.le_of_ble_eq_true rfl)) dX8_alive_1 ⟨Nat.le_of_ble_eq_true rfl, Nat.le_of_ble_eq_true rfl⟩) hS (fun q _ h => zp_F1 hD hS hA q h) (zp_F1 hD hS hA) (fun u t H locs ht hvm hw => zx_2 (fun v1na0_0 v1na0_11 hB hz1 hk1 hS1 => zo1 hB ht hP hD hk1 (zp_F1 hD hS hA) hS1 (fun hP hK1 hD hS => ?_)))
  refine lv_aload_n hx hb dX8_alive_4 rfl (lv_at hl 0 rfl) ?_
  refine va_get (D := (dC, dI)) (ci := 8) (v := .int a0_14) (C := RX8) (T := TX8) (N := 40) hx hb hts zi_X8_alive_8 hown hK hP 0 rfl rfl 14 (by decide) (hts (.fieldLink RX8 173 "WaxTurnsModel" "hasGallery" "Z") (List.mem_cons_of_mem _ (List.mem_append_left _ (List.mem_of_getElem? (i := 0) rfl)))) (fun _ h9 => h9) rfl dX8_alive_5 ?_
  refine lv_if_eq (tgt := 21) hx hb dX8_alive_8 (by decide) (fun c8 => ?_) (fun c8 => ?_)
  · have gc8 := ai_eq c8
    have u8t_a0_14 : a0_14.toInt ≤ (0 : Int) := Int.le_trans (Int.le_of_eq gc8) zq6
    have l8t_a0_14 : (1 : Int) ≤ a0_14.toInt := ba0_14_l
    exact absurd (Int.le_trans l8t_a0_14 u8t_a0_14) (by decide)
  · have gc8 := ai_ne c8
    refine lv_aload_n hx hb dX8_alive_11 rfl (lv_at hl 0 rfl) ?_
    refine va_get (D := (dC, dI)) (ci := 8) (v := .ref a0_17) (C := RX8) (T := TX8) (N := 40) hx hb hts zi_X8_alive_8 hown hK hP 0 rfl rfl 17 (by decide) (hts (.fieldLink RX8 26 "WaxTurnsModel" "st" "[I") (List.mem_cons_of_mem _ (List.mem_append_left _ (List.mem_of_getElem? (i := 1) rfl)))) (fun _ h9 => h9) rfl dX8_alive_12 ?_
    refine lv_bipush (v := 19) hx hb dX8_alive_15 zk_bipush_19 ?_
    refine va_iald hx hb hK hP 1 0 rfl rfl (by unfold vp_in; decide +kernel) dX8_alive_17 ?_
    refine lv_topi (fun x17 ex17 => ?_)
    have bx17 : (0 : Int) ≤ x17.toInt ∧ x17.toInt ≤ 8 := by rw [ex17]; exact ai_rd bfa0_17.2.1 zq160 zq161 (by decide) (by decide) (by decide)
    refine lv_goto (tgt := 26) hx hb dX8_alive_18 (by decide) ?_
    exact W.iret (v := x17) hx hb hr (fun t ht hW => ⟨⟨x17, (), rfl, ⟨bx17.1, bx17.2⟩, v1na0_0, v1na0_11, by rw [ht]; exact hP, va_K.moved hW.alike hK, hD⟩, hS.F ht⟩) hS.2.2 dX8_alive_26

set_option maxHeartbeats 4000000 in
set_option maxRecDepth 100000 in
theorem c_X8_left (l : Launch) (dC : Nat → ClassId) (dI : Nat → Nat → Nat) (sz : Nat) (a0 : Nat) (a0_0 : Int32) (a0g_1 a0g_2 a0g_3 a0g_4 a0g_5 a0g_6 a0g_7 a0g_8 a0g_9 a0g_10 a0g_12 a0g_13 a0g_16 a0g_18 a0g_19 a0g_20 a0g_21 a0g_22 a0g_23 a0g_24 a0g_25 a0g_26 a0g_27 a0g_28 a0g_29 a0g_30 a0g_31 a0g_32 a0g_33 a0g_34 a0g_35 a0g_36 a0g_37 a0g_38 a0g_39 : Value) (a0_11 : Int32) (a0_14 : Int32) (a0_15 : Nat) (a0_17 : Nat) (ka0_15 : ClassId) (fa0_15 : Nat → Int32) (ka0_17 : ClassId) (fa0_17 : Nat → Int32) (ba0_14_l : (1 : Int) ≤ a0_14.toInt) (ba0_14_u : a0_14.toInt ≤ (1 : Int)) (bfa0_15 : ((∀ k : Nat, 0 ≤ k → k ≤ 0 → (2 : Int) ≤ (fa0_15 k).toInt ∧ (fa0_15 k).toInt ≤ 9) ∧ (∀ k : Nat, 1 ≤ k → k ≤ 1 → (1 : Int) ≤ (fa0_15 k).toInt ∧ (fa0_15 k).toInt ≤ 20) ∧ (∀ k : Nat, 2 ≤ k → k ≤ 2 → (0 : Int) ≤ (fa0_15 k).toInt ∧ (fa0_15 k).toInt ≤ 8) ∧ (∀ k : Nat, 3 ≤ k → k ≤ 3 → (0 : Int) ≤ (fa0_15 k).toInt ∧ (fa0_15 k).toInt ≤ 100) ∧ (∀ k : Nat, 4 ≤ k → k ≤ 4 → (0 : Int) ≤ (fa0_15 k).toInt ∧ (fa0_15 k).toInt ≤ 9) ∧ (∀ k : Nat, 5 ≤ k → k ≤ 5 → (0 : Int) ≤ (fa0_15 k).toInt ∧ (fa0_15 k).toInt ≤ 3) ∧ (∀ k : Nat, 6 ≤ k → k ≤ 6 → (0 : Int) ≤ (fa0_15 k).toInt ∧ (fa0_15 k).toInt ≤ 6) ∧ (∀ k : Nat, 7 ≤ k → k ≤ 9 → (0 : Int) ≤ (fa0_15 k).toInt ∧ (fa0_15 k).toInt ≤ 8) ∧ (∀ k : Nat, 12 ≤ k → k ≤ 29 → (0 : Int) ≤ (fa0_15 k).toInt ∧ (fa0_15 k).toInt ≤ 20) ∧ (∀ k : Nat, 30 ≤ k → k ≤ 35 → (0 : Int) ≤ (fa0_15 k).toInt ∧ (fa0_15 k).toInt ≤ 8) ∧ (∀ k : Nat, 36 ≤ k → k ≤ 47 → (0 : Int) ≤ (fa0_15 k).toInt ∧ (fa0_15 k).toInt ≤ 999))) (bfa0_17 : ((∀ k : Nat, 0 ≤ k → k ≤ 8 → (0 : Int) ≤ (fa0_17 k).toInt ∧ (fa0_17 k).toInt ≤ 8) ∧ (∀ k : Nat, 19 ≤ k → k ≤ 19 → (0 : Int) ≤ (fa0_17 k).toInt ∧ (fa0_17 k).toInt ≤ 8) ∧ (∀ k : Nat, 20 ≤ k → k ≤ 20 → (0 : Int) ≤ (fa0_17 k).toInt ∧ (fa0_17 k).toInt ≤ 19))) : zm l yX8_left wsX8_left ({ frames := 1, cells := 0, slots := 0, locals := 20 }) [.ref a0] dC dI sz [(a0, .inr (8, [Value.int a0_0, a0g_1, a0g_2, a0g_3, a0g_4, a0g_5, a0g_6, a0g_7, a0g_8, a0g_9, a0g_10, Value.int a0_11, a0g_12, a0g_13, Value.int a0_14, Value.ref a0_15, a0g_16, Value.ref a0_17, a0g_18, a0g_19, a0g_20, a0g_21, a0g_22, a0g_23, a0g_24, a0g_25, a0g_26, a0g_27, a0g_28, a0g_29, a0g_30, a0g_31, a0g_32, a0g_33, a0g_34, a0g_35, a0g_36, a0g_37, a0g_38, a0g_39])), (a0_15, .inl (ka0_15, 156, .inl (fa0_15))), (a0_17, .inl (ka0_17, 23, .inl (fa0_17)))] [(ka0_15, .int), (ka0_17, .int)] (fun A _ => True) (fun A => va_Qi (fun (r : Int32) (_ : Unit) => (-18 : Int) ≤ r.toInt ∧ r.toInt ≤ (20 : Int)) (fun (_ : Unit) (t : State) => ∃ na0_0 : Int32, ∃ na0_11 : Int32, ax_B dC dI A [(a0, .inr (8, [Value.int na0_0, a0g_1, a0g_2, a0g_3, a0g_4, a0g_5, a0g_6, a0g_7, a0g_8, a0g_9, a0g_10, Value.int na0_11, a0g_12, a0g_13, Value.int a0_14, Value.ref a0_15, a0g_16, Value.ref a0_17, a0g_18, a0g_19, a0g_20, a0g_21, a0g_22, a0g_23, a0g_24, a0g_25, a0g_26, a0g_27, a0g_28, a0g_29, a0g_30, a0g_31, a0g_32, a0g_33, a0g_34, a0g_35, a0g_36, a0g_37, a0g_38, a0g_39])), (a0_15, .inl (ka0_15, 156, .inl (fa0_15))), (a0_17, .inl (ka0_17, 23, .inl (fa0_17)))] [(ka0_15, .int), (ka0_17, .int)] t) A) := by
  refine zh (cc := cX8_left) (maxL := 1) (ret := (some .int)) zn_RX8 rfl (Nat.le_of_ble_eq_true rfl) (fun p e s m below meth c A ls hx hb hml hr hts (hown : s.vm.findClass RX8 = some m.cls) hlocks hA hS hP hK hD hE (hl : lv_has ls 1 [(0, .ref a0)]) => ?_)
  refine lv_aload_n hx hb dX8_left_0 rfl (lv_at hl 0 rfl) ?_
  refine va_callv (va_runV (As := []) (rest := []) ⟨hx, hb, hml, hown, hts⟩ (c_X8_good l dC dI s.heap.size a0 a0_0 a0g_1 a0g_2 a0g_3 a0g_4 a0g_5 a0g_6 a0g_7 a0g_8 a0g_9 a0g_10 a0g_12 a0g_13 (Value.int a0_14) (Value.ref a0_15) a0g_16 (Value.ref a0_17) a0g_18 a0g_19 a0g_20 a0g_21 a0g_22 a0g_23 a0g_24 a0g_25 a0g_26 a0g_27 a0g_28 a0g_29 a0g_30 a0g_31 a0g_32 a0g_33 a0g_34 a0g_35 a0g_36 a0g_37 a0g_38 a0g_39 a0_11 ) (cwV 0 hts gX8_left_X8_good rfl rfl rfl zd_X8_good ⟨Nat.le_of_ble_eq_true rfl, Nat.le_of_ble_eq_true rfl⟩) ⟨ax_blind (fun _ _ _ _ _ => trivial), zr_8 (zp_K hK) (zp_P1 hP) (q0 := 0) rfl, ax_pre (zp_P1 hP) (zp_K hK) (zp_D1 hD) (fun _ _ => trivial)⟩ rfl rfl hl.1 rfl (lv_room (Nat.le_of_ble_eq_true rfl)) dX8_left_1 ⟨Nat.le_of_ble_eq_true rfl, Nat.le_of_ble_eq_true rfl⟩) hS (fun q _ h => zp_F1 hD hS hA q h) (zp_F1 hD hS hA) (fun u t H locs ht hvm hw => zx_2 (fun v1na0_0 v1na0_11 hB hz1 hk1 hS1 => zo1 hB ht hP hD hk1 (zp_F1 hD hS hA) hS1 (fun hP hK1 hD hS => ?_)))
  refine lv_aload_n hx hb dX8_left_4 rfl (lv_at hl 0 rfl) ?_
  refine va_get (D := (dC, dI)) (ci := 8) (v := .int a0_14) (C := RX8) (T := TX8) (N := 40) hx hb hts zi_X8_left_8 hown hK hP 0 rfl rfl 14 (by decide) (hts (.fieldLink RX8 173 "WaxTurnsModel" "hasGallery" "Z") (List.mem_cons_of_mem _ (List.mem_append_left _ (List.mem_of_getElem? (i := 0) rfl)))) (fun _ h9 => h9) rfl dX8_left_5 ?_
  refine lv_if_eq (tgt := 28) hx hb dX8_left_8 (by decide) (fun c8 => ?_) (fun c8 => ?_)
  · have gc8 := ai_eq c8
    have u8t_a0_14 : a0_14.toInt ≤ (0 : Int) := Int.le_trans (Int.le_of_eq gc8) zq6
    have l8t_a0_14 : (1 : Int) ≤ a0_14.toInt := ba0_14_l
    exact absurd (Int.le_trans l8t_a0_14 u8t_a0_14) (by decide)
  · have gc8 := ai_ne c8
    refine lv_aload_n hx hb dX8_left_11 rfl (lv_at hl 0 rfl) ?_
    refine va_get (D := (dC, dI)) (ci := 8) (v := .ref a0_15) (C := RX8) (T := TX8) (N := 40) hx hb hts zi_X8_left_8 hown hK hP 0 rfl rfl 15 (by decide) (hts (.fieldLink RX8 20 "WaxTurnsModel" "\x72" "[I") (List.mem_cons_of_mem _ (List.mem_append_left _ (List.mem_of_getElem? (i := 1) rfl)))) (fun _ h9 => h9) rfl dX8_left_12 ?_
    refine lv_iconst (v := 1) hx hb dX8_left_15 zk_iconst_1 ?_
    refine va_iald hx hb hK hP 1 0 rfl rfl (by unfold vp_in; decide +kernel) dX8_left_16 ?_
    refine lv_topi (fun x16 ex16 => ?_)
    have bx16 : (1 : Int) ≤ x16.toInt ∧ x16.toInt ≤ 20 := by rw [ex16]; exact ai_rd bfa0_15.2.1 zq1 zq0 (by decide) (by decide) (by decide)
    refine lv_aload_n hx hb dX8_left_17 rfl (lv_at hl 0 rfl) ?_
    refine va_get (D := (dC, dI)) (ci := 8) (v := .ref a0_17) (C := RX8) (T := TX8) (N := 40) hx hb hts zi_X8_left_8 hown hK hP 0 rfl rfl 17 (by decide) (hts (.fieldLink RX8 26 "WaxTurnsModel" "st" "[I") (List.mem_cons_of_mem _ (List.mem_append_left _ (List.mem_of_getElem? (i := 2) rfl)))) (fun _ h9 => h9) rfl dX8_left_18 ?_
    refine lv_bipush (v := 20) hx hb dX8_left_21 zk_bipush_20 ?_
    refine va_iald hx hb hK hP 2 1 rfl rfl (by unfold vp_in; decide +kernel) dX8_left_23 ?_
    refine lv_topi (fun x23 ex23 => ?_)
    have bx23 : (0 : Int) ≤ x23.toInt ∧ x23.toInt ≤ 19 := by rw [ex23]; exact ai_rd bfa0_17.2.2 zq153 zq154 (by decide) (by decide) (by decide)
    refine lv_isub hx hb dX8_left_24 ?_
    refine lv_topi (fun x24 ex24 => ?_)
    have qx24 : x24.toInt = x16.toInt - x23.toInt := ai_sub ex24 ⟨bx16.1, bx16.2⟩ ⟨bx23.1, bx23.2⟩ (by decide) (by decide)
    have bx24 : (-18 : Int) ≤ x24.toInt ∧ x24.toInt ≤ 20 := ⟨by rw [qx24]; exact Int.sub_le_sub bx16.1 bx23.2, by rw [qx24]; exact Int.sub_le_sub bx16.2 bx23.1⟩
    refine lv_goto (tgt := 33) hx hb dX8_left_25 (by decide) ?_
    exact W.iret (v := x24) hx hb hr (fun t ht hW => ⟨⟨x24, (), rfl, ⟨bx24.1, bx24.2⟩, v1na0_0, v1na0_11, by rw [ht]; exact hP, va_K.moved hW.alike hK, hD⟩, hS.F ht⟩) hS.2.2 dX8_left_33

set_option maxHeartbeats 4000000 in
set_option maxRecDepth 100000 in
theorem c_X8_caught (l : Launch) (dC : Nat → ClassId) (dI : Nat → Nat → Nat) (sz : Nat) (a0 : Nat) (a0_0 : Int32) (a0g_1 a0g_2 a0g_3 a0g_4 a0g_5 a0g_6 a0g_7 a0g_8 a0g_9 a0g_10 a0g_12 a0g_13 a0g_15 a0g_16 a0g_18 a0g_19 a0g_20 a0g_21 a0g_22 a0g_23 a0g_24 a0g_25 a0g_26 a0g_27 a0g_28 a0g_29 a0g_30 a0g_31 a0g_32 a0g_33 a0g_34 a0g_35 a0g_36 a0g_37 a0g_38 a0g_39 : Value) (a0_11 : Int32) (a0_14 : Int32) (a0_17 : Nat) (ka0_17 : ClassId) (fa0_17 : Nat → Int32) (ba0_14_l : (1 : Int) ≤ a0_14.toInt) (ba0_14_u : a0_14.toInt ≤ (1 : Int)) (bfa0_17 : ((∀ k : Nat, 0 ≤ k → k ≤ 8 → (0 : Int) ≤ (fa0_17 k).toInt ∧ (fa0_17 k).toInt ≤ 8) ∧ (∀ k : Nat, 19 ≤ k → k ≤ 19 → (0 : Int) ≤ (fa0_17 k).toInt ∧ (fa0_17 k).toInt ≤ 8) ∧ (∀ k : Nat, 20 ≤ k → k ≤ 20 → (0 : Int) ≤ (fa0_17 k).toInt ∧ (fa0_17 k).toInt ≤ 19))) : zm l yX8_caught wsX8_caught ({ frames := 1, cells := 0, slots := 0, locals := 20 }) [.ref a0] dC dI sz [(a0, .inr (8, [Value.int a0_0, a0g_1, a0g_2, a0g_3, a0g_4, a0g_5, a0g_6, a0g_7, a0g_8, a0g_9, a0g_10, Value.int a0_11, a0g_12, a0g_13, Value.int a0_14, a0g_15, a0g_16, Value.ref a0_17, a0g_18, a0g_19, a0g_20, a0g_21, a0g_22, a0g_23, a0g_24, a0g_25, a0g_26, a0g_27, a0g_28, a0g_29, a0g_30, a0g_31, a0g_32, a0g_33, a0g_34, a0g_35, a0g_36, a0g_37, a0g_38, a0g_39])), (a0_17, .inl (ka0_17, 23, .inl (fa0_17)))] [(ka0_17, .int)] (fun A _ => True) (fun A => va_Qi (fun (r : Int32) (_ : Unit) => True) (fun (_ : Unit) (t : State) => ∃ na0_0 : Int32, ∃ na0_11 : Int32, ax_B dC dI A [(a0, .inr (8, [Value.int na0_0, a0g_1, a0g_2, a0g_3, a0g_4, a0g_5, a0g_6, a0g_7, a0g_8, a0g_9, a0g_10, Value.int na0_11, a0g_12, a0g_13, Value.int a0_14, a0g_15, a0g_16, Value.ref a0_17, a0g_18, a0g_19, a0g_20, a0g_21, a0g_22, a0g_23, a0g_24, a0g_25, a0g_26, a0g_27, a0g_28, a0g_29, a0g_30, a0g_31, a0g_32, a0g_33, a0g_34, a0g_35, a0g_36, a0g_37, a0g_38, a0g_39])), (a0_17, .inl (ka0_17, 23, .inl (fa0_17)))] [(ka0_17, .int)] t) A) := by
  refine zh (cc := cX8_caught) (maxL := 1) (ret := (some .int)) zn_RX8 rfl (Nat.le_of_ble_eq_true rfl) (fun p e s m below meth c A ls hx hb hml hr hts (hown : s.vm.findClass RX8 = some m.cls) hlocks hA hS hP hK hD hE (hl : lv_has ls 1 [(0, .ref a0)]) => ?_)
  refine lv_aload_n hx hb dX8_caught_0 rfl (lv_at hl 0 rfl) ?_
  refine va_callv (va_runV (As := []) (rest := []) ⟨hx, hb, hml, hown, hts⟩ (c_X8_good l dC dI s.heap.size a0 a0_0 a0g_1 a0g_2 a0g_3 a0g_4 a0g_5 a0g_6 a0g_7 a0g_8 a0g_9 a0g_10 a0g_12 a0g_13 (Value.int a0_14) a0g_15 a0g_16 (Value.ref a0_17) a0g_18 a0g_19 a0g_20 a0g_21 a0g_22 a0g_23 a0g_24 a0g_25 a0g_26 a0g_27 a0g_28 a0g_29 a0g_30 a0g_31 a0g_32 a0g_33 a0g_34 a0g_35 a0g_36 a0g_37 a0g_38 a0g_39 a0_11 ) (cwV 0 hts gX8_caught_X8_good rfl rfl rfl zd_X8_good ⟨Nat.le_of_ble_eq_true rfl, Nat.le_of_ble_eq_true rfl⟩) ⟨ax_blind (fun _ _ _ _ _ => trivial), zr_8 (zp_K hK) (zp_P1 hP) (q0 := 0) rfl, ax_pre (zp_P1 hP) (zp_K hK) (zp_D1 hD) (fun _ _ => trivial)⟩ rfl rfl hl.1 rfl (lv_room (Nat.le_of_ble_eq_true rfl)) dX8_caught_1 ⟨Nat.le_of_ble_eq_true rfl, Nat.le_of_ble_eq_true rfl⟩) hS (fun q _ h => zp_F1 hD hS hA q h) (zp_F1 hD hS hA) (fun u t H locs ht hvm hw => zx_2 (fun v1na0_0 v1na0_11 hB hz1 hk1 hS1 => zo1 hB ht hP hD hk1 (zp_F1 hD hS hA) hS1 (fun hP hK1 hD hS => ?_)))
  refine lv_aload_n hx hb dX8_caught_4 rfl (lv_at hl 0 rfl) ?_
  refine va_get (D := (dC, dI)) (ci := 8) (v := .int a0_14) (C := RX8) (T := TX8) (N := 40) hx hb hts zi_X8_caught_8 hown hK hP 0 rfl rfl 14 (by decide) (hts (.fieldLink RX8 173 "WaxTurnsModel" "hasGallery" "Z") (List.mem_cons_of_mem _ (List.mem_append_left _ (List.mem_of_getElem? (i := 0) rfl)))) (fun _ h9 => h9) rfl dX8_caught_5 ?_
  refine lv_if_eq (tgt := 21) hx hb dX8_caught_8 (by decide) (fun c8 => ?_) (fun c8 => ?_)
  · have gc8 := ai_eq c8
    have u8t_a0_14 : a0_14.toInt ≤ (0 : Int) := Int.le_trans (Int.le_of_eq gc8) zq6
    have l8t_a0_14 : (1 : Int) ≤ a0_14.toInt := ba0_14_l
    exact absurd (Int.le_trans l8t_a0_14 u8t_a0_14) (by decide)
  · have gc8 := ai_ne c8
    refine lv_aload_n hx hb dX8_caught_11 rfl (lv_at hl 0 rfl) ?_
    refine va_get (D := (dC, dI)) (ci := 8) (v := .ref a0_17) (C := RX8) (T := TX8) (N := 40) hx hb hts zi_X8_caught_8 hown hK hP 0 rfl rfl 17 (by decide) (hts (.fieldLink RX8 26 "WaxTurnsModel" "st" "[I") (List.mem_cons_of_mem _ (List.mem_append_left _ (List.mem_of_getElem? (i := 1) rfl)))) (fun _ h9 => h9) rfl dX8_caught_12 ?_
    refine lv_bipush (v := 22) hx hb dX8_caught_15 zk_bipush_22 ?_
    refine va_iald hx hb hK hP 1 0 rfl rfl (by unfold vp_in; decide +kernel) dX8_caught_17 ?_
    refine lv_topi (fun x17 ex17 => ?_)
    refine lv_goto (tgt := 26) hx hb dX8_caught_18 (by decide) ?_
    exact W.iret (v := x17) hx hb hr (fun t ht hW => ⟨⟨x17, (), rfl, trivial, v1na0_0, v1na0_11, by rw [ht]; exact hP, va_K.moved hW.alike hK, hD⟩, hS.F ht⟩) hS.2.2 dX8_caught_26
end P240_00_safe
section P240_01_safe
set_option maxHeartbeats 4000000 in
set_option maxRecDepth 100000 in
theorem c_X8_turnOf (l : Launch) (dC : Nat → ClassId) (dI : Nat → Nat → Nat) (sz : Nat) (a0 : Nat) (a1 : Int32) (a0_0 : Int32) (a0g_1 a0g_2 a0g_3 a0g_4 a0g_5 a0g_6 a0g_7 a0g_8 a0g_9 a0g_10 a0g_12 a0g_13 a0g_16 a0g_18 a0g_19 a0g_20 a0g_21 a0g_22 a0g_23 a0g_24 a0g_25 a0g_26 a0g_27 a0g_28 a0g_32 a0g_33 a0g_34 a0g_35 a0g_36 a0g_37 a0g_38 a0g_39 : Value) (a0_11 : Int32) (a0_14 : Int32) (a0_15 : Nat) (a0_17 : Nat) (a0_29 : Nat) (a0_30 : Int32) (a0_31 : Int32) (ka0_17 : ClassId) (fa0_17 : Nat → Int32) (ka0_29 : ClassId) (fa0_29 : Nat → Int32) (ka0_15 : ClassId) (fa0_15 : Nat → Int32) (ba0_14_l : (1 : Int) ≤ a0_14.toInt) (ba0_14_u : a0_14.toInt ≤ (1 : Int)) (bfa0_17 : ((∀ k : Nat, 0 ≤ k → k ≤ 8 → (0 : Int) ≤ (fa0_17 k).toInt ∧ (fa0_17 k).toInt ≤ 8) ∧ (∀ k : Nat, 19 ≤ k → k ≤ 19 → (0 : Int) ≤ (fa0_17 k).toInt ∧ (fa0_17 k).toInt ≤ 8) ∧ (∀ k : Nat, 20 ≤ k → k ≤ 20 → (0 : Int) ≤ (fa0_17 k).toInt ∧ (fa0_17 k).toInt ≤ 19))) (bfa0_29 : (∀ k, (0 : Int) ≤ (fa0_29 k).toInt ∧ (fa0_29 k).toInt ≤ 8)) (bfa0_15 : ((∀ k : Nat, 0 ≤ k → k ≤ 0 → (2 : Int) ≤ (fa0_15 k).toInt ∧ (fa0_15 k).toInt ≤ 9) ∧ (∀ k : Nat, 1 ≤ k → k ≤ 1 → (1 : Int) ≤ (fa0_15 k).toInt ∧ (fa0_15 k).toInt ≤ 20) ∧ (∀ k : Nat, 2 ≤ k → k ≤ 2 → (0 : Int) ≤ (fa0_15 k).toInt ∧ (fa0_15 k).toInt ≤ 8) ∧ (∀ k : Nat, 3 ≤ k → k ≤ 3 → (0 : Int) ≤ (fa0_15 k).toInt ∧ (fa0_15 k).toInt ≤ 100) ∧ (∀ k : Nat, 4 ≤ k → k ≤ 4 → (0 : Int) ≤ (fa0_15 k).toInt ∧ (fa0_15 k).toInt ≤ 9) ∧ (∀ k : Nat, 5 ≤ k → k ≤ 5 → (0 : Int) ≤ (fa0_15 k).toInt ∧ (fa0_15 k).toInt ≤ 3) ∧ (∀ k : Nat, 6 ≤ k → k ≤ 6 → (0 : Int) ≤ (fa0_15 k).toInt ∧ (fa0_15 k).toInt ≤ 6) ∧ (∀ k : Nat, 7 ≤ k → k ≤ 9 → (0 : Int) ≤ (fa0_15 k).toInt ∧ (fa0_15 k).toInt ≤ 8) ∧ (∀ k : Nat, 12 ≤ k → k ≤ 29 → (0 : Int) ≤ (fa0_15 k).toInt ∧ (fa0_15 k).toInt ≤ 20) ∧ (∀ k : Nat, 30 ≤ k → k ≤ 35 → (0 : Int) ≤ (fa0_15 k).toInt ∧ (fa0_15 k).toInt ≤ 8) ∧ (∀ k : Nat, 36 ≤ k → k ≤ 47 → (0 : Int) ≤ (fa0_15 k).toInt ∧ (fa0_15 k).toInt ≤ 999))) : zm l yX8_turnOf wsX8_turnOf ({ frames := 2, cells := 0, slots := 0, locals := 44 }) [.ref a0, .int a1] dC dI sz [(a0, .inr (8, [Value.int a0_0, a0g_1, a0g_2, a0g_3, a0g_4, a0g_5, a0g_6, a0g_7, a0g_8, a0g_9, a0g_10, Value.int a0_11, a0g_12, a0g_13, Value.int a0_14, Value.ref a0_15, a0g_16, Value.ref a0_17, a0g_18, a0g_19, a0g_20, a0g_21, a0g_22, a0g_23, a0g_24, a0g_25, a0g_26, a0g_27, a0g_28, Value.ref a0_29, Value.int a0_30, Value.int a0_31, a0g_32, a0g_33, a0g_34, a0g_35, a0g_36, a0g_37, a0g_38, a0g_39])), (a0_17, .inl (ka0_17, 23, .inl (fa0_17))), (a0_29, .inl (ka0_29, 10, .inl (fa0_29))), (a0_15, .inl (ka0_15, 156, .inl (fa0_15)))] [(ka0_17, .int), (ka0_29, .int), (ka0_15, .int)] (fun A _ => True) (fun A => va_Qi (fun (r : Int32) (_ : Unit) => (-1 : Int) ≤ r.toInt ∧ r.toInt ≤ (8 : Int)) (fun (_ : Unit) (t : State) => ∃ na0_0 : Int32, ∃ na0_11 : Int32, ∃ na0_30 : Int32, ∃ na0_31 : Int32, ∃ nfa0_29 : Nat → Int32, (∀ k, (0 : Int) ≤ (nfa0_29 k).toInt ∧ (nfa0_29 k).toInt ≤ 8) ∧ ax_B dC dI A [(a0, .inr (8, [Value.int na0_0, a0g_1, a0g_2, a0g_3, a0g_4, a0g_5, a0g_6, a0g_7, a0g_8, a0g_9, a0g_10, Value.int na0_11, a0g_12, a0g_13, Value.int a0_14, Value.ref a0_15, a0g_16, Value.ref a0_17, a0g_18, a0g_19, a0g_20, a0g_21, a0g_22, a0g_23, a0g_24, a0g_25, a0g_26, a0g_27, a0g_28, Value.ref a0_29, Value.int na0_30, Value.int na0_31, a0g_32, a0g_33, a0g_34, a0g_35, a0g_36, a0g_37, a0g_38, a0g_39])), (a0_17, .inl (ka0_17, 23, .inl (fa0_17))), (a0_29, .inl (ka0_29, 10, .inl (nfa0_29))), (a0_15, .inl (ka0_15, 156, .inl (fa0_15)))] [(ka0_17, .int), (ka0_29, .int), (ka0_15, .int)] t) A) := by
  refine zh (cc := cX8_turnOf) (maxL := 3) (ret := (some .int)) zn_RX8 rfl (Nat.le_of_ble_eq_true rfl) (fun p e s m below meth c A ls hx hb hml hr hts (hown : s.vm.findClass RX8 = some m.cls) hlocks hA hS hP hK hD hE (hl : lv_has ls 3 [(0, .ref a0), (1, .int a1)]) => ?_)
  refine lv_aload_n hx hb dX8_turnOf_0 rfl (lv_at hl 0 rfl) ?_
  refine va_callv (va_runV (As := []) (rest := []) ⟨hx, hb, hml, hown, hts⟩ (c_X8_good l dC dI s.heap.size a0 a0_0 a0g_1 a0g_2 a0g_3 a0g_4 a0g_5 a0g_6 a0g_7 a0g_8 a0g_9 a0g_10 a0g_12 a0g_13 (Value.int a0_14) (Value.ref a0_15) a0g_16 (Value.ref a0_17) a0g_18 a0g_19 a0g_20 a0g_21 a0g_22 a0g_23 a0g_24 a0g_25 a0g_26 a0g_27 a0g_28 (Value.ref a0_29) (Value.int a0_30) (Value.int a0_31) a0g_32 a0g_33 a0g_34 a0g_35 a0g_36 a0g_37 a0g_38 a0g_39 a0_11 ) (cwV 0 hts gX8_turnOf_X8_good rfl rfl rfl zd_X8_good ⟨Nat.le_of_ble_eq_true rfl, Nat.le_of_ble_eq_true rfl⟩) ⟨ax_blind (fun _ _ _ _ _ => trivial), zr_8 (zp_K hK) (zp_P1 hP) (q0 := 0) rfl, ax_pre (zp_P1 hP) (zp_K hK) (zp_D1 hD) (fun _ _ => trivial)⟩ rfl rfl hl.1 rfl (lv_room (Nat.le_of_ble_eq_true rfl)) dX8_turnOf_1 ⟨Nat.le_of_ble_eq_true rfl, Nat.le_of_ble_eq_true rfl⟩) hS (fun q _ h => zp_F1 hD hS hA q h) (zp_F1 hD hS hA) (fun u t H locs ht hvm hw => zx_2 (fun v1na0_0 v1na0_11 hB hz1 hk1 hS1 => zo1 hB ht hP hD hk1 (zp_F1 hD hS hA) hS1 (fun hP hK1 hD hS => ?_)))
  refine lv_aload_n hx hb dX8_turnOf_4 rfl (lv_at hl 0 rfl) ?_
  refine lv_aload_n hx hb dX8_turnOf_5 rfl (lv_at hl 0 rfl) ?_
  refine va_get (D := (dC, dI)) (ci := 8) (v := .int a0_14) (C := RX8) (T := TX8) (N := 40) hx hb hts zi_X8_turnOf_8 hown hK hP 0 rfl rfl 14 (by decide) (hts (.fieldLink RX8 173 "WaxTurnsModel" "hasGallery" "Z") (zm_X8_turnOf_r1 (List.mem_of_getElem? (i := 0) rfl))) (fun _ h9 => h9) rfl dX8_turnOf_6 ?_
  refine lv_iload_n hx hb dX8_turnOf_9 rfl (lv_at hl 1 rfl) ?_
  refine lv_iconst (v := 0) hx hb dX8_turnOf_10 zk_iconst_0 ?_
  refine lv_ldcw (v := 2000000000) hx hb hown (hts (.constant RX8 289 (2000000000)) (zm_X8_turnOf_r1 (List.mem_of_getElem? (i := 1) rfl))) dX8_turnOf_11 ?_
  refine va_calli (va_runS (As := [.int a1, .int 0, .int 2000000000]) (rest := [.int a0_14, .ref a0]) ⟨hx, hb, hml, hown, hts⟩ (c_X8_in l dC dI H.size a1 0 2000000000 ) (va_cwS 3 hts gX8_turnOf_X8_in rfl rfl rfl zd_X8_in.2 ⟨Nat.le_of_ble_eq_true rfl, Nat.le_of_ble_eq_true rfl⟩) ⟨ax_blind (fun _ _ _ _ _ => trivial), ax_pre (zp_P0 hP) (zp_K hK) (zp_D0 hD) (fun _ _ => trivial)⟩ rfl rfl hl.1 rfl (lv_room (Nat.le_of_ble_eq_true rfl)) dX8_turnOf_14 ⟨Nat.le_of_ble_eq_true rfl, Nat.le_of_ble_eq_true rfl⟩) hS (fun q _ h => zp_F0 hD hS hA q h) (zp_F0 hD hS hA) (fun r14 u t H locs ht hvm hw hB hz1 hk1 hS1 => zo0 hB ht hP hD hk1 (zp_F0 hD hS hA) hS1 (fun hP hK1 hD hS => ?_))
  rcases hw with hw | hw
  · obtain ⟨hw, h14⟩ := hw
    subst hw
    have l14k0_a1 : (0 : Int) ≤ a1.toInt := Int.le_trans zq5 h14.1
    have u14k0_a1 : a1.toInt ≤ (2000000000 : Int) := Int.le_trans h14.2 zq73
    refine va_calli (va_runV (As := [.int a0_14, .int 1]) (rest := []) ⟨hx, hb, hml, hown, hts⟩ (c_X8_whyB l dC dI H.size a0 a0_14 1 (Value.int v1na0_0) a0g_1 a0g_2 a0g_3 a0g_4 a0g_5 a0g_6 a0g_7 a0g_8 a0g_9 a0g_10 (Value.int v1na0_11) a0g_12 a0g_13 (Value.int a0_14) (Value.ref a0_15) a0g_16 (Value.ref a0_17) a0g_18 a0g_19 a0g_20 a0g_21 a0g_22 a0g_23 a0g_24 a0g_25 a0g_26 a0g_27 a0g_28 (Value.ref a0_29) (Value.int a0_30) (Value.int a0_31) a0g_32 a0g_33 a0g_34 a0g_35 a0g_36 a0g_37 a0g_38 a0g_39 (Int.le_trans zq4 ba0_14_l) ba0_14_u (Int.le_trans zq4 zq1) zq0) (cwV 2 hts gX8_turnOf_X8_why rfl rfl rfl zd_X8_why ⟨Nat.le_of_ble_eq_true rfl, Nat.le_of_ble_eq_true rfl⟩) ⟨ax_blind (fun _ _ _ _ _ => trivial), zr_8 (zp_K hK) (zp_P1 hP) (q0 := 0) rfl, ax_pre (zp_P1 hP) (zp_K hK) (zp_D1 hD) (fun _ _ => trivial)⟩ rfl rfl hl.1 rfl (lv_room (Nat.le_of_ble_eq_true rfl)) dX8_turnOf_17 ⟨Nat.le_of_ble_eq_true rfl, Nat.le_of_ble_eq_true rfl⟩) hS (fun q _ h => zp_F1 hD hS hA q h) (zp_F1 hD hS hA) (fun r17 u t H locs ht hvm hw hB hz1 hk1 hS1 => zo1 hB ht hP hD hk1 (zp_F1 hD hS hA) hS1 (fun hP hK1 hD hS => ?_))
    rcases hw with hw | hw | hw
    · obtain ⟨hw, h17_0, h17_1, h17_2, h17_3⟩ := hw
      subst hw
      have l17k0_a0_14 : (1 : Int) ≤ a0_14.toInt := ba0_14_l
      have u17k0_a0_14 : a0_14.toInt ≤ (1 : Int) := ba0_14_u
      exact absurd h17_3 (by decide)
    · obtain ⟨hw, h17_0, h17_1⟩ := hw
      subst hw
      have l17k1_a0_14 : (1 : Int) ≤ a0_14.toInt := ba0_14_l
      have u17k1_a0_14 : a0_14.toInt ≤ (0 : Int) := h17_1
      exact absurd (Int.le_trans l17k1_a0_14 u17k1_a0_14) (by decide)
    · obtain ⟨hw, h17_0, h17_1, h17_2, h17_3⟩ := hw
      subst hw
      have l17k2_a0_14 : (1 : Int) ≤ a0_14.toInt := ba0_14_l
      have u17k2_a0_14 : a0_14.toInt ≤ (1 : Int) := ba0_14_u
      refine lv_istore_n (lv' := [(2, .int 0), (0, .ref a0), (1, .int a1)]) hx hb dX8_turnOf_20 rfl hl (by decide) rfl (fun ls hl => ?_)
      refine lv_iload_n hx hb dX8_turnOf_21 rfl (lv_at hl 0 rfl) ?_
      refine lv_if_eq (tgt := 31) hx hb dX8_turnOf_22 (by decide) (fun _ => ?_) (fun c22 => absurd (by decide +kernel) c22)
      refine lv_aload_n hx hb dX8_turnOf_31 rfl (lv_at hl 1 rfl) ?_
      have hKc := hK.sub (tys' := [(ka0_17, .int), (ka0_29, .int), (ka0_15, .int)]) [0, 1, 2] rfl
      refine va_callv (va_runV (As := []) (rest := []) ⟨hx, hb, hml, hown, hts⟩ (c_X8_goRound l dC dI H.size a0 (Value.int v1na0_0) a0g_1 a0g_2 a0g_3 a0g_4 a0g_5 a0g_6 a0g_7 a0g_8 a0g_9 a0g_10 (Value.int v1na0_11) a0g_12 a0g_13 (Value.int a0_14) a0g_16 a0g_18 a0g_19 a0g_20 a0g_21 a0g_22 a0g_23 a0g_24 a0g_25 a0g_26 a0g_27 a0g_28 a0g_32 a0g_33 a0g_34 a0g_35 a0g_36 a0g_37 a0g_38 a0g_39 a0_15 a0_17 a0_29 a0_30 a0_31 ka0_17 fa0_17 ka0_29 fa0_29 ka0_15 fa0_15 bfa0_17 bfa0_29 bfa0_15) (cwV 0 hts gX8_turnOf_X8_goRound rfl rfl rfl zd_X8_goRound ⟨Nat.le_of_ble_eq_true rfl, Nat.le_of_ble_eq_true rfl⟩) ⟨ax_blind (fun _ _ _ _ _ => trivial), zr_8 hKc (zp_P4 hP) (q0 := 0) rfl, ax_pre (zp_P4 hP) hKc (zp_D4 hD) (fun _ _ => trivial)⟩ rfl rfl hl.1 rfl (lv_room (Nat.le_of_ble_eq_true rfl)) dX8_turnOf_32 ⟨Nat.le_of_ble_eq_true rfl, Nat.le_of_ble_eq_true rfl⟩) hS (fun q _ h => zp_F4 hD hS hA q h) (zp_F4 hD hS hA) (fun u t H locs ht hvm hw => zx_3 (fun v32na0_30 v32na0_31 v32nfa0_29 => zy_2 (fun bv32nfa0_29 hraw32_0 hB hz1 hk1 hS1 => zo4 hB ht hP hD hk1 (zp_F4 hD hS hA) hS1 (fun hP hK1 hD hS => ?_))))
      refine lv_aload_n hx hb dX8_turnOf_35 rfl (lv_at hl 1 rfl) ?_
      refine lv_iload_n hx hb dX8_turnOf_36 rfl (lv_at hl 2 rfl) ?_
      refine zc_cutc (wc := [(a0, .inr (8, [Value.int v1na0_0, a0g_1, a0g_2, a0g_3, a0g_4, a0g_5, a0g_6, a0g_7, a0g_8, a0g_9, a0g_10, Value.int v1na0_11, a0g_12, a0g_13, Value.int a0_14, Value.ref a0_15, a0g_16, Value.ref a0_17, a0g_18, a0g_19, a0g_20, a0g_21, a0g_22, a0g_23, a0g_24, a0g_25, a0g_26, a0g_27, a0g_28, Value.ref a0_29, Value.int v32na0_30, Value.int v32na0_31, a0g_32, a0g_33, a0g_34, a0g_35, a0g_36, a0g_37, a0g_38, a0g_39])), (a0_29, .inl (ka0_29, 10, .inl (v32nfa0_29)))]) hP hD hS hA [0, 2] (by decide +kernel) rfl (fun hPc hDc hFc hCc => ?_)
      have hKc := hK.sub (tys' := [(ka0_29, .int)]) [1] rfl
      refine va_calli (va_runV (As := [.int a1]) (rest := []) ⟨hx, hb, hml, hown, hts⟩ (c_X8_turnAt l dC dI H.size a0 a1 (Value.int v1na0_0) a0g_1 a0g_2 a0g_3 a0g_4 a0g_5 a0g_6 a0g_7 a0g_8 a0g_9 a0g_10 (Value.int v1na0_11) a0g_12 a0g_13 (Value.int a0_14) (Value.ref a0_15) a0g_16 (Value.ref a0_17) a0g_18 a0g_19 a0g_20 a0g_21 a0g_22 a0g_23 a0g_24 a0g_25 a0g_26 a0g_27 a0g_28 a0g_32 a0g_33 a0g_34 a0g_35 a0g_36 a0g_37 a0g_38 a0g_39 a0_29 v32na0_30 v32na0_31 ka0_29 v32nfa0_29 l14k0_a1 (by omega : (0 : Int) ≤ v32na0_30.toInt) (by omega : v32na0_30.toInt ≤ (8 : Int)) (by omega : (1 : Int) ≤ v32na0_31.toInt) (by omega : v32na0_31.toInt ≤ (9 : Int)) bv32nfa0_29 (by omega)) (cwV 1 hts gX8_turnOf_X8_turnAt rfl rfl rfl zd_X8_turnAt ⟨Nat.le_of_ble_eq_true rfl, Nat.le_of_ble_eq_true rfl⟩) ⟨ax_blind (fun _ _ _ _ _ => trivial), zr_8 hKc hPc (q0 := 0) rfl, ax_pre hPc hKc hDc (fun _ _ => trivial)⟩ rfl rfl hl.1 rfl (lv_room (Nat.le_of_ble_eq_true rfl)) dX8_turnOf_37 ⟨Nat.le_of_ble_eq_true rfl, Nat.le_of_ble_eq_true rfl⟩) hS (fun q _ h => hFc q h) hFc (fun r37 u t H locs ht hvm hw hB hz1 hk1 hS1 => zo hB ht hS1 (fun hP1 hK1 hD1 hS => ?_))
      refine zc_backc (w := [(a0, .inr (8, [Value.int v1na0_0, a0g_1, a0g_2, a0g_3, a0g_4, a0g_5, a0g_6, a0g_7, a0g_8, a0g_9, a0g_10, Value.int v1na0_11, a0g_12, a0g_13, Value.int a0_14, Value.ref a0_15, a0g_16, Value.ref a0_17, a0g_18, a0g_19, a0g_20, a0g_21, a0g_22, a0g_23, a0g_24, a0g_25, a0g_26, a0g_27, a0g_28, Value.ref a0_29, Value.int v32na0_30, Value.int v32na0_31, a0g_32, a0g_33, a0g_34, a0g_35, a0g_36, a0g_37, a0g_38, a0g_39])), (a0_17, .inl (ka0_17, 23, .inl (fa0_17))), (a0_29, .inl (ka0_29, 10, .inl (v32nfa0_29))), (a0_15, .inl (ka0_15, 156, .inl (fa0_15)))]) hP hD hCc hk1 hFc hP1 hD1 [.inr 0, .inl 1, .inr 1, .inl 3] (by decide +kernel) rfl (fun hP hD => ?_)
      have hw : (0 : Int) ≤ r37.toInt ∧ r37.toInt ≤ (8 : Int) := hw
      obtain ⟨h37_0, h37_1⟩ := hw
      exact W.iret (v := r37) hx hb hr (fun t ht hW => ⟨⟨r37, (), rfl, ⟨(Int.le_trans zq69 h37_0), h37_1⟩, v1na0_0, v1na0_11, v32na0_30, v32na0_31, v32nfa0_29, bv32nfa0_29, by rw [ht]; exact hP, va_K.moved hW.alike hK, hD⟩, hS.F ht⟩) hS.2.2 dX8_turnOf_40
  · obtain ⟨hw, h14⟩ := hw
    subst hw
    refine va_calli (va_runV (As := [.int a0_14, .int 0]) (rest := []) ⟨hx, hb, hml, hown, hts⟩ (c_X8_whyB l dC dI H.size a0 a0_14 0 (Value.int v1na0_0) a0g_1 a0g_2 a0g_3 a0g_4 a0g_5 a0g_6 a0g_7 a0g_8 a0g_9 a0g_10 (Value.int v1na0_11) a0g_12 a0g_13 (Value.int a0_14) (Value.ref a0_15) a0g_16 (Value.ref a0_17) a0g_18 a0g_19 a0g_20 a0g_21 a0g_22 a0g_23 a0g_24 a0g_25 a0g_26 a0g_27 a0g_28 (Value.ref a0_29) (Value.int a0_30) (Value.int a0_31) a0g_32 a0g_33 a0g_34 a0g_35 a0g_36 a0g_37 a0g_38 a0g_39 (Int.le_trans zq4 ba0_14_l) ba0_14_u zq5 (Int.le_trans zq6 zq4)) (cwV 2 hts gX8_turnOf_X8_why rfl rfl rfl zd_X8_why ⟨Nat.le_of_ble_eq_true rfl, Nat.le_of_ble_eq_true rfl⟩) ⟨ax_blind (fun _ _ _ _ _ => trivial), zr_8 (zp_K hK) (zp_P1 hP) (q0 := 0) rfl, ax_pre (zp_P1 hP) (zp_K hK) (zp_D1 hD) (fun _ _ => trivial)⟩ rfl rfl hl.1 rfl (lv_room (Nat.le_of_ble_eq_true rfl)) dX8_turnOf_17 ⟨Nat.le_of_ble_eq_true rfl, Nat.le_of_ble_eq_true rfl⟩) hS (fun q _ h => zp_F1 hD hS hA q h) (zp_F1 hD hS hA) (fun r17 u t H locs ht hvm hw hB hz1 hk1 hS1 => zo1 hB ht hP hD hk1 (zp_F1 hD hS hA) hS1 (fun hP hK1 hD hS => ?_))
    rcases hw with hw | hw | hw
    · obtain ⟨hw, h17_0, h17_1, h17_2, h17_3⟩ := hw
      subst hw
      have l17k0_a0_14 : (1 : Int) ≤ a0_14.toInt := ba0_14_l
      have u17k0_a0_14 : a0_14.toInt ≤ (1 : Int) := ba0_14_u
      refine lv_istore_n (lv' := [(2, .int 2), (0, .ref a0), (1, .int a1)]) hx hb dX8_turnOf_20 rfl hl (by decide) rfl (fun ls hl => ?_)
      refine lv_iload_n hx hb dX8_turnOf_21 rfl (lv_at hl 0 rfl) ?_
      refine lv_if_eq (tgt := 31) hx hb dX8_turnOf_22 (by decide) (fun c22 => absurd c22 (by decide +kernel)) (fun _ => ?_)
      refine lv_aload_n hx hb dX8_turnOf_25 rfl (lv_at hl 1 rfl) ?_
      refine lv_iload_n hx hb dX8_turnOf_26 rfl (lv_at hl 0 rfl) ?_
      refine va_calli (va_runV (As := [.int 2]) (rest := []) ⟨hx, hb, hml, hown, hts⟩ (c_X8_no l dC dI H.size a0 2 (Value.int v1na0_0) a0g_1 a0g_2 a0g_3 a0g_4 a0g_5 a0g_6 a0g_7 a0g_8 a0g_9 a0g_10 a0g_12 a0g_13 (Value.int a0_14) (Value.ref a0_15) a0g_16 (Value.ref a0_17) a0g_18 a0g_19 a0g_20 a0g_21 a0g_22 a0g_23 a0g_24 a0g_25 a0g_26 a0g_27 a0g_28 (Value.ref a0_29) (Value.int a0_30) (Value.int a0_31) a0g_32 a0g_33 a0g_34 a0g_35 a0g_36 a0g_37 a0g_38 a0g_39 v1na0_11 ) (cwV 1 hts gX8_turnOf_X8_no rfl rfl rfl zd_X8_no ⟨Nat.le_of_ble_eq_true rfl, Nat.le_of_ble_eq_true rfl⟩) ⟨ax_blind (fun _ _ _ _ _ => trivial), zr_8 (zp_K hK) (zp_P1 hP) (q0 := 0) rfl, ax_pre (zp_P1 hP) (zp_K hK) (zp_D1 hD) (fun _ _ => trivial)⟩ rfl rfl hl.1 rfl (lv_room (Nat.le_of_ble_eq_true rfl)) dX8_turnOf_27 ⟨Nat.le_of_ble_eq_true rfl, Nat.le_of_ble_eq_true rfl⟩) hS (fun q _ h => zp_F1 hD hS hA q h) (zp_F1 hD hS hA) (fun r27 u t H locs ht hvm hw => zx_1 (fun v27na0_11 hB hz1 hk1 hS1 => zo1 hB ht hP hD hk1 (zp_F1 hD hS hA) hS1 (fun hP hK1 hD hS => ?_)))
      have hw : r27 = (-1) := hw
      have hw := hw.symm
      subst hw
      exact W.iret (v := (-1)) hx hb hr (fun t ht hW => ⟨⟨(-1), (), rfl, ⟨zq70, (Int.le_trans zq71 zq72)⟩, v1na0_0, v27na0_11, a0_30, a0_31, fa0_29, bfa0_29, by rw [ht]; exact hP, va_K.moved hW.alike hK, hD⟩, hS.F ht⟩) hS.2.2 dX8_turnOf_30
    · obtain ⟨hw, h17_0, h17_1⟩ := hw
      subst hw
      have l17k1_a0_14 : (1 : Int) ≤ a0_14.toInt := ba0_14_l
      have u17k1_a0_14 : a0_14.toInt ≤ (0 : Int) := h17_1
      exact absurd (Int.le_trans l17k1_a0_14 u17k1_a0_14) (by decide)
    · obtain ⟨hw, h17_0, h17_1, h17_2, h17_3⟩ := hw
      subst hw
      have l17k2_a0_14 : (1 : Int) ≤ a0_14.toInt := ba0_14_l
      have u17k2_a0_14 : a0_14.toInt ≤ (1 : Int) := ba0_14_u
      exact absurd h17_2 (by decide)

set_option maxHeartbeats 4000000 in
set_option maxRecDepth 100000 in
theorem c_X8_settles (l : Launch) (dC : Nat → ClassId) (dI : Nat → Nat → Nat) (sz : Nat) (a0 : Nat) (a0_0 : Int32) (a0g_1 a0g_2 a0g_3 a0g_4 a0g_5 a0g_6 a0g_7 a0g_8 a0g_9 a0g_10 a0g_12 a0g_13 a0g_16 a0g_18 a0g_19 a0g_20 a0g_21 a0g_22 a0g_23 a0g_24 a0g_25 a0g_26 a0g_27 a0g_28 a0g_32 a0g_33 a0g_34 a0g_35 a0g_36 a0g_37 a0g_38 a0g_39 : Value) (a0_11 : Int32) (a0_14 : Int32) (a0_15 : Nat) (a0_17 : Nat) (a0_29 : Nat) (a0_30 : Int32) (a0_31 : Int32) (ka0_17 : ClassId) (fa0_17 : Nat → Int32) (ka0_29 : ClassId) (fa0_29 : Nat → Int32) (ka0_15 : ClassId) (fa0_15 : Nat → Int32) (ba0_14_l : (1 : Int) ≤ a0_14.toInt) (ba0_14_u : a0_14.toInt ≤ (1 : Int)) (bfa0_17 : ((∀ k : Nat, 0 ≤ k → k ≤ 8 → (0 : Int) ≤ (fa0_17 k).toInt ∧ (fa0_17 k).toInt ≤ 8) ∧ (∀ k : Nat, 19 ≤ k → k ≤ 19 → (0 : Int) ≤ (fa0_17 k).toInt ∧ (fa0_17 k).toInt ≤ 8) ∧ (∀ k : Nat, 20 ≤ k → k ≤ 20 → (0 : Int) ≤ (fa0_17 k).toInt ∧ (fa0_17 k).toInt ≤ 19))) (bfa0_29 : (∀ k, (0 : Int) ≤ (fa0_29 k).toInt ∧ (fa0_29 k).toInt ≤ 8)) (bfa0_15 : ((∀ k : Nat, 0 ≤ k → k ≤ 0 → (2 : Int) ≤ (fa0_15 k).toInt ∧ (fa0_15 k).toInt ≤ 9) ∧ (∀ k : Nat, 1 ≤ k → k ≤ 1 → (1 : Int) ≤ (fa0_15 k).toInt ∧ (fa0_15 k).toInt ≤ 20) ∧ (∀ k : Nat, 2 ≤ k → k ≤ 2 → (0 : Int) ≤ (fa0_15 k).toInt ∧ (fa0_15 k).toInt ≤ 8) ∧ (∀ k : Nat, 3 ≤ k → k ≤ 3 → (0 : Int) ≤ (fa0_15 k).toInt ∧ (fa0_15 k).toInt ≤ 100) ∧ (∀ k : Nat, 4 ≤ k → k ≤ 4 → (0 : Int) ≤ (fa0_15 k).toInt ∧ (fa0_15 k).toInt ≤ 9) ∧ (∀ k : Nat, 5 ≤ k → k ≤ 5 → (0 : Int) ≤ (fa0_15 k).toInt ∧ (fa0_15 k).toInt ≤ 3) ∧ (∀ k : Nat, 6 ≤ k → k ≤ 6 → (0 : Int) ≤ (fa0_15 k).toInt ∧ (fa0_15 k).toInt ≤ 6) ∧ (∀ k : Nat, 7 ≤ k → k ≤ 9 → (0 : Int) ≤ (fa0_15 k).toInt ∧ (fa0_15 k).toInt ≤ 8) ∧ (∀ k : Nat, 12 ≤ k → k ≤ 29 → (0 : Int) ≤ (fa0_15 k).toInt ∧ (fa0_15 k).toInt ≤ 20) ∧ (∀ k : Nat, 30 ≤ k → k ≤ 35 → (0 : Int) ≤ (fa0_15 k).toInt ∧ (fa0_15 k).toInt ≤ 8) ∧ (∀ k : Nat, 36 ≤ k → k ≤ 47 → (0 : Int) ≤ (fa0_15 k).toInt ∧ (fa0_15 k).toInt ≤ 999))) : zm l yX8_settles wsX8_settles ({ frames := 2, cells := 0, slots := 0, locals := 44 }) [.ref a0] dC dI sz [(a0, .inr (8, [Value.int a0_0, a0g_1, a0g_2, a0g_3, a0g_4, a0g_5, a0g_6, a0g_7, a0g_8, a0g_9, a0g_10, Value.int a0_11, a0g_12, a0g_13, Value.int a0_14, Value.ref a0_15, a0g_16, Value.ref a0_17, a0g_18, a0g_19, a0g_20, a0g_21, a0g_22, a0g_23, a0g_24, a0g_25, a0g_26, a0g_27, a0g_28, Value.ref a0_29, Value.int a0_30, Value.int a0_31, a0g_32, a0g_33, a0g_34, a0g_35, a0g_36, a0g_37, a0g_38, a0g_39])), (a0_17, .inl (ka0_17, 23, .inl (fa0_17))), (a0_29, .inl (ka0_29, 10, .inl (fa0_29))), (a0_15, .inl (ka0_15, 156, .inl (fa0_15)))] [(ka0_17, .int), (ka0_29, .int), (ka0_15, .int)] (fun A _ => True) (fun A => va_Qi (fun (r : Int32) (_ : Unit) => (0 : Int) ≤ r.toInt ∧ r.toInt ≤ (8 : Int)) (fun (_ : Unit) (t : State) => ∃ na0_0 : Int32, ∃ na0_11 : Int32, ∃ na0_30 : Int32, ∃ na0_31 : Int32, ∃ nfa0_29 : Nat → Int32, (∀ k, (0 : Int) ≤ (nfa0_29 k).toInt ∧ (nfa0_29 k).toInt ≤ 8) ∧ ax_B dC dI A [(a0, .inr (8, [Value.int na0_0, a0g_1, a0g_2, a0g_3, a0g_4, a0g_5, a0g_6, a0g_7, a0g_8, a0g_9, a0g_10, Value.int na0_11, a0g_12, a0g_13, Value.int a0_14, Value.ref a0_15, a0g_16, Value.ref a0_17, a0g_18, a0g_19, a0g_20, a0g_21, a0g_22, a0g_23, a0g_24, a0g_25, a0g_26, a0g_27, a0g_28, Value.ref a0_29, Value.int na0_30, Value.int na0_31, a0g_32, a0g_33, a0g_34, a0g_35, a0g_36, a0g_37, a0g_38, a0g_39])), (a0_17, .inl (ka0_17, 23, .inl (fa0_17))), (a0_29, .inl (ka0_29, 10, .inl (nfa0_29))), (a0_15, .inl (ka0_15, 156, .inl (fa0_15)))] [(ka0_17, .int), (ka0_29, .int), (ka0_15, .int)] t) A) := by
  refine zh (cc := cX8_settles) (maxL := 1) (ret := (some .int)) zn_RX8 rfl (Nat.le_of_ble_eq_true rfl) (fun p e s m below meth c A ls hx hb hml hr hts (hown : s.vm.findClass RX8 = some m.cls) hlocks hA hS hP hK hD hE (hl : lv_has ls 1 [(0, .ref a0)]) => ?_)
  refine lv_aload_n hx hb dX8_settles_0 rfl (lv_at hl 0 rfl) ?_
  refine va_callv (va_runV (As := []) (rest := []) ⟨hx, hb, hml, hown, hts⟩ (c_X8_good l dC dI s.heap.size a0 a0_0 a0g_1 a0g_2 a0g_3 a0g_4 a0g_5 a0g_6 a0g_7 a0g_8 a0g_9 a0g_10 a0g_12 a0g_13 (Value.int a0_14) (Value.ref a0_15) a0g_16 (Value.ref a0_17) a0g_18 a0g_19 a0g_20 a0g_21 a0g_22 a0g_23 a0g_24 a0g_25 a0g_26 a0g_27 a0g_28 (Value.ref a0_29) (Value.int a0_30) (Value.int a0_31) a0g_32 a0g_33 a0g_34 a0g_35 a0g_36 a0g_37 a0g_38 a0g_39 a0_11 ) (cwV 0 hts gX8_settles_X8_good rfl rfl rfl zd_X8_good ⟨Nat.le_of_ble_eq_true rfl, Nat.le_of_ble_eq_true rfl⟩) ⟨ax_blind (fun _ _ _ _ _ => trivial), zr_8 (zp_K hK) (zp_P1 hP) (q0 := 0) rfl, ax_pre (zp_P1 hP) (zp_K hK) (zp_D1 hD) (fun _ _ => trivial)⟩ rfl rfl hl.1 rfl (lv_room (Nat.le_of_ble_eq_true rfl)) dX8_settles_1 ⟨Nat.le_of_ble_eq_true rfl, Nat.le_of_ble_eq_true rfl⟩) hS (fun q _ h => zp_F1 hD hS hA q h) (zp_F1 hD hS hA) (fun u t H locs ht hvm hw => zx_2 (fun v1na0_0 v1na0_11 hB hz1 hk1 hS1 => zo1 hB ht hP hD hk1 (zp_F1 hD hS hA) hS1 (fun hP hK1 hD hS => ?_)))
  refine lv_aload_n hx hb dX8_settles_4 rfl (lv_at hl 0 rfl) ?_
  refine va_get (D := (dC, dI)) (ci := 8) (v := .int a0_14) (C := RX8) (T := TX8) (N := 40) hx hb hts zi_X8_settles_8 hown hK hP 0 rfl rfl 14 (by decide) (hts (.fieldLink RX8 173 "WaxTurnsModel" "hasGallery" "Z") (zm_X8_settles_r1 (List.mem_of_getElem? (i := 0) rfl))) (fun _ h9 => h9) rfl dX8_settles_5 ?_
  refine lv_if_ne (tgt := 17) hx hb dX8_settles_8 (by decide) (fun c8 => ?_) (fun c8 => ?_)
  · have gc8 := ai_ne c8
    refine lv_aload_n hx hb dX8_settles_17 rfl (lv_at hl 0 rfl) ?_
    have hKc := hK.sub (tys' := [(ka0_17, .int), (ka0_29, .int), (ka0_15, .int)]) [0, 1, 2] rfl
    refine va_callv (va_runV (As := []) (rest := []) ⟨hx, hb, hml, hown, hts⟩ (c_X8_goRound l dC dI H.size a0 (Value.int v1na0_0) a0g_1 a0g_2 a0g_3 a0g_4 a0g_5 a0g_6 a0g_7 a0g_8 a0g_9 a0g_10 (Value.int v1na0_11) a0g_12 a0g_13 (Value.int a0_14) a0g_16 a0g_18 a0g_19 a0g_20 a0g_21 a0g_22 a0g_23 a0g_24 a0g_25 a0g_26 a0g_27 a0g_28 a0g_32 a0g_33 a0g_34 a0g_35 a0g_36 a0g_37 a0g_38 a0g_39 a0_15 a0_17 a0_29 a0_30 a0_31 ka0_17 fa0_17 ka0_29 fa0_29 ka0_15 fa0_15 bfa0_17 bfa0_29 bfa0_15) (cwV 0 hts gX8_settles_X8_goRound rfl rfl rfl zd_X8_goRound ⟨Nat.le_of_ble_eq_true rfl, Nat.le_of_ble_eq_true rfl⟩) ⟨ax_blind (fun _ _ _ _ _ => trivial), zr_8 hKc (zp_P4 hP) (q0 := 0) rfl, ax_pre (zp_P4 hP) hKc (zp_D4 hD) (fun _ _ => trivial)⟩ rfl rfl hl.1 rfl (lv_room (Nat.le_of_ble_eq_true rfl)) dX8_settles_18 ⟨Nat.le_of_ble_eq_true rfl, Nat.le_of_ble_eq_true rfl⟩) hS (fun q _ h => zp_F4 hD hS hA q h) (zp_F4 hD hS hA) (fun u t H locs ht hvm hw => zx_3 (fun v18na0_30 v18na0_31 v18nfa0_29 => zy_2 (fun bv18nfa0_29 hraw18_0 hB hz1 hk1 hS1 => zo4 hB ht hP hD hk1 (zp_F4 hD hS hA) hS1 (fun hP hK1 hD hS => ?_))))
    refine lv_aload_n hx hb dX8_settles_21 rfl (lv_at hl 0 rfl) ?_
    refine va_get (D := (dC, dI)) (ci := 8) (v := .int v18na0_30) (C := RX8) (T := TX8) (N := 40) hx hb hts zi_X8_settles_8 hown hK hP 0 rfl rfl 30 (by decide) (hts (.fieldLink RX8 283 "WaxTurnsModel" "settled" "I") (zm_X8_settles_r1 (List.mem_of_getElem? (i := 1) rfl))) (fun _ h9 => h9) rfl dX8_settles_22 ?_
    exact W.iret (v := v18na0_30) hx hb hr (fun t ht hW => ⟨⟨v18na0_30, (), rfl, ⟨(by omega : (0 : Int) ≤ v18na0_30.toInt), (by omega : v18na0_30.toInt ≤ (8 : Int))⟩, v1na0_0, v1na0_11, v18na0_30, v18na0_31, v18nfa0_29, bv18nfa0_29, by rw [ht]; exact hP, va_K.moved hW.alike hK, hD⟩, hS.F ht⟩) hS.2.2 dX8_settles_25
  · have gc8 := ai_eq c8
    have u8f_a0_14 : a0_14.toInt ≤ (0 : Int) := Int.le_trans (Int.le_of_eq gc8) zq6
    have l8f_a0_14 : (1 : Int) ≤ a0_14.toInt := ba0_14_l
    exact absurd (Int.le_trans l8f_a0_14 u8f_a0_14) (by decide)

set_option maxHeartbeats 4000000 in
set_option maxRecDepth 100000 in
theorem c_X8_round (l : Launch) (dC : Nat → ClassId) (dI : Nat → Nat → Nat) (sz : Nat) (a0 : Nat) (a0_0 : Int32) (a0g_1 a0g_2 a0g_3 a0g_4 a0g_5 a0g_6 a0g_7 a0g_8 a0g_9 a0g_10 a0g_12 a0g_13 a0g_16 a0g_18 a0g_19 a0g_20 a0g_21 a0g_22 a0g_23 a0g_24 a0g_25 a0g_26 a0g_27 a0g_28 a0g_32 a0g_33 a0g_34 a0g_35 a0g_36 a0g_37 a0g_38 a0g_39 : Value) (a0_11 : Int32) (a0_14 : Int32) (a0_15 : Nat) (a0_17 : Nat) (a0_29 : Nat) (a0_30 : Int32) (a0_31 : Int32) (ka0_17 : ClassId) (fa0_17 : Nat → Int32) (ka0_29 : ClassId) (fa0_29 : Nat → Int32) (ka0_15 : ClassId) (fa0_15 : Nat → Int32) (ba0_14_l : (1 : Int) ≤ a0_14.toInt) (ba0_14_u : a0_14.toInt ≤ (1 : Int)) (bfa0_17 : ((∀ k : Nat, 0 ≤ k → k ≤ 8 → (0 : Int) ≤ (fa0_17 k).toInt ∧ (fa0_17 k).toInt ≤ 8) ∧ (∀ k : Nat, 19 ≤ k → k ≤ 19 → (0 : Int) ≤ (fa0_17 k).toInt ∧ (fa0_17 k).toInt ≤ 8) ∧ (∀ k : Nat, 20 ≤ k → k ≤ 20 → (0 : Int) ≤ (fa0_17 k).toInt ∧ (fa0_17 k).toInt ≤ 19))) (bfa0_29 : (∀ k, (0 : Int) ≤ (fa0_29 k).toInt ∧ (fa0_29 k).toInt ≤ 8)) (bfa0_15 : ((∀ k : Nat, 0 ≤ k → k ≤ 0 → (2 : Int) ≤ (fa0_15 k).toInt ∧ (fa0_15 k).toInt ≤ 9) ∧ (∀ k : Nat, 1 ≤ k → k ≤ 1 → (1 : Int) ≤ (fa0_15 k).toInt ∧ (fa0_15 k).toInt ≤ 20) ∧ (∀ k : Nat, 2 ≤ k → k ≤ 2 → (0 : Int) ≤ (fa0_15 k).toInt ∧ (fa0_15 k).toInt ≤ 8) ∧ (∀ k : Nat, 3 ≤ k → k ≤ 3 → (0 : Int) ≤ (fa0_15 k).toInt ∧ (fa0_15 k).toInt ≤ 100) ∧ (∀ k : Nat, 4 ≤ k → k ≤ 4 → (0 : Int) ≤ (fa0_15 k).toInt ∧ (fa0_15 k).toInt ≤ 9) ∧ (∀ k : Nat, 5 ≤ k → k ≤ 5 → (0 : Int) ≤ (fa0_15 k).toInt ∧ (fa0_15 k).toInt ≤ 3) ∧ (∀ k : Nat, 6 ≤ k → k ≤ 6 → (0 : Int) ≤ (fa0_15 k).toInt ∧ (fa0_15 k).toInt ≤ 6) ∧ (∀ k : Nat, 7 ≤ k → k ≤ 9 → (0 : Int) ≤ (fa0_15 k).toInt ∧ (fa0_15 k).toInt ≤ 8) ∧ (∀ k : Nat, 12 ≤ k → k ≤ 29 → (0 : Int) ≤ (fa0_15 k).toInt ∧ (fa0_15 k).toInt ≤ 20) ∧ (∀ k : Nat, 30 ≤ k → k ≤ 35 → (0 : Int) ≤ (fa0_15 k).toInt ∧ (fa0_15 k).toInt ≤ 8) ∧ (∀ k : Nat, 36 ≤ k → k ≤ 47 → (0 : Int) ≤ (fa0_15 k).toInt ∧ (fa0_15 k).toInt ≤ 999))) : zm l yX8_round wsX8_round ({ frames := 2, cells := 0, slots := 0, locals := 44 }) [.ref a0] dC dI sz [(a0, .inr (8, [Value.int a0_0, a0g_1, a0g_2, a0g_3, a0g_4, a0g_5, a0g_6, a0g_7, a0g_8, a0g_9, a0g_10, Value.int a0_11, a0g_12, a0g_13, Value.int a0_14, Value.ref a0_15, a0g_16, Value.ref a0_17, a0g_18, a0g_19, a0g_20, a0g_21, a0g_22, a0g_23, a0g_24, a0g_25, a0g_26, a0g_27, a0g_28, Value.ref a0_29, Value.int a0_30, Value.int a0_31, a0g_32, a0g_33, a0g_34, a0g_35, a0g_36, a0g_37, a0g_38, a0g_39])), (a0_17, .inl (ka0_17, 23, .inl (fa0_17))), (a0_29, .inl (ka0_29, 10, .inl (fa0_29))), (a0_15, .inl (ka0_15, 156, .inl (fa0_15)))] [(ka0_17, .int), (ka0_29, .int), (ka0_15, .int)] (fun A _ => True) (fun A => va_Qi (fun (r : Int32) (_ : Unit) => (1 : Int) ≤ r.toInt ∧ r.toInt ≤ (9 : Int)) (fun (_ : Unit) (t : State) => ∃ na0_0 : Int32, ∃ na0_11 : Int32, ∃ na0_30 : Int32, ∃ na0_31 : Int32, ∃ nfa0_29 : Nat → Int32, (∀ k, (0 : Int) ≤ (nfa0_29 k).toInt ∧ (nfa0_29 k).toInt ≤ 8) ∧ ax_B dC dI A [(a0, .inr (8, [Value.int na0_0, a0g_1, a0g_2, a0g_3, a0g_4, a0g_5, a0g_6, a0g_7, a0g_8, a0g_9, a0g_10, Value.int na0_11, a0g_12, a0g_13, Value.int a0_14, Value.ref a0_15, a0g_16, Value.ref a0_17, a0g_18, a0g_19, a0g_20, a0g_21, a0g_22, a0g_23, a0g_24, a0g_25, a0g_26, a0g_27, a0g_28, Value.ref a0_29, Value.int na0_30, Value.int na0_31, a0g_32, a0g_33, a0g_34, a0g_35, a0g_36, a0g_37, a0g_38, a0g_39])), (a0_17, .inl (ka0_17, 23, .inl (fa0_17))), (a0_29, .inl (ka0_29, 10, .inl (nfa0_29))), (a0_15, .inl (ka0_15, 156, .inl (fa0_15)))] [(ka0_17, .int), (ka0_29, .int), (ka0_15, .int)] t) A) := by
  refine zh (cc := cX8_round) (maxL := 1) (ret := (some .int)) zn_RX8 rfl (Nat.le_of_ble_eq_true rfl) (fun p e s m below meth c A ls hx hb hml hr hts (hown : s.vm.findClass RX8 = some m.cls) hlocks hA hS hP hK hD hE (hl : lv_has ls 1 [(0, .ref a0)]) => ?_)
  refine lv_aload_n hx hb dX8_round_0 rfl (lv_at hl 0 rfl) ?_
  refine va_callv (va_runV (As := []) (rest := []) ⟨hx, hb, hml, hown, hts⟩ (c_X8_good l dC dI s.heap.size a0 a0_0 a0g_1 a0g_2 a0g_3 a0g_4 a0g_5 a0g_6 a0g_7 a0g_8 a0g_9 a0g_10 a0g_12 a0g_13 (Value.int a0_14) (Value.ref a0_15) a0g_16 (Value.ref a0_17) a0g_18 a0g_19 a0g_20 a0g_21 a0g_22 a0g_23 a0g_24 a0g_25 a0g_26 a0g_27 a0g_28 (Value.ref a0_29) (Value.int a0_30) (Value.int a0_31) a0g_32 a0g_33 a0g_34 a0g_35 a0g_36 a0g_37 a0g_38 a0g_39 a0_11 ) (cwV 0 hts gX8_round_X8_good rfl rfl rfl zd_X8_good ⟨Nat.le_of_ble_eq_true rfl, Nat.le_of_ble_eq_true rfl⟩) ⟨ax_blind (fun _ _ _ _ _ => trivial), zr_8 (zp_K hK) (zp_P1 hP) (q0 := 0) rfl, ax_pre (zp_P1 hP) (zp_K hK) (zp_D1 hD) (fun _ _ => trivial)⟩ rfl rfl hl.1 rfl (lv_room (Nat.le_of_ble_eq_true rfl)) dX8_round_1 ⟨Nat.le_of_ble_eq_true rfl, Nat.le_of_ble_eq_true rfl⟩) hS (fun q _ h => zp_F1 hD hS hA q h) (zp_F1 hD hS hA) (fun u t H locs ht hvm hw => zx_2 (fun v1na0_0 v1na0_11 hB hz1 hk1 hS1 => zo1 hB ht hP hD hk1 (zp_F1 hD hS hA) hS1 (fun hP hK1 hD hS => ?_)))
  refine lv_aload_n hx hb dX8_round_4 rfl (lv_at hl 0 rfl) ?_
  refine va_get (D := (dC, dI)) (ci := 8) (v := .int a0_14) (C := RX8) (T := TX8) (N := 40) hx hb hts zi_X8_round_8 hown hK hP 0 rfl rfl 14 (by decide) (hts (.fieldLink RX8 173 "WaxTurnsModel" "hasGallery" "Z") (zm_X8_round_r1 (List.mem_of_getElem? (i := 0) rfl))) (fun _ h9 => h9) rfl dX8_round_5 ?_
  refine lv_if_ne (tgt := 17) hx hb dX8_round_8 (by decide) (fun c8 => ?_) (fun c8 => ?_)
  · have gc8 := ai_ne c8
    refine lv_aload_n hx hb dX8_round_17 rfl (lv_at hl 0 rfl) ?_
    have hKc := hK.sub (tys' := [(ka0_17, .int), (ka0_29, .int), (ka0_15, .int)]) [0, 1, 2] rfl
    refine va_callv (va_runV (As := []) (rest := []) ⟨hx, hb, hml, hown, hts⟩ (c_X8_goRound l dC dI H.size a0 (Value.int v1na0_0) a0g_1 a0g_2 a0g_3 a0g_4 a0g_5 a0g_6 a0g_7 a0g_8 a0g_9 a0g_10 (Value.int v1na0_11) a0g_12 a0g_13 (Value.int a0_14) a0g_16 a0g_18 a0g_19 a0g_20 a0g_21 a0g_22 a0g_23 a0g_24 a0g_25 a0g_26 a0g_27 a0g_28 a0g_32 a0g_33 a0g_34 a0g_35 a0g_36 a0g_37 a0g_38 a0g_39 a0_15 a0_17 a0_29 a0_30 a0_31 ka0_17 fa0_17 ka0_29 fa0_29 ka0_15 fa0_15 bfa0_17 bfa0_29 bfa0_15) (cwV 0 hts gX8_round_X8_goRound rfl rfl rfl zd_X8_goRound ⟨Nat.le_of_ble_eq_true rfl, Nat.le_of_ble_eq_true rfl⟩) ⟨ax_blind (fun _ _ _ _ _ => trivial), zr_8 hKc (zp_P4 hP) (q0 := 0) rfl, ax_pre (zp_P4 hP) hKc (zp_D4 hD) (fun _ _ => trivial)⟩ rfl rfl hl.1 rfl (lv_room (Nat.le_of_ble_eq_true rfl)) dX8_round_18 ⟨Nat.le_of_ble_eq_true rfl, Nat.le_of_ble_eq_true rfl⟩) hS (fun q _ h => zp_F4 hD hS hA q h) (zp_F4 hD hS hA) (fun u t H locs ht hvm hw => zx_3 (fun v18na0_30 v18na0_31 v18nfa0_29 => zy_2 (fun bv18nfa0_29 hraw18_0 hB hz1 hk1 hS1 => zo4 hB ht hP hD hk1 (zp_F4 hD hS hA) hS1 (fun hP hK1 hD hS => ?_))))
    refine lv_aload_n hx hb dX8_round_21 rfl (lv_at hl 0 rfl) ?_
    refine va_get (D := (dC, dI)) (ci := 8) (v := .int v18na0_31) (C := RX8) (T := TX8) (N := 40) hx hb hts zi_X8_round_8 hown hK hP 0 rfl rfl 31 (by decide) (hts (.fieldLink RX8 286 "WaxTurnsModel" "again" "I") (zm_X8_round_r1 (List.mem_of_getElem? (i := 1) rfl))) (fun _ h9 => h9) rfl dX8_round_22 ?_
    exact W.iret (v := v18na0_31) hx hb hr (fun t ht hW => ⟨⟨v18na0_31, (), rfl, ⟨(by omega : (1 : Int) ≤ v18na0_31.toInt), (by omega : v18na0_31.toInt ≤ (9 : Int))⟩, v1na0_0, v1na0_11, v18na0_30, v18na0_31, v18nfa0_29, bv18nfa0_29, by rw [ht]; exact hP, va_K.moved hW.alike hK, hD⟩, hS.F ht⟩) hS.2.2 dX8_round_25
  · have gc8 := ai_eq c8
    have u8f_a0_14 : a0_14.toInt ≤ (0 : Int) := Int.le_trans (Int.le_of_eq gc8) zq6
    have l8f_a0_14 : (1 : Int) ≤ a0_14.toInt := ba0_14_l
    exact absurd (Int.le_trans l8f_a0_14 u8f_a0_14) (by decide)

set_option maxHeartbeats 4000000 in
set_option maxRecDepth 100000 in
theorem c_X8_minutesOf (l : Launch) (dC : Nat → ClassId) (dI : Nat → Nat → Nat) (sz : Nat) (a0 : Nat) (a1 : Int32) (a2 : Int32) (a0_0 : Int32) (a0g_1 a0g_2 a0g_3 a0g_4 a0g_5 a0g_6 a0g_7 a0g_8 a0g_9 a0g_10 a0g_12 a0g_13 a0g_16 a0g_18 a0g_19 a0g_20 a0g_21 a0g_22 a0g_23 a0g_24 a0g_25 a0g_26 a0g_27 a0g_28 a0g_32 a0g_33 a0g_34 a0g_35 a0g_36 a0g_37 a0g_38 a0g_39 : Value) (a0_11 : Int32) (a0_14 : Int32) (a0_15 : Nat) (a0_17 : Nat) (a0_29 : Nat) (a0_30 : Int32) (a0_31 : Int32) (ka0_15 : ClassId) (fa0_15 : Nat → Int32) (ka0_17 : ClassId) (fa0_17 : Nat → Int32) (ka0_29 : ClassId) (fa0_29 : Nat → Int32) (ba0_14_l : (1 : Int) ≤ a0_14.toInt) (ba0_14_u : a0_14.toInt ≤ (1 : Int)) (bfa0_15 : ((∀ k : Nat, 0 ≤ k → k ≤ 0 → (2 : Int) ≤ (fa0_15 k).toInt ∧ (fa0_15 k).toInt ≤ 9) ∧ (∀ k : Nat, 1 ≤ k → k ≤ 1 → (1 : Int) ≤ (fa0_15 k).toInt ∧ (fa0_15 k).toInt ≤ 20) ∧ (∀ k : Nat, 2 ≤ k → k ≤ 2 → (0 : Int) ≤ (fa0_15 k).toInt ∧ (fa0_15 k).toInt ≤ 8) ∧ (∀ k : Nat, 3 ≤ k → k ≤ 3 → (0 : Int) ≤ (fa0_15 k).toInt ∧ (fa0_15 k).toInt ≤ 100) ∧ (∀ k : Nat, 4 ≤ k → k ≤ 4 → (0 : Int) ≤ (fa0_15 k).toInt ∧ (fa0_15 k).toInt ≤ 9) ∧ (∀ k : Nat, 5 ≤ k → k ≤ 5 → (0 : Int) ≤ (fa0_15 k).toInt ∧ (fa0_15 k).toInt ≤ 3) ∧ (∀ k : Nat, 6 ≤ k → k ≤ 6 → (0 : Int) ≤ (fa0_15 k).toInt ∧ (fa0_15 k).toInt ≤ 6) ∧ (∀ k : Nat, 7 ≤ k → k ≤ 9 → (0 : Int) ≤ (fa0_15 k).toInt ∧ (fa0_15 k).toInt ≤ 8) ∧ (∀ k : Nat, 12 ≤ k → k ≤ 29 → (0 : Int) ≤ (fa0_15 k).toInt ∧ (fa0_15 k).toInt ≤ 20) ∧ (∀ k : Nat, 30 ≤ k → k ≤ 35 → (0 : Int) ≤ (fa0_15 k).toInt ∧ (fa0_15 k).toInt ≤ 8) ∧ (∀ k : Nat, 36 ≤ k → k ≤ 47 → (0 : Int) ≤ (fa0_15 k).toInt ∧ (fa0_15 k).toInt ≤ 999))) (bfa0_17 : ((∀ k : Nat, 0 ≤ k → k ≤ 8 → (0 : Int) ≤ (fa0_17 k).toInt ∧ (fa0_17 k).toInt ≤ 8) ∧ (∀ k : Nat, 19 ≤ k → k ≤ 19 → (0 : Int) ≤ (fa0_17 k).toInt ∧ (fa0_17 k).toInt ≤ 8) ∧ (∀ k : Nat, 20 ≤ k → k ≤ 20 → (0 : Int) ≤ (fa0_17 k).toInt ∧ (fa0_17 k).toInt ≤ 19))) (bfa0_29 : (∀ k, (0 : Int) ≤ (fa0_29 k).toInt ∧ (fa0_29 k).toInt ≤ 8)) : zm l yX8_minutesOf wsX8_minutesOf ({ frames := 2, cells := 0, slots := 0, locals := 44 }) [.ref a0, .int a1, .int a2] dC dI sz [(a0, .inr (8, [Value.int a0_0, a0g_1, a0g_2, a0g_3, a0g_4, a0g_5, a0g_6, a0g_7, a0g_8, a0g_9, a0g_10, Value.int a0_11, a0g_12, a0g_13, Value.int a0_14, Value.ref a0_15, a0g_16, Value.ref a0_17, a0g_18, a0g_19, a0g_20, a0g_21, a0g_22, a0g_23, a0g_24, a0g_25, a0g_26, a0g_27, a0g_28, Value.ref a0_29, Value.int a0_30, Value.int a0_31, a0g_32, a0g_33, a0g_34, a0g_35, a0g_36, a0g_37, a0g_38, a0g_39])), (a0_15, .inl (ka0_15, 156, .inl (fa0_15))), (a0_17, .inl (ka0_17, 23, .inl (fa0_17))), (a0_29, .inl (ka0_29, 10, .inl (fa0_29)))] [(ka0_15, .int), (ka0_17, .int), (ka0_29, .int)] (fun A _ => True) (fun A => va_Qi (fun (r : Int32) (_ : Unit) => True) (fun (_ : Unit) (t : State) => ∃ na0_0 : Int32, ∃ na0_11 : Int32, ∃ na0_30 : Int32, ∃ na0_31 : Int32, ∃ nfa0_29 : Nat → Int32, (∀ k, (0 : Int) ≤ (nfa0_29 k).toInt ∧ (nfa0_29 k).toInt ≤ 8) ∧ ax_B dC dI A [(a0, .inr (8, [Value.int na0_0, a0g_1, a0g_2, a0g_3, a0g_4, a0g_5, a0g_6, a0g_7, a0g_8, a0g_9, a0g_10, Value.int na0_11, a0g_12, a0g_13, Value.int a0_14, Value.ref a0_15, a0g_16, Value.ref a0_17, a0g_18, a0g_19, a0g_20, a0g_21, a0g_22, a0g_23, a0g_24, a0g_25, a0g_26, a0g_27, a0g_28, Value.ref a0_29, Value.int na0_30, Value.int na0_31, a0g_32, a0g_33, a0g_34, a0g_35, a0g_36, a0g_37, a0g_38, a0g_39])), (a0_15, .inl (ka0_15, 156, .inl (fa0_15))), (a0_17, .inl (ka0_17, 23, .inl (fa0_17))), (a0_29, .inl (ka0_29, 10, .inl (nfa0_29)))] [(ka0_15, .int), (ka0_17, .int), (ka0_29, .int)] t) A) := by
  refine zh (cc := cX8_minutesOf) (maxL := 6) (ret := (some .int)) zn_RX8 rfl (Nat.le_of_ble_eq_true rfl) (fun p e s m below meth c A ls hx hb hml hr hts (hown : s.vm.findClass RX8 = some m.cls) hlocks hA hS hP hK hD hE (hl : lv_has ls 6 [(0, .ref a0), (1, .int a1), (2, .int a2)]) => ?_)
  refine ai_open (fun K hK0 => ?_)
  refine (hK0 _ _ _).mpr ?_
  refine lv_aload_n hx hb dX8_minutesOf_0 rfl (lv_at hl 0 rfl) ?_
  refine va_callv (va_runV (As := []) (rest := []) ⟨hx, hb, hml, hown, hts⟩ (c_X8_good l dC dI s.heap.size a0 a0_0 a0g_1 a0g_2 a0g_3 a0g_4 a0g_5 a0g_6 a0g_7 a0g_8 a0g_9 a0g_10 a0g_12 a0g_13 (Value.int a0_14) (Value.ref a0_15) a0g_16 (Value.ref a0_17) a0g_18 a0g_19 a0g_20 a0g_21 a0g_22 a0g_23 a0g_24 a0g_25 a0g_26 a0g_27 a0g_28 (Value.ref a0_29) (Value.int a0_30) (Value.int a0_31) a0g_32 a0g_33 a0g_34 a0g_35 a0g_36 a0g_37 a0g_38 a0g_39 a0_11 ) (cwV 0 hts gX8_minutesOf_X8_good rfl rfl rfl zd_X8_good ⟨Nat.le_of_ble_eq_true rfl, Nat.le_of_ble_eq_true rfl⟩) ⟨ax_blind (fun _ _ _ _ _ => trivial), zr_8 (zp_K hK) (zp_P1 hP) (q0 := 0) rfl, ax_pre (zp_P1 hP) (zp_K hK) (zp_D1 hD) (fun _ _ => trivial)⟩ rfl rfl hl.1 rfl (lv_room (Nat.le_of_ble_eq_true rfl)) dX8_minutesOf_1 ⟨Nat.le_of_ble_eq_true rfl, Nat.le_of_ble_eq_true rfl⟩) hS (fun q _ h => zp_F1 hD hS hA q h) (zp_F1 hD hS hA) (fun u t H locs ht hvm hw => zx_2 (fun v1na0_0 v1na0_11 hB hz1 hk1 hS1 => zo1 hB ht hP hD hk1 (zp_F1 hD hS hA) hS1 (fun hP hK1 hD hS => ?_)))
  refine lv_aload_n hx hb dX8_minutesOf_4 rfl (lv_at hl 0 rfl) ?_
  refine lv_aload_n hx hb dX8_minutesOf_5 rfl (lv_at hl 0 rfl) ?_
  refine lv_iload_n hx hb dX8_minutesOf_6 rfl (lv_at hl 1 rfl) ?_
  have hKc := hK.sub (tys' := [(ka0_15, .int)]) [0] rfl
  refine va_calli (va_runV (As := [.int a1]) (rest := [.ref a0]) ⟨hx, hb, hml, hown, hts⟩ (c_X8_isFigure l dC dI H.size a0 a1 (Value.int v1na0_0) a0g_1 a0g_2 a0g_3 a0g_4 a0g_5 a0g_6 a0g_7 a0g_8 a0g_9 a0g_10 (Value.int v1na0_11) a0g_12 a0g_13 a0g_16 (Value.ref a0_17) a0g_18 a0g_19 a0g_20 a0g_21 a0g_22 a0g_23 a0g_24 a0g_25 a0g_26 a0g_27 a0g_28 (Value.ref a0_29) (Value.int a0_30) (Value.int a0_31) a0g_32 a0g_33 a0g_34 a0g_35 a0g_36 a0g_37 a0g_38 a0g_39 a0_14 a0_15 ka0_15 fa0_15 ba0_14_l ba0_14_u bfa0_15) (cwV 1 hts gX8_minutesOf_X8_isFigure rfl rfl rfl zd_X8_isFigure ⟨Nat.le_of_ble_eq_true rfl, Nat.le_of_ble_eq_true rfl⟩) ⟨ax_blind (fun _ _ _ _ _ => trivial), zr_8 hKc (zp_P2 hP) (q0 := 0) rfl, ax_pre (zp_P2 hP) hKc (zp_D2 hD) (fun _ _ => trivial)⟩ rfl rfl hl.1 rfl (lv_room (Nat.le_of_ble_eq_true rfl)) dX8_minutesOf_7 ⟨Nat.le_of_ble_eq_true rfl, Nat.le_of_ble_eq_true rfl⟩) hS (fun q _ h => zp_F2 hD hS hA q h) (zp_F2 hD hS hA) (fun r7 u t H locs ht hvm hw hB hz1 hk1 hS1 => zo2 hB ht hP hD hk1 (zp_F2 hD hS hA) hS1 (fun hP hK1 hD hS => ?_))
  rcases hw with hw | hw
  · obtain ⟨hw, h7_0, h7_1⟩ := hw
    subst hw
    have l7k0_a1 : (0 : Int) ≤ a1.toInt := h7_0
    have u7k0_a1 : a1.toInt ≤ (8 : Int) := h7_1
    refine lv_iload_n hx hb dX8_minutesOf_10 rfl (lv_at hl 2 rfl) ?_
    refine lv_iconst (v := 0) hx hb dX8_minutesOf_11 zk_iconst_0 ?_
    refine lv_sipush (v := 999) hx hb dX8_minutesOf_12 zk_sipush_999 ?_
    refine va_calli (va_runS (As := [.int a2, .int 0, .int 999]) (rest := [.int 1, .ref a0]) ⟨hx, hb, hml, hown, hts⟩ (c_X8_in l dC dI H.size a2 0 999 ) (va_cwS 3 hts gX8_minutesOf_X8_in rfl rfl rfl zd_X8_in.2 ⟨Nat.le_of_ble_eq_true rfl, Nat.le_of_ble_eq_true rfl⟩) ⟨ax_blind (fun _ _ _ _ _ => trivial), ax_pre (zp_P0 hP) (zp_K hK) (zp_D0 hD) (fun _ _ => trivial)⟩ rfl rfl hl.1 rfl (lv_room (Nat.le_of_ble_eq_true rfl)) dX8_minutesOf_15 ⟨Nat.le_of_ble_eq_true rfl, Nat.le_of_ble_eq_true rfl⟩) hS (fun q _ h => zp_F0 hD hS hA q h) (zp_F0 hD hS hA) (fun r15 u t H locs ht hvm hw hB hz1 hk1 hS1 => zo0 hB ht hP hD hk1 (zp_F0 hD hS hA) hS1 (fun hP hK1 hD hS => ?_))
    rcases hw with hw | hw
    · obtain ⟨hw, h15⟩ := hw
      subst hw
      have l15k0_a2 : (0 : Int) ≤ a2.toInt := Int.le_trans zq5 h15.1
      have u15k0_a2 : a2.toInt ≤ (999 : Int) := Int.le_trans h15.2 zq79
      refine va_calli (va_runV (As := [.int 1, .int 1]) (rest := []) ⟨hx, hb, hml, hown, hts⟩ (c_X8_whyB l dC dI H.size a0 1 1 (Value.int v1na0_0) a0g_1 a0g_2 a0g_3 a0g_4 a0g_5 a0g_6 a0g_7 a0g_8 a0g_9 a0g_10 (Value.int v1na0_11) a0g_12 a0g_13 (Value.int a0_14) (Value.ref a0_15) a0g_16 (Value.ref a0_17) a0g_18 a0g_19 a0g_20 a0g_21 a0g_22 a0g_23 a0g_24 a0g_25 a0g_26 a0g_27 a0g_28 (Value.ref a0_29) (Value.int a0_30) (Value.int a0_31) a0g_32 a0g_33 a0g_34 a0g_35 a0g_36 a0g_37 a0g_38 a0g_39 (Int.le_trans zq4 zq1) zq0 (Int.le_trans zq4 zq1) zq0) (cwV 2 hts gX8_minutesOf_X8_why rfl rfl rfl zd_X8_why ⟨Nat.le_of_ble_eq_true rfl, Nat.le_of_ble_eq_true rfl⟩) ⟨ax_blind (fun _ _ _ _ _ => trivial), zr_8 (zp_K hK) (zp_P1 hP) (q0 := 0) rfl, ax_pre (zp_P1 hP) (zp_K hK) (zp_D1 hD) (fun _ _ => trivial)⟩ rfl rfl hl.1 rfl (lv_room (Nat.le_of_ble_eq_true rfl)) dX8_minutesOf_18 ⟨Nat.le_of_ble_eq_true rfl, Nat.le_of_ble_eq_true rfl⟩) hS (fun q _ h => zp_F1 hD hS hA q h) (zp_F1 hD hS hA) (fun r18 u t H locs ht hvm hw hB hz1 hk1 hS1 => zo1 hB ht hP hD hk1 (zp_F1 hD hS hA) hS1 (fun hP hK1 hD hS => ?_))
      rcases hw with hw | hw | hw
      · obtain ⟨hw, h18_0, h18_1, h18_2, h18_3⟩ := hw
        subst hw
        exact absurd h18_3 (by decide)
      · obtain ⟨hw, h18_0, h18_1⟩ := hw
        subst hw
        exact absurd h18_1 (by decide)
      · obtain ⟨hw, h18_0, h18_1, h18_2, h18_3⟩ := hw
        subst hw
        refine lv_istore_n (lv' := [(3, .int 0), (0, .ref a0), (1, .int a1), (2, .int a2)]) hx hb dX8_minutesOf_21 rfl hl (by decide) rfl (fun ls hl => ?_)
        refine lv_iload_n hx hb dX8_minutesOf_22 rfl (lv_at hl 0 rfl) ?_
        refine lv_if_eq (tgt := 32) hx hb dX8_minutesOf_23 (by decide) (fun _ => ?_) (fun c23 => absurd (by decide +kernel) c23)
        refine lv_aload_n hx hb dX8_minutesOf_32 rfl (lv_at hl 1 rfl) ?_
        refine zc_cutc (wc := [(a0, .inr (8, [Value.int v1na0_0, a0g_1, a0g_2, a0g_3, a0g_4, a0g_5, a0g_6, a0g_7, a0g_8, a0g_9, a0g_10, Value.int v1na0_11, a0g_12, a0g_13, Value.int a0_14, Value.ref a0_15, a0g_16, Value.ref a0_17, a0g_18, a0g_19, a0g_20, a0g_21, a0g_22, a0g_23, a0g_24, a0g_25, a0g_26, a0g_27, a0g_28, Value.ref a0_29, Value.int a0_30, Value.int a0_31, a0g_32, a0g_33, a0g_34, a0g_35, a0g_36, a0g_37, a0g_38, a0g_39])), (a0_17, .inl (ka0_17, 23, .inl (fa0_17))), (a0_29, .inl (ka0_29, 10, .inl (fa0_29))), (a0_15, .inl (ka0_15, 156, .inl (fa0_15)))]) hP hD hS hA [0, 2, 3, 1] (by decide +kernel) rfl (fun hPc hDc hFc hCc => ?_)
        have hKc := hK.sub (tys' := [(ka0_17, .int), (ka0_29, .int), (ka0_15, .int)]) [1, 2, 0] rfl
        refine va_callv (va_runV (As := []) (rest := []) ⟨hx, hb, hml, hown, hts⟩ (c_X8_goRound l dC dI H.size a0 (Value.int v1na0_0) a0g_1 a0g_2 a0g_3 a0g_4 a0g_5 a0g_6 a0g_7 a0g_8 a0g_9 a0g_10 (Value.int v1na0_11) a0g_12 a0g_13 (Value.int a0_14) a0g_16 a0g_18 a0g_19 a0g_20 a0g_21 a0g_22 a0g_23 a0g_24 a0g_25 a0g_26 a0g_27 a0g_28 a0g_32 a0g_33 a0g_34 a0g_35 a0g_36 a0g_37 a0g_38 a0g_39 a0_15 a0_17 a0_29 a0_30 a0_31 ka0_17 fa0_17 ka0_29 fa0_29 ka0_15 fa0_15 bfa0_17 bfa0_29 bfa0_15) (cwV 0 hts gX8_minutesOf_X8_goRound rfl rfl rfl zd_X8_goRound ⟨Nat.le_of_ble_eq_true rfl, Nat.le_of_ble_eq_true rfl⟩) ⟨ax_blind (fun _ _ _ _ _ => trivial), zr_8 hKc hPc (q0 := 0) rfl, ax_pre hPc hKc hDc (fun _ _ => trivial)⟩ rfl rfl hl.1 rfl (lv_room (Nat.le_of_ble_eq_true rfl)) dX8_minutesOf_33 ⟨Nat.le_of_ble_eq_true rfl, Nat.le_of_ble_eq_true rfl⟩) hS (fun q _ h => hFc q h) hFc (fun u t H locs ht hvm hw => zx_3 (fun v33na0_30 v33na0_31 v33nfa0_29 => zy_2 (fun bv33nfa0_29 hraw33_0 hB hz1 hk1 hS1 => zo hB ht hS1 (fun hP1 hK1 hD1 hS => ?_))))
        refine zc_backc (w := [(a0, .inr (8, [Value.int v1na0_0, a0g_1, a0g_2, a0g_3, a0g_4, a0g_5, a0g_6, a0g_7, a0g_8, a0g_9, a0g_10, Value.int v1na0_11, a0g_12, a0g_13, Value.int a0_14, Value.ref a0_15, a0g_16, Value.ref a0_17, a0g_18, a0g_19, a0g_20, a0g_21, a0g_22, a0g_23, a0g_24, a0g_25, a0g_26, a0g_27, a0g_28, Value.ref a0_29, Value.int v33na0_30, Value.int v33na0_31, a0g_32, a0g_33, a0g_34, a0g_35, a0g_36, a0g_37, a0g_38, a0g_39])), (a0_15, .inl (ka0_15, 156, .inl (fa0_15))), (a0_17, .inl (ka0_17, 23, .inl (fa0_17))), (a0_29, .inl (ka0_29, 10, .inl (v33nfa0_29)))]) hP hD hCc hk1 hFc hP1 hD1 [.inr 0, .inr 3, .inr 1, .inr 2] (by decide +kernel) rfl (fun hP hD => ?_)
        refine lv_iconst (v := 0) hx hb dX8_minutesOf_36 zk_iconst_0 ?_
        refine lv_istore (lv' := [(4, .int 0), (3, .int 0), (0, .ref a0), (1, .int a1), (2, .int a2)]) hx hb dX8_minutesOf_37 hl (by decide) rfl (fun ls hl => ?_)
        refine lv_iconst (v := 0) hx hb dX8_minutesOf_39 zk_iconst_0 ?_
        refine lv_istore (lv' := [(5, .int 0), (4, .int 0), (3, .int 0), (0, .ref a0), (1, .int a1), (2, .int a2)]) hx hb dX8_minutesOf_40 hl (by decide) rfl (fun ls hl => ?_)
        have J42 : ∀ (n : Nat) (j42l5 : Int32) (j42l4 : Int32) (H : Heap) (locs : List Loc) (ls : Array Slot), (1000 : Int) - j42l5.toInt ≤ (n : Int) → (0 : Int) ≤ j42l5.toInt → j42l5.toInt ≤ (999 : Int) → va_P (dC, dI) vwCl [(a0, .inr (8, [Value.int v1na0_0, a0g_1, a0g_2, a0g_3, a0g_4, a0g_5, a0g_6, a0g_7, a0g_8, a0g_9, a0g_10, Value.int v1na0_11, a0g_12, a0g_13, Value.int a0_14, Value.ref a0_15, a0g_16, Value.ref a0_17, a0g_18, a0g_19, a0g_20, a0g_21, a0g_22, a0g_23, a0g_24, a0g_25, a0g_26, a0g_27, a0g_28, Value.ref a0_29, Value.int v33na0_30, Value.int v33na0_31, a0g_32, a0g_33, a0g_34, a0g_35, a0g_36, a0g_37, a0g_38, a0g_39])), (a0_15, .inl (ka0_15, 156, .inl (fa0_15))), (a0_17, .inl (ka0_17, 23, .inl (fa0_17))), (a0_29, .inl (ka0_29, 10, .inl (v33nfa0_29)))] H → va_D A [(a0, .inr (8, [Value.int v1na0_0, a0g_1, a0g_2, a0g_3, a0g_4, a0g_5, a0g_6, a0g_7, a0g_8, a0g_9, a0g_10, Value.int v1na0_11, a0g_12, a0g_13, Value.int a0_14, Value.ref a0_15, a0g_16, Value.ref a0_17, a0g_18, a0g_19, a0g_20, a0g_21, a0g_22, a0g_23, a0g_24, a0g_25, a0g_26, a0g_27, a0g_28, Value.ref a0_29, Value.int v33na0_30, Value.int v33na0_31, a0g_32, a0g_33, a0g_34, a0g_35, a0g_36, a0g_37, a0g_38, a0g_39])), (a0_15, .inl (ka0_15, 156, .inl (fa0_15))), (a0_17, .inl (ka0_17, 23, .inl (fa0_17))), (a0_29, .inl (ka0_29, 10, .inl (v33nfa0_29)))] → va_S A s.heap H locs → lv_has ls 6 [(0, .ref a0), (1, .int a1), (2, .int a2), (4, .int j42l4), (5, .int j42l5)] → K H locs (F0 m 42 ls []) := by
          intro n
          induction n with
          | zero =>
            intro j42l5 j42l4 H locs ls hm bj42l5_l bj42l5_u hP hD hS hl
            first | exact zg_0 hm bj42l5_u (by decide) | (have h8 := ai_min j42l5; have h9 := ai_max j42l5; exact absurd hm (by omega))
          | succ n ih42 =>
            intro j42l5 j42l4 H locs ls hm bj42l5_l bj42l5_u hP hD hS hl
            refine (hK0 _ _ _).mpr ?_
            have hm42 := hm
            refine lv_iload hx hb dX8_minutesOf_42 (lv_at hl 4 rfl) ?_
            refine lv_iload_n hx hb dX8_minutesOf_44 rfl (lv_at hl 2 rfl) ?_
            refine lv_icmp_ge (tgt := 89) hx hb dX8_minutesOf_45 (by decide) (fun c45 => ?_) (fun c45 => ?_)
            · have gc45 := ai_le c45
              have u45t_a2 : a2.toInt ≤ (999 : Int) := u15k0_a2
              have l45t_j42l5 : (0 : Int) ≤ j42l5.toInt := bj42l5_l
              refine lv_iload hx hb dX8_minutesOf_89 (lv_at hl 3 rfl) ?_
              exact W.iret (v := j42l4) hx hb hr (fun t ht hW => ⟨⟨j42l4, (), rfl, trivial, v1na0_0, v1na0_11, v33na0_30, v33na0_31, v33nfa0_29, bv33nfa0_29, by rw [ht]; exact hP, va_K.moved hW.alike hK, hD⟩, hS.F ht⟩) hS.2.2 dX8_minutesOf_91
            · have gc45 := ai_nle c45
              have u45f_j42l5 : j42l5.toInt ≤ (998 : Int) := ai_lthi gc45 u15k0_a2
              have l45f_a2 : (1 : Int) ≤ a2.toInt := ai_ltlo gc45 bj42l5_l
              refine lv_iload hx hb dX8_minutesOf_48 (lv_at hl 3 rfl) ?_
              refine lv_aload_n hx hb dX8_minutesOf_50 rfl (lv_at hl 0 rfl) ?_
              refine lv_aload_n hx hb dX8_minutesOf_51 rfl (lv_at hl 0 rfl) ?_
              refine va_get (D := (dC, dI)) (ci := 8) (v := .ref a0_17) (C := RX8) (T := TX8) (N := 40) hx hb hts zi_X8_minutesOf_8 hown hK hP 0 rfl rfl 17 (by decide) (hts (.fieldLink RX8 26 "WaxTurnsModel" "st" "[I") (zm_X8_minutesOf_r1 (List.mem_of_getElem? (i := 0) rfl))) (fun _ h9 => h9) rfl dX8_minutesOf_52 ?_
              refine lv_bipush (v := 20) hx hb dX8_minutesOf_55 zk_bipush_20 ?_
              refine va_iald hx hb hK hP 2 1 rfl rfl (by unfold vp_in; decide +kernel) dX8_minutesOf_57 ?_
              refine lv_topi (fun x57 ex57 => ?_)
              have bx57 : (0 : Int) ≤ x57.toInt ∧ x57.toInt ≤ 19 := by rw [ex57]; exact ai_rd bfa0_17.2.2 zq153 zq154 (by decide) (by decide) (by decide)
              refine lv_iload hx hb dX8_minutesOf_58 (lv_at hl 4 rfl) ?_
              refine lv_iadd hx hb dX8_minutesOf_60 ?_
              refine lv_topi (fun x60 ex60 => ?_)
              have qx60 : x60.toInt = x57.toInt + j42l5.toInt := ai_add ex60 ⟨bx57.1, bx57.2⟩ ⟨bj42l5_l, u45f_j42l5⟩ (by decide) (by decide)
              have bx60 : (0 : Int) ≤ x60.toInt ∧ x60.toInt ≤ 1017 := ⟨by rw [qx60]; exact Int.add_le_add bx57.1 bj42l5_l, by rw [qx60]; exact Int.add_le_add bx57.2 u45f_j42l5⟩
              refine lv_aload_n hx hb dX8_minutesOf_61 rfl (lv_at hl 0 rfl) ?_
              refine va_get (D := (dC, dI)) (ci := 8) (v := .ref a0_15) (C := RX8) (T := TX8) (N := 40) hx hb hts zi_X8_minutesOf_8 hown hK hP 0 rfl rfl 15 (by decide) (hts (.fieldLink RX8 20 "WaxTurnsModel" "\x72" "[I") (zm_X8_minutesOf_r1 (List.mem_of_getElem? (i := 1) rfl))) (fun _ h9 => h9) rfl dX8_minutesOf_62 ?_
              refine lv_iconst (v := 1) hx hb dX8_minutesOf_65 zk_iconst_1 ?_
              refine va_iald hx hb hK hP 1 0 rfl rfl (by unfold vp_in; decide +kernel) dX8_minutesOf_66 ?_
              refine lv_topi (fun x66 ex66 => ?_)
              have bx66 : (1 : Int) ≤ x66.toInt ∧ x66.toInt ≤ 20 := by rw [ex66]; exact ai_rd bfa0_15.2.1 zq1 zq0 (by decide) (by decide) (by decide)
              refine lv_idiv hx hb dX8_minutesOf_67 (ai_nz bx66.1 (by decide)) ?_
              refine lv_topi (fun x67 ex67 => ?_)
              have qx67 := ai_div ex67 ⟨bx60.1, bx60.2⟩ (Int.lt_of_lt_of_le zq19 bx66.1)
              refine zc_cutc (wc := [(a0, .inr (8, [Value.int v1na0_0, a0g_1, a0g_2, a0g_3, a0g_4, a0g_5, a0g_6, a0g_7, a0g_8, a0g_9, a0g_10, Value.int v1na0_11, a0g_12, a0g_13, Value.int a0_14, Value.ref a0_15, a0g_16, Value.ref a0_17, a0g_18, a0g_19, a0g_20, a0g_21, a0g_22, a0g_23, a0g_24, a0g_25, a0g_26, a0g_27, a0g_28, Value.ref a0_29, Value.int v33na0_30, Value.int v33na0_31, a0g_32, a0g_33, a0g_34, a0g_35, a0g_36, a0g_37, a0g_38, a0g_39])), (a0_29, .inl (ka0_29, 10, .inl (v33nfa0_29)))]) hP hD hS hA [0, 3] (by decide +kernel) rfl (fun hPc hDc hFc hCc => ?_)
              have hKc := hK.sub (tys' := [(ka0_29, .int)]) [2] rfl
              refine va_calli (va_runV (As := [.int x67]) (rest := [.int j42l4]) ⟨hx, hb, hml, hown, hts⟩ (c_X8_turnAt l dC dI H.size a0 x67 (Value.int v1na0_0) a0g_1 a0g_2 a0g_3 a0g_4 a0g_5 a0g_6 a0g_7 a0g_8 a0g_9 a0g_10 (Value.int v1na0_11) a0g_12 a0g_13 (Value.int a0_14) (Value.ref a0_15) a0g_16 (Value.ref a0_17) a0g_18 a0g_19 a0g_20 a0g_21 a0g_22 a0g_23 a0g_24 a0g_25 a0g_26 a0g_27 a0g_28 a0g_32 a0g_33 a0g_34 a0g_35 a0g_36 a0g_37 a0g_38 a0g_39 a0_29 v33na0_30 v33na0_31 ka0_29 v33nfa0_29 qx67.2.1 (by omega : (0 : Int) ≤ v33na0_30.toInt) (by omega : v33na0_30.toInt ≤ (8 : Int)) (by omega : (1 : Int) ≤ v33na0_31.toInt) (by omega : v33na0_31.toInt ≤ (9 : Int)) bv33nfa0_29 (by omega)) (cwV 1 hts gX8_minutesOf_X8_turnAt rfl rfl rfl zd_X8_turnAt ⟨Nat.le_of_ble_eq_true rfl, Nat.le_of_ble_eq_true rfl⟩) ⟨ax_blind (fun _ _ _ _ _ => trivial), zr_8 hKc hPc (q0 := 0) rfl, ax_pre hPc hKc hDc (fun _ _ => trivial)⟩ rfl rfl hl.1 rfl (lv_room (Nat.le_of_ble_eq_true rfl)) dX8_minutesOf_68 ⟨Nat.le_of_ble_eq_true rfl, Nat.le_of_ble_eq_true rfl⟩) hS (fun q _ h => hFc q h) hFc (fun r68 u t H locs ht hvm hw hB hz1 hk1 hS1 => zo hB ht hS1 (fun hP1 hK1 hD1 hS => ?_))
              refine zc_backc (w := [(a0, .inr (8, [Value.int v1na0_0, a0g_1, a0g_2, a0g_3, a0g_4, a0g_5, a0g_6, a0g_7, a0g_8, a0g_9, a0g_10, Value.int v1na0_11, a0g_12, a0g_13, Value.int a0_14, Value.ref a0_15, a0g_16, Value.ref a0_17, a0g_18, a0g_19, a0g_20, a0g_21, a0g_22, a0g_23, a0g_24, a0g_25, a0g_26, a0g_27, a0g_28, Value.ref a0_29, Value.int v33na0_30, Value.int v33na0_31, a0g_32, a0g_33, a0g_34, a0g_35, a0g_36, a0g_37, a0g_38, a0g_39])), (a0_15, .inl (ka0_15, 156, .inl (fa0_15))), (a0_17, .inl (ka0_17, 23, .inl (fa0_17))), (a0_29, .inl (ka0_29, 10, .inl (v33nfa0_29)))]) hP hD hCc hk1 hFc hP1 hD1 [.inr 0, .inl 1, .inl 2, .inr 1] (by decide +kernel) rfl (fun hP hD => ?_)
              have hw : (0 : Int) ≤ r68.toInt ∧ r68.toInt ≤ (8 : Int) := hw
              obtain ⟨h68_0, h68_1⟩ := hw
              refine lv_iload_n hx hb dX8_minutesOf_71 rfl (lv_at hl 1 rfl) ?_
              have J80 : ∀ (j80s0 : Int32) (H : Heap) (locs : List Loc) (ls : Array Slot), (0 : Int) ≤ j80s0.toInt → j80s0.toInt ≤ (1 : Int) → va_P (dC, dI) vwCl [(a0, .inr (8, [Value.int v1na0_0, a0g_1, a0g_2, a0g_3, a0g_4, a0g_5, a0g_6, a0g_7, a0g_8, a0g_9, a0g_10, Value.int v1na0_11, a0g_12, a0g_13, Value.int a0_14, Value.ref a0_15, a0g_16, Value.ref a0_17, a0g_18, a0g_19, a0g_20, a0g_21, a0g_22, a0g_23, a0g_24, a0g_25, a0g_26, a0g_27, a0g_28, Value.ref a0_29, Value.int v33na0_30, Value.int v33na0_31, a0g_32, a0g_33, a0g_34, a0g_35, a0g_36, a0g_37, a0g_38, a0g_39])), (a0_15, .inl (ka0_15, 156, .inl (fa0_15))), (a0_17, .inl (ka0_17, 23, .inl (fa0_17))), (a0_29, .inl (ka0_29, 10, .inl (v33nfa0_29)))] H → va_D A [(a0, .inr (8, [Value.int v1na0_0, a0g_1, a0g_2, a0g_3, a0g_4, a0g_5, a0g_6, a0g_7, a0g_8, a0g_9, a0g_10, Value.int v1na0_11, a0g_12, a0g_13, Value.int a0_14, Value.ref a0_15, a0g_16, Value.ref a0_17, a0g_18, a0g_19, a0g_20, a0g_21, a0g_22, a0g_23, a0g_24, a0g_25, a0g_26, a0g_27, a0g_28, Value.ref a0_29, Value.int v33na0_30, Value.int v33na0_31, a0g_32, a0g_33, a0g_34, a0g_35, a0g_36, a0g_37, a0g_38, a0g_39])), (a0_15, .inl (ka0_15, 156, .inl (fa0_15))), (a0_17, .inl (ka0_17, 23, .inl (fa0_17))), (a0_29, .inl (ka0_29, 10, .inl (v33nfa0_29)))] → va_S A s.heap H locs → lv_has ls 6 [(0, .ref a0), (1, .int a1), (2, .int a2), (5, .int j42l5)] → K H locs (F0 m 80 ls [.int j80s0, .int j42l4]) := by
                intro j80s0 H locs ls  bj80s0_l bj80s0_u hP hD hS hl
                refine (hK0 _ _ _).mpr ?_
                refine lv_iadd hx hb dX8_minutesOf_80 ?_
                refine lv_topi (fun x80 ex80 => ?_)
                refine lv_istore (lv' := [(4, .int x80), (0, .ref a0), (1, .int a1), (2, .int a2), (5, .int j42l5)]) hx hb dX8_minutesOf_81 hl (by decide) rfl (fun ls hl => ?_)
                obtain ⟨x83, ex83⟩ : ∃ y : Int32, y = j42l5 + Int32.ofInt 1 := ⟨_, rfl⟩
                have qx83 : x83.toInt = j42l5.toInt + 1 := ai_inc ex83 (by decide) (by decide) u45f_j42l5 (by decide)
                have bx83 : (1 : Int) ≤ x83.toInt ∧ x83.toInt ≤ 999 := ⟨by rw [qx83]; exact Int.add_le_add bj42l5_l (Int.le_refl _), by rw [qx83]; exact Int.add_le_add u45f_j42l5 (Int.le_refl _)⟩
                refine lv_iinc (v := x83) (lv' := [(5, .int x83), (4, .int x80), (0, .ref a0), (1, .int a1), (2, .int a2)]) hx hb dX8_minutesOf_83 hl (k := 4) rfl ex83.symm (by decide) rfl (fun ls hl => ?_)
                refine lv_goto (tgt := 42) hx hb dX8_minutesOf_86 (by decide) ?_
                exact (hK0 _ _ _).mp (ih42 x83 x80 _ _ _ (by first | exact zg_s hm42 qx83 | (have h0 := qx83; omega)) (Int.le_trans zq4 bx83.1) bx83.2 hP hD hS (lv_sub hl [2, 3, 4, 1, 0] rfl))
              refine lv_icmp_ne (tgt := 79) hx hb dX8_minutesOf_72 (by decide) (fun c72 => ?_) (fun c72 => ?_)
              · have gc72 := ai_ne c72
                refine lv_iconst (v := 0) hx hb dX8_minutesOf_79 zk_iconst_0 ?_
                exact (hK0 _ _ _).mp (J80 0 _ _ _  zq5 (Int.le_trans zq6 zq4) hP hD hS (lv_sub hl [0, 1, 2, 4] rfl))
              · have gc72 := ai_eq c72
                have u72f_r68 : r68.toInt ≤ (8 : Int) := h68_1
                have l72f_r68 : (0 : Int) ≤ r68.toInt := h68_0
                have u72f_a1 : a1.toInt ≤ (8 : Int) := u7k0_a1
                have l72f_a1 : (0 : Int) ≤ a1.toInt := l7k0_a1
                refine lv_iconst (v := 1) hx hb dX8_minutesOf_75 zk_iconst_1 ?_
                refine lv_goto (tgt := 80) hx hb dX8_minutesOf_76 (by decide) ?_
                exact (hK0 _ _ _).mp (J80 1 _ _ _  (Int.le_trans zq4 zq1) zq0 hP hD hS (lv_sub hl [0, 1, 2, 4] rfl))
        exact (hK0 _ _ _).mp (J42 1000 0 0 _ _ _ (by first | decide +kernel | (have h1 : (0 : Int) ≤ (0 : Int32).toInt := zq5; have h2 : (0 : Int32).toInt ≤ (0 : Int) := zq6; omega)) zq5 (Int.le_trans zq6 zq81) hP hD hS (lv_sub hl [3, 4, 5, 1, 0] rfl))
    · obtain ⟨hw, h15⟩ := hw
      subst hw
      refine va_calli (va_runV (As := [.int 1, .int 0]) (rest := []) ⟨hx, hb, hml, hown, hts⟩ (c_X8_whyB l dC dI H.size a0 1 0 (Value.int v1na0_0) a0g_1 a0g_2 a0g_3 a0g_4 a0g_5 a0g_6 a0g_7 a0g_8 a0g_9 a0g_10 (Value.int v1na0_11) a0g_12 a0g_13 (Value.int a0_14) (Value.ref a0_15) a0g_16 (Value.ref a0_17) a0g_18 a0g_19 a0g_20 a0g_21 a0g_22 a0g_23 a0g_24 a0g_25 a0g_26 a0g_27 a0g_28 (Value.ref a0_29) (Value.int a0_30) (Value.int a0_31) a0g_32 a0g_33 a0g_34 a0g_35 a0g_36 a0g_37 a0g_38 a0g_39 (Int.le_trans zq4 zq1) zq0 zq5 (Int.le_trans zq6 zq4)) (cwV 2 hts gX8_minutesOf_X8_why rfl rfl rfl zd_X8_why ⟨Nat.le_of_ble_eq_true rfl, Nat.le_of_ble_eq_true rfl⟩) ⟨ax_blind (fun _ _ _ _ _ => trivial), zr_8 (zp_K hK) (zp_P1 hP) (q0 := 0) rfl, ax_pre (zp_P1 hP) (zp_K hK) (zp_D1 hD) (fun _ _ => trivial)⟩ rfl rfl hl.1 rfl (lv_room (Nat.le_of_ble_eq_true rfl)) dX8_minutesOf_18 ⟨Nat.le_of_ble_eq_true rfl, Nat.le_of_ble_eq_true rfl⟩) hS (fun q _ h => zp_F1 hD hS hA q h) (zp_F1 hD hS hA) (fun r18 u t H locs ht hvm hw hB hz1 hk1 hS1 => zo1 hB ht hP hD hk1 (zp_F1 hD hS hA) hS1 (fun hP hK1 hD hS => ?_))
      rcases hw with hw | hw | hw
      · obtain ⟨hw, h18_0, h18_1, h18_2, h18_3⟩ := hw
        subst hw
        refine lv_istore_n (lv' := [(3, .int 2), (0, .ref a0), (1, .int a1), (2, .int a2)]) hx hb dX8_minutesOf_21 rfl hl (by decide) rfl (fun ls hl => ?_)
        refine lv_iload_n hx hb dX8_minutesOf_22 rfl (lv_at hl 0 rfl) ?_
        refine lv_if_eq (tgt := 32) hx hb dX8_minutesOf_23 (by decide) (fun c23 => absurd c23 (by decide +kernel)) (fun _ => ?_)
        refine lv_aload_n hx hb dX8_minutesOf_26 rfl (lv_at hl 1 rfl) ?_
        refine lv_iload_n hx hb dX8_minutesOf_27 rfl (lv_at hl 0 rfl) ?_
        refine va_calli (va_runV (As := [.int 2]) (rest := []) ⟨hx, hb, hml, hown, hts⟩ (c_X8_no l dC dI H.size a0 2 (Value.int v1na0_0) a0g_1 a0g_2 a0g_3 a0g_4 a0g_5 a0g_6 a0g_7 a0g_8 a0g_9 a0g_10 a0g_12 a0g_13 (Value.int a0_14) (Value.ref a0_15) a0g_16 (Value.ref a0_17) a0g_18 a0g_19 a0g_20 a0g_21 a0g_22 a0g_23 a0g_24 a0g_25 a0g_26 a0g_27 a0g_28 (Value.ref a0_29) (Value.int a0_30) (Value.int a0_31) a0g_32 a0g_33 a0g_34 a0g_35 a0g_36 a0g_37 a0g_38 a0g_39 v1na0_11 ) (cwV 1 hts gX8_minutesOf_X8_no rfl rfl rfl zd_X8_no ⟨Nat.le_of_ble_eq_true rfl, Nat.le_of_ble_eq_true rfl⟩) ⟨ax_blind (fun _ _ _ _ _ => trivial), zr_8 (zp_K hK) (zp_P1 hP) (q0 := 0) rfl, ax_pre (zp_P1 hP) (zp_K hK) (zp_D1 hD) (fun _ _ => trivial)⟩ rfl rfl hl.1 rfl (lv_room (Nat.le_of_ble_eq_true rfl)) dX8_minutesOf_28 ⟨Nat.le_of_ble_eq_true rfl, Nat.le_of_ble_eq_true rfl⟩) hS (fun q _ h => zp_F1 hD hS hA q h) (zp_F1 hD hS hA) (fun r28 u t H locs ht hvm hw => zx_1 (fun v28na0_11 hB hz1 hk1 hS1 => zo1 hB ht hP hD hk1 (zp_F1 hD hS hA) hS1 (fun hP hK1 hD hS => ?_)))
        have hw : r28 = (-1) := hw
        have hw := hw.symm
        subst hw
        exact W.iret (v := (-1)) hx hb hr (fun t ht hW => ⟨⟨(-1), (), rfl, trivial, v1na0_0, v28na0_11, a0_30, a0_31, fa0_29, bfa0_29, by rw [ht]; exact hP, va_K.moved hW.alike hK, hD⟩, hS.F ht⟩) hS.2.2 dX8_minutesOf_31
      · obtain ⟨hw, h18_0, h18_1⟩ := hw
        subst hw
        exact absurd h18_1 (by decide)
      · obtain ⟨hw, h18_0, h18_1, h18_2, h18_3⟩ := hw
        subst hw
        exact absurd h18_2 (by decide)
  · subst hw
    refine lv_iload_n hx hb dX8_minutesOf_10 rfl (lv_at hl 2 rfl) ?_
    refine lv_iconst (v := 0) hx hb dX8_minutesOf_11 zk_iconst_0 ?_
    refine lv_sipush (v := 999) hx hb dX8_minutesOf_12 zk_sipush_999 ?_
    refine va_calli (va_runS (As := [.int a2, .int 0, .int 999]) (rest := [.int 0, .ref a0]) ⟨hx, hb, hml, hown, hts⟩ (c_X8_in l dC dI H.size a2 0 999 ) (va_cwS 3 hts gX8_minutesOf_X8_in rfl rfl rfl zd_X8_in.2 ⟨Nat.le_of_ble_eq_true rfl, Nat.le_of_ble_eq_true rfl⟩) ⟨ax_blind (fun _ _ _ _ _ => trivial), ax_pre (zp_P0 hP) (zp_K hK) (zp_D0 hD) (fun _ _ => trivial)⟩ rfl rfl hl.1 rfl (lv_room (Nat.le_of_ble_eq_true rfl)) dX8_minutesOf_15 ⟨Nat.le_of_ble_eq_true rfl, Nat.le_of_ble_eq_true rfl⟩) hS (fun q _ h => zp_F0 hD hS hA q h) (zp_F0 hD hS hA) (fun r15 u t H locs ht hvm hw hB hz1 hk1 hS1 => zo0 hB ht hP hD hk1 (zp_F0 hD hS hA) hS1 (fun hP hK1 hD hS => ?_))
    rcases hw with hw | hw
    · obtain ⟨hw, h15⟩ := hw
      subst hw
      have l15k0_a2 : (0 : Int) ≤ a2.toInt := Int.le_trans zq5 h15.1
      have u15k0_a2 : a2.toInt ≤ (999 : Int) := Int.le_trans h15.2 zq79
      refine va_calli (va_runV (As := [.int 0, .int 1]) (rest := []) ⟨hx, hb, hml, hown, hts⟩ (c_X8_whyB l dC dI H.size a0 0 1 (Value.int v1na0_0) a0g_1 a0g_2 a0g_3 a0g_4 a0g_5 a0g_6 a0g_7 a0g_8 a0g_9 a0g_10 (Value.int v1na0_11) a0g_12 a0g_13 (Value.int a0_14) (Value.ref a0_15) a0g_16 (Value.ref a0_17) a0g_18 a0g_19 a0g_20 a0g_21 a0g_22 a0g_23 a0g_24 a0g_25 a0g_26 a0g_27 a0g_28 (Value.ref a0_29) (Value.int a0_30) (Value.int a0_31) a0g_32 a0g_33 a0g_34 a0g_35 a0g_36 a0g_37 a0g_38 a0g_39 zq5 (Int.le_trans zq6 zq4) (Int.le_trans zq4 zq1) zq0) (cwV 2 hts gX8_minutesOf_X8_why rfl rfl rfl zd_X8_why ⟨Nat.le_of_ble_eq_true rfl, Nat.le_of_ble_eq_true rfl⟩) ⟨ax_blind (fun _ _ _ _ _ => trivial), zr_8 (zp_K hK) (zp_P1 hP) (q0 := 0) rfl, ax_pre (zp_P1 hP) (zp_K hK) (zp_D1 hD) (fun _ _ => trivial)⟩ rfl rfl hl.1 rfl (lv_room (Nat.le_of_ble_eq_true rfl)) dX8_minutesOf_18 ⟨Nat.le_of_ble_eq_true rfl, Nat.le_of_ble_eq_true rfl⟩) hS (fun q _ h => zp_F1 hD hS hA q h) (zp_F1 hD hS hA) (fun r18 u t H locs ht hvm hw hB hz1 hk1 hS1 => zo1 hB ht hP hD hk1 (zp_F1 hD hS hA) hS1 (fun hP hK1 hD hS => ?_))
      rcases hw with hw | hw | hw
      · obtain ⟨hw, h18_0, h18_1, h18_2, h18_3⟩ := hw
        subst hw
        exact absurd h18_0 (by decide)
      · obtain ⟨hw, h18_0, h18_1⟩ := hw
        subst hw
        refine lv_istore_n (lv' := [(3, .int 1), (0, .ref a0), (1, .int a1), (2, .int a2)]) hx hb dX8_minutesOf_21 rfl hl (by decide) rfl (fun ls hl => ?_)
        refine lv_iload_n hx hb dX8_minutesOf_22 rfl (lv_at hl 0 rfl) ?_
        refine lv_if_eq (tgt := 32) hx hb dX8_minutesOf_23 (by decide) (fun c23 => absurd c23 (by decide +kernel)) (fun _ => ?_)
        refine lv_aload_n hx hb dX8_minutesOf_26 rfl (lv_at hl 1 rfl) ?_
        refine lv_iload_n hx hb dX8_minutesOf_27 rfl (lv_at hl 0 rfl) ?_
        refine va_calli (va_runV (As := [.int 1]) (rest := []) ⟨hx, hb, hml, hown, hts⟩ (c_X8_no l dC dI H.size a0 1 (Value.int v1na0_0) a0g_1 a0g_2 a0g_3 a0g_4 a0g_5 a0g_6 a0g_7 a0g_8 a0g_9 a0g_10 a0g_12 a0g_13 (Value.int a0_14) (Value.ref a0_15) a0g_16 (Value.ref a0_17) a0g_18 a0g_19 a0g_20 a0g_21 a0g_22 a0g_23 a0g_24 a0g_25 a0g_26 a0g_27 a0g_28 (Value.ref a0_29) (Value.int a0_30) (Value.int a0_31) a0g_32 a0g_33 a0g_34 a0g_35 a0g_36 a0g_37 a0g_38 a0g_39 v1na0_11 ) (cwV 1 hts gX8_minutesOf_X8_no rfl rfl rfl zd_X8_no ⟨Nat.le_of_ble_eq_true rfl, Nat.le_of_ble_eq_true rfl⟩) ⟨ax_blind (fun _ _ _ _ _ => trivial), zr_8 (zp_K hK) (zp_P1 hP) (q0 := 0) rfl, ax_pre (zp_P1 hP) (zp_K hK) (zp_D1 hD) (fun _ _ => trivial)⟩ rfl rfl hl.1 rfl (lv_room (Nat.le_of_ble_eq_true rfl)) dX8_minutesOf_28 ⟨Nat.le_of_ble_eq_true rfl, Nat.le_of_ble_eq_true rfl⟩) hS (fun q _ h => zp_F1 hD hS hA q h) (zp_F1 hD hS hA) (fun r28 u t H locs ht hvm hw => zx_1 (fun v28na0_11 hB hz1 hk1 hS1 => zo1 hB ht hP hD hk1 (zp_F1 hD hS hA) hS1 (fun hP hK1 hD hS => ?_)))
        have hw : r28 = (-1) := hw
        have hw := hw.symm
        subst hw
        exact W.iret (v := (-1)) hx hb hr (fun t ht hW => ⟨⟨(-1), (), rfl, trivial, v1na0_0, v28na0_11, a0_30, a0_31, fa0_29, bfa0_29, by rw [ht]; exact hP, va_K.moved hW.alike hK, hD⟩, hS.F ht⟩) hS.2.2 dX8_minutesOf_31
      · obtain ⟨hw, h18_0, h18_1, h18_2, h18_3⟩ := hw
        subst hw
        exact absurd h18_0 (by decide)
    · obtain ⟨hw, h15⟩ := hw
      subst hw
      refine va_calli (va_runV (As := [.int 0, .int 0]) (rest := []) ⟨hx, hb, hml, hown, hts⟩ (c_X8_whyB l dC dI H.size a0 0 0 (Value.int v1na0_0) a0g_1 a0g_2 a0g_3 a0g_4 a0g_5 a0g_6 a0g_7 a0g_8 a0g_9 a0g_10 (Value.int v1na0_11) a0g_12 a0g_13 (Value.int a0_14) (Value.ref a0_15) a0g_16 (Value.ref a0_17) a0g_18 a0g_19 a0g_20 a0g_21 a0g_22 a0g_23 a0g_24 a0g_25 a0g_26 a0g_27 a0g_28 (Value.ref a0_29) (Value.int a0_30) (Value.int a0_31) a0g_32 a0g_33 a0g_34 a0g_35 a0g_36 a0g_37 a0g_38 a0g_39 zq5 (Int.le_trans zq6 zq4) zq5 (Int.le_trans zq6 zq4)) (cwV 2 hts gX8_minutesOf_X8_why rfl rfl rfl zd_X8_why ⟨Nat.le_of_ble_eq_true rfl, Nat.le_of_ble_eq_true rfl⟩) ⟨ax_blind (fun _ _ _ _ _ => trivial), zr_8 (zp_K hK) (zp_P1 hP) (q0 := 0) rfl, ax_pre (zp_P1 hP) (zp_K hK) (zp_D1 hD) (fun _ _ => trivial)⟩ rfl rfl hl.1 rfl (lv_room (Nat.le_of_ble_eq_true rfl)) dX8_minutesOf_18 ⟨Nat.le_of_ble_eq_true rfl, Nat.le_of_ble_eq_true rfl⟩) hS (fun q _ h => zp_F1 hD hS hA q h) (zp_F1 hD hS hA) (fun r18 u t H locs ht hvm hw hB hz1 hk1 hS1 => zo1 hB ht hP hD hk1 (zp_F1 hD hS hA) hS1 (fun hP hK1 hD hS => ?_))
      rcases hw with hw | hw | hw
      · obtain ⟨hw, h18_0, h18_1, h18_2, h18_3⟩ := hw
        subst hw
        exact absurd h18_0 (by decide)
      · obtain ⟨hw, h18_0, h18_1⟩ := hw
        subst hw
        refine lv_istore_n (lv' := [(3, .int 1), (0, .ref a0), (1, .int a1), (2, .int a2)]) hx hb dX8_minutesOf_21 rfl hl (by decide) rfl (fun ls hl => ?_)
        refine lv_iload_n hx hb dX8_minutesOf_22 rfl (lv_at hl 0 rfl) ?_
        refine lv_if_eq (tgt := 32) hx hb dX8_minutesOf_23 (by decide) (fun c23 => absurd c23 (by decide +kernel)) (fun _ => ?_)
        refine lv_aload_n hx hb dX8_minutesOf_26 rfl (lv_at hl 1 rfl) ?_
        refine lv_iload_n hx hb dX8_minutesOf_27 rfl (lv_at hl 0 rfl) ?_
        refine va_calli (va_runV (As := [.int 1]) (rest := []) ⟨hx, hb, hml, hown, hts⟩ (c_X8_no l dC dI H.size a0 1 (Value.int v1na0_0) a0g_1 a0g_2 a0g_3 a0g_4 a0g_5 a0g_6 a0g_7 a0g_8 a0g_9 a0g_10 a0g_12 a0g_13 (Value.int a0_14) (Value.ref a0_15) a0g_16 (Value.ref a0_17) a0g_18 a0g_19 a0g_20 a0g_21 a0g_22 a0g_23 a0g_24 a0g_25 a0g_26 a0g_27 a0g_28 (Value.ref a0_29) (Value.int a0_30) (Value.int a0_31) a0g_32 a0g_33 a0g_34 a0g_35 a0g_36 a0g_37 a0g_38 a0g_39 v1na0_11 ) (cwV 1 hts gX8_minutesOf_X8_no rfl rfl rfl zd_X8_no ⟨Nat.le_of_ble_eq_true rfl, Nat.le_of_ble_eq_true rfl⟩) ⟨ax_blind (fun _ _ _ _ _ => trivial), zr_8 (zp_K hK) (zp_P1 hP) (q0 := 0) rfl, ax_pre (zp_P1 hP) (zp_K hK) (zp_D1 hD) (fun _ _ => trivial)⟩ rfl rfl hl.1 rfl (lv_room (Nat.le_of_ble_eq_true rfl)) dX8_minutesOf_28 ⟨Nat.le_of_ble_eq_true rfl, Nat.le_of_ble_eq_true rfl⟩) hS (fun q _ h => zp_F1 hD hS hA q h) (zp_F1 hD hS hA) (fun r28 u t H locs ht hvm hw => zx_1 (fun v28na0_11 hB hz1 hk1 hS1 => zo1 hB ht hP hD hk1 (zp_F1 hD hS hA) hS1 (fun hP hK1 hD hS => ?_)))
        have hw : r28 = (-1) := hw
        have hw := hw.symm
        subst hw
        exact W.iret (v := (-1)) hx hb hr (fun t ht hW => ⟨⟨(-1), (), rfl, trivial, v1na0_0, v28na0_11, a0_30, a0_31, fa0_29, bfa0_29, by rw [ht]; exact hP, va_K.moved hW.alike hK, hD⟩, hS.F ht⟩) hS.2.2 dX8_minutesOf_31
      · obtain ⟨hw, h18_0, h18_1, h18_2, h18_3⟩ := hw
        subst hw
        exact absurd h18_0 (by decide)
end P240_01_safe
section P240_02_safe
set_option maxHeartbeats 4000000 in
set_option maxRecDepth 100000 in
theorem c_X8_place (l : Launch) (dC : Nat → ClassId) (dI : Nat → Nat → Nat) (sz : Nat) (a0 : Nat) (a1 : Int32) (a2 : Int32) (a0_0 : Int32) (a0g_1 a0g_2 a0g_3 a0g_4 a0g_5 a0g_6 a0g_7 a0g_8 a0g_9 a0g_10 a0g_12 a0g_13 a0g_16 a0g_19 a0g_20 a0g_21 a0g_22 a0g_29 a0g_30 a0g_31 a0g_32 a0g_33 a0g_34 a0g_35 a0g_36 a0g_37 a0g_38 a0g_39 : Value) (a0_11 : Int32) (a0_14 : Int32) (a0_15 : Nat) (a0_17 : Nat) (a0_18 : Nat) (a0_23 : Nat) (a0_24 : Nat) (a0_25 : Int32) (a0_26 : Int32) (a0_27 : Int32) (a0_28 : Int32) (ka0_15 : ClassId) (fa0_15 : Nat → Int32) (ka0_23 : ClassId) (fa0_23 : Nat → Int32) (ka0_24 : ClassId) (fa0_24 : Nat → Int32) (ka0_17 : ClassId) (fa0_17 : Nat → Int32) (ka0_18 : ClassId) (fa0_18 : Nat → Int32) (ba0_14_l : (1 : Int) ≤ a0_14.toInt) (ba0_14_u : a0_14.toInt ≤ (1 : Int)) (bfa0_15 : ((∀ k : Nat, 0 ≤ k → k ≤ 0 → (2 : Int) ≤ (fa0_15 k).toInt ∧ (fa0_15 k).toInt ≤ 9) ∧ (∀ k : Nat, 1 ≤ k → k ≤ 1 → (1 : Int) ≤ (fa0_15 k).toInt ∧ (fa0_15 k).toInt ≤ 20) ∧ (∀ k : Nat, 2 ≤ k → k ≤ 2 → (0 : Int) ≤ (fa0_15 k).toInt ∧ (fa0_15 k).toInt ≤ 8) ∧ (∀ k : Nat, 3 ≤ k → k ≤ 3 → (0 : Int) ≤ (fa0_15 k).toInt ∧ (fa0_15 k).toInt ≤ 100) ∧ (∀ k : Nat, 4 ≤ k → k ≤ 4 → (0 : Int) ≤ (fa0_15 k).toInt ∧ (fa0_15 k).toInt ≤ 9) ∧ (∀ k : Nat, 5 ≤ k → k ≤ 5 → (0 : Int) ≤ (fa0_15 k).toInt ∧ (fa0_15 k).toInt ≤ 3) ∧ (∀ k : Nat, 6 ≤ k → k ≤ 6 → (0 : Int) ≤ (fa0_15 k).toInt ∧ (fa0_15 k).toInt ≤ 6) ∧ (∀ k : Nat, 7 ≤ k → k ≤ 9 → (0 : Int) ≤ (fa0_15 k).toInt ∧ (fa0_15 k).toInt ≤ 8) ∧ (∀ k : Nat, 12 ≤ k → k ≤ 29 → (0 : Int) ≤ (fa0_15 k).toInt ∧ (fa0_15 k).toInt ≤ 20) ∧ (∀ k : Nat, 30 ≤ k → k ≤ 35 → (0 : Int) ≤ (fa0_15 k).toInt ∧ (fa0_15 k).toInt ≤ 8) ∧ (∀ k : Nat, 36 ≤ k → k ≤ 47 → (0 : Int) ≤ (fa0_15 k).toInt ∧ (fa0_15 k).toInt ≤ 999))) (bfa0_23 : (∀ k, (0 : Int) ≤ (fa0_23 k).toInt ∧ (fa0_23 k).toInt ≤ 80)) (bfa0_24 : (∀ k, (0 : Int) ≤ (fa0_24 k).toInt ∧ (fa0_24 k).toInt ≤ 80)) (bfa0_17 : ((∀ k : Nat, 0 ≤ k → k ≤ 8 → (0 : Int) ≤ (fa0_17 k).toInt ∧ (fa0_17 k).toInt ≤ 8) ∧ (∀ k : Nat, 19 ≤ k → k ≤ 19 → (0 : Int) ≤ (fa0_17 k).toInt ∧ (fa0_17 k).toInt ≤ 8) ∧ (∀ k : Nat, 20 ≤ k → k ≤ 20 → (0 : Int) ≤ (fa0_17 k).toInt ∧ (fa0_17 k).toInt ≤ 19))) (bfa0_18 : ((∀ k : Nat, 0 ≤ k → k ≤ 8 → (0 : Int) ≤ (fa0_18 k).toInt ∧ (fa0_18 k).toInt ≤ 8) ∧ (∀ k : Nat, 19 ≤ k → k ≤ 19 → (0 : Int) ≤ (fa0_18 k).toInt ∧ (fa0_18 k).toInt ≤ 8) ∧ (∀ k : Nat, 20 ≤ k → k ≤ 20 → (0 : Int) ≤ (fa0_18 k).toInt ∧ (fa0_18 k).toInt ≤ 19))) (hkm : ∀ (j i0 i : Int32), (0 : Int) ≤ j.toInt → j.toInt ≤ 8 → i0.toInt = 12 + 2 * j.toInt → i.toInt = 13 + 2 * j.toInt → (fa0_15 i0.toNatClampNeg).toInt = (1 : Int32).toInt → (1 : Int) ≤ (fa0_15 i.toNatClampNeg).toInt) : zm l yX8_place wsX8_place ({ frames := 5, cells := 0, slots := 0, locals := 117 }) [.ref a0, .int a1, .int a2] dC dI sz [(a0, .inr (8, [Value.int a0_0, a0g_1, a0g_2, a0g_3, a0g_4, a0g_5, a0g_6, a0g_7, a0g_8, a0g_9, a0g_10, Value.int a0_11, a0g_12, a0g_13, Value.int a0_14, Value.ref a0_15, a0g_16, Value.ref a0_17, Value.ref a0_18, a0g_19, a0g_20, a0g_21, a0g_22, Value.ref a0_23, Value.ref a0_24, Value.int a0_25, Value.int a0_26, Value.int a0_27, Value.int a0_28, a0g_29, a0g_30, a0g_31, a0g_32, a0g_33, a0g_34, a0g_35, a0g_36, a0g_37, a0g_38, a0g_39])), (a0_15, .inl (ka0_15, 156, .inl (fa0_15))), (a0_23, .inl (ka0_23, 3, .inl (fa0_23))), (a0_24, .inl (ka0_24, 3, .inl (fa0_24))), (a0_17, .inl (ka0_17, 23, .inl (fa0_17))), (a0_18, .inl (ka0_18, 23, .inl (fa0_18)))] [(ka0_15, .int), (ka0_23, .int), (ka0_24, .int), (ka0_17, .int), (ka0_18, .int)] (fun A _ => True) (fun A => va_Qi (fun (r : Int32) (_ : Unit) => (-1 : Int) ≤ r.toInt ∧ r.toInt ≤ (8 : Int)) (fun (_ : Unit) (t : State) => ∃ na0_0 : Int32, ∃ na0_11 : Int32, ∃ na0_25 : Int32, ∃ na0_26 : Int32, ∃ na0_27 : Int32, ∃ na0_28 : Int32, ∃ nfa0_23 : Nat → Int32, ∃ nfa0_24 : Nat → Int32, ∃ nfa0_18 : Nat → Int32, (∀ k, (0 : Int) ≤ (nfa0_23 k).toInt ∧ (nfa0_23 k).toInt ≤ 80) ∧ (∀ k, (0 : Int) ≤ (nfa0_24 k).toInt ∧ (nfa0_24 k).toInt ≤ 80) ∧ ((∀ k : Nat, 0 ≤ k → k ≤ 8 → (0 : Int) ≤ (nfa0_18 k).toInt ∧ (nfa0_18 k).toInt ≤ 8) ∧ (∀ k : Nat, 19 ≤ k → k ≤ 19 → (0 : Int) ≤ (nfa0_18 k).toInt ∧ (nfa0_18 k).toInt ≤ 8) ∧ (∀ k : Nat, 20 ≤ k → k ≤ 20 → (0 : Int) ≤ (nfa0_18 k).toInt ∧ (nfa0_18 k).toInt ≤ 19)) ∧ ax_B dC dI A [(a0, .inr (8, [Value.int na0_0, a0g_1, a0g_2, a0g_3, a0g_4, a0g_5, a0g_6, a0g_7, a0g_8, a0g_9, a0g_10, Value.int na0_11, a0g_12, a0g_13, Value.int a0_14, Value.ref a0_15, a0g_16, Value.ref a0_17, Value.ref a0_18, a0g_19, a0g_20, a0g_21, a0g_22, Value.ref a0_23, Value.ref a0_24, Value.int na0_25, Value.int na0_26, Value.int na0_27, Value.int na0_28, a0g_29, a0g_30, a0g_31, a0g_32, a0g_33, a0g_34, a0g_35, a0g_36, a0g_37, a0g_38, a0g_39])), (a0_15, .inl (ka0_15, 156, .inl (fa0_15))), (a0_23, .inl (ka0_23, 3, .inl (nfa0_23))), (a0_24, .inl (ka0_24, 3, .inl (nfa0_24))), (a0_17, .inl (ka0_17, 23, .inl (fa0_17))), (a0_18, .inl (ka0_18, 23, .inl (nfa0_18)))] [(ka0_15, .int), (ka0_23, .int), (ka0_24, .int), (ka0_17, .int), (ka0_18, .int)] t) A) := by
  refine zh (cc := cX8_place) (maxL := 4) (ret := (some .int)) zn_RX8 rfl (Nat.le_of_ble_eq_true rfl) (fun p e s m below meth c A ls hx hb hml hr hts (hown : s.vm.findClass RX8 = some m.cls) hlocks hA hS hP hK hD hE (hl : lv_has ls 4 [(0, .ref a0), (1, .int a1), (2, .int a2)]) => ?_)
  refine lv_aload_n hx hb dX8_place_0 rfl (lv_at hl 0 rfl) ?_
  refine va_callv (va_runV (As := []) (rest := []) ⟨hx, hb, hml, hown, hts⟩ (c_X8_good l dC dI s.heap.size a0 a0_0 a0g_1 a0g_2 a0g_3 a0g_4 a0g_5 a0g_6 a0g_7 a0g_8 a0g_9 a0g_10 a0g_12 a0g_13 (Value.int a0_14) (Value.ref a0_15) a0g_16 (Value.ref a0_17) (Value.ref a0_18) a0g_19 a0g_20 a0g_21 a0g_22 (Value.ref a0_23) (Value.ref a0_24) (Value.int a0_25) (Value.int a0_26) (Value.int a0_27) (Value.int a0_28) a0g_29 a0g_30 a0g_31 a0g_32 a0g_33 a0g_34 a0g_35 a0g_36 a0g_37 a0g_38 a0g_39 a0_11 ) (cwV 0 hts gX8_place_X8_good rfl rfl rfl zd_X8_good ⟨Nat.le_of_ble_eq_true rfl, Nat.le_of_ble_eq_true rfl⟩) ⟨ax_blind (fun _ _ _ _ _ => trivial), zr_8 (zp_K hK) (zp_P1 hP) (q0 := 0) rfl, ax_pre (zp_P1 hP) (zp_K hK) (zp_D1 hD) (fun _ _ => trivial)⟩ rfl rfl hl.1 rfl (lv_room (Nat.le_of_ble_eq_true rfl)) dX8_place_1 ⟨Nat.le_of_ble_eq_true rfl, Nat.le_of_ble_eq_true rfl⟩) hS (fun q _ h => zp_F1 hD hS hA q h) (zp_F1 hD hS hA) (fun u t H locs ht hvm hw => zx_2 (fun v1na0_0 v1na0_11 hB hz1 hk1 hS1 => zo1 hB ht hP hD hk1 (zp_F1 hD hS hA) hS1 (fun hP hK1 hD hS => ?_)))
  refine lv_aload_n hx hb dX8_place_4 rfl (lv_at hl 0 rfl) ?_
  refine lv_aload_n hx hb dX8_place_5 rfl (lv_at hl 0 rfl) ?_
  refine lv_iload_n hx hb dX8_place_6 rfl (lv_at hl 1 rfl) ?_
  have hKc := hK.sub (tys' := [(ka0_15, .int)]) [0] rfl
  refine va_calli (va_runV (As := [.int a1]) (rest := [.ref a0]) ⟨hx, hb, hml, hown, hts⟩ (c_X8_isFigure l dC dI H.size a0 a1 (Value.int v1na0_0) a0g_1 a0g_2 a0g_3 a0g_4 a0g_5 a0g_6 a0g_7 a0g_8 a0g_9 a0g_10 (Value.int v1na0_11) a0g_12 a0g_13 a0g_16 (Value.ref a0_17) (Value.ref a0_18) a0g_19 a0g_20 a0g_21 a0g_22 (Value.ref a0_23) (Value.ref a0_24) (Value.int a0_25) (Value.int a0_26) (Value.int a0_27) (Value.int a0_28) a0g_29 a0g_30 a0g_31 a0g_32 a0g_33 a0g_34 a0g_35 a0g_36 a0g_37 a0g_38 a0g_39 a0_14 a0_15 ka0_15 fa0_15 ba0_14_l ba0_14_u bfa0_15) (cwV 1 hts gX8_place_X8_isFigure rfl rfl rfl zd_X8_isFigure ⟨Nat.le_of_ble_eq_true rfl, Nat.le_of_ble_eq_true rfl⟩) ⟨ax_blind (fun _ _ _ _ _ => trivial), zr_8 hKc (zp_P2 hP) (q0 := 0) rfl, ax_pre (zp_P2 hP) hKc (zp_D2 hD) (fun _ _ => trivial)⟩ rfl rfl hl.1 rfl (lv_room (Nat.le_of_ble_eq_true rfl)) dX8_place_7 ⟨Nat.le_of_ble_eq_true rfl, Nat.le_of_ble_eq_true rfl⟩) hS (fun q _ h => zp_F2 hD hS hA q h) (zp_F2 hD hS hA) (fun r7 u t H locs ht hvm hw hB hz1 hk1 hS1 => zo2 hB ht hP hD hk1 (zp_F2 hD hS hA) hS1 (fun hP hK1 hD hS => ?_))
  rcases hw with hw | hw
  · obtain ⟨hw, h7_0, h7_1⟩ := hw
    subst hw
    have l7k0_a1 : (0 : Int) ≤ a1.toInt := h7_0
    have u7k0_a1 : a1.toInt ≤ (8 : Int) := h7_1
    refine lv_iconst (v := 0) hx hb dX8_place_10 zk_iconst_0 ?_
    refine lv_iload_n hx hb dX8_place_11 rfl (lv_at hl 2 rfl) ?_
    refine va_calli (va_runV (As := [.int 1, .int 0, .int a2]) (rest := []) ⟨hx, hb, hml, hown, hts⟩ (c_X8_aheadWhy l dC dI H.size a0 1 0 a2 (Value.int v1na0_0) a0g_1 a0g_2 a0g_3 a0g_4 a0g_5 a0g_6 a0g_7 a0g_8 a0g_9 a0g_10 (Value.int v1na0_11) a0g_12 a0g_13 (Value.int a0_14) (Value.ref a0_15) a0g_16 (Value.ref a0_17) (Value.ref a0_18) a0g_19 a0g_20 a0g_21 a0g_22 (Value.ref a0_23) (Value.ref a0_24) (Value.int a0_25) (Value.int a0_26) (Value.int a0_27) (Value.int a0_28) a0g_29 a0g_30 a0g_31 a0g_32 a0g_33 a0g_34 a0g_35 a0g_36 a0g_37 a0g_38 a0g_39 (Int.le_trans zq4 zq1) zq0 zq5 (Int.le_trans zq6 zq4)) (cwV 3 hts gX8_place_X8_aheadWhy rfl rfl rfl zd_X8_aheadWhy ⟨Nat.le_of_ble_eq_true rfl, Nat.le_of_ble_eq_true rfl⟩) ⟨ax_blind (fun _ _ _ _ _ => trivial), zr_8 (zp_K hK) (zp_P1 hP) (q0 := 0) rfl, ax_pre (zp_P1 hP) (zp_K hK) (zp_D1 hD) (fun _ _ => trivial)⟩ rfl rfl hl.1 rfl (lv_room (Nat.le_of_ble_eq_true rfl)) dX8_place_12 ⟨Nat.le_of_ble_eq_true rfl, Nat.le_of_ble_eq_true rfl⟩) hS (fun q _ h => zp_F1 hD hS hA q h) (zp_F1 hD hS hA) (fun r12 u t H locs ht hvm hw hB hz1 hk1 hS1 => zo1 hB ht hP hD hk1 (zp_F1 hD hS hA) hS1 (fun hP hK1 hD hS => ?_))
    rcases hw with hw | hw | hw
    · obtain ⟨hw, h12_0, h12_1⟩ := hw
      subst hw
      refine lv_istore_n (lv' := [(3, .int 2), (0, .ref a0), (1, .int a1), (2, .int a2)]) hx hb dX8_place_15 rfl hl (by decide) rfl (fun ls hl => ?_)
      refine lv_iload_n hx hb dX8_place_16 rfl (lv_at hl 0 rfl) ?_
      refine lv_if_eq (tgt := 26) hx hb dX8_place_17 (by decide) (fun c17 => absurd c17 (by decide +kernel)) (fun _ => ?_)
      refine lv_aload_n hx hb dX8_place_20 rfl (lv_at hl 1 rfl) ?_
      refine lv_iload_n hx hb dX8_place_21 rfl (lv_at hl 0 rfl) ?_
      refine va_calli (va_runV (As := [.int 2]) (rest := []) ⟨hx, hb, hml, hown, hts⟩ (c_X8_no l dC dI H.size a0 2 (Value.int v1na0_0) a0g_1 a0g_2 a0g_3 a0g_4 a0g_5 a0g_6 a0g_7 a0g_8 a0g_9 a0g_10 a0g_12 a0g_13 (Value.int a0_14) (Value.ref a0_15) a0g_16 (Value.ref a0_17) (Value.ref a0_18) a0g_19 a0g_20 a0g_21 a0g_22 (Value.ref a0_23) (Value.ref a0_24) (Value.int a0_25) (Value.int a0_26) (Value.int a0_27) (Value.int a0_28) a0g_29 a0g_30 a0g_31 a0g_32 a0g_33 a0g_34 a0g_35 a0g_36 a0g_37 a0g_38 a0g_39 v1na0_11 ) (cwV 1 hts gX8_place_X8_no rfl rfl rfl zd_X8_no ⟨Nat.le_of_ble_eq_true rfl, Nat.le_of_ble_eq_true rfl⟩) ⟨ax_blind (fun _ _ _ _ _ => trivial), zr_8 (zp_K hK) (zp_P1 hP) (q0 := 0) rfl, ax_pre (zp_P1 hP) (zp_K hK) (zp_D1 hD) (fun _ _ => trivial)⟩ rfl rfl hl.1 rfl (lv_room (Nat.le_of_ble_eq_true rfl)) dX8_place_22 ⟨Nat.le_of_ble_eq_true rfl, Nat.le_of_ble_eq_true rfl⟩) hS (fun q _ h => zp_F1 hD hS hA q h) (zp_F1 hD hS hA) (fun r22 u t H locs ht hvm hw => zx_1 (fun v22na0_11 hB hz1 hk1 hS1 => zo1 hB ht hP hD hk1 (zp_F1 hD hS hA) hS1 (fun hP hK1 hD hS => ?_)))
      have hw : r22 = (-1) := hw
      have hw := hw.symm
      subst hw
      exact W.iret (v := (-1)) hx hb hr (fun t ht hW => ⟨⟨(-1), (), rfl, ⟨zq70, (Int.le_trans zq71 zq72)⟩, v1na0_0, v22na0_11, a0_25, a0_26, a0_27, a0_28, fa0_23, fa0_24, fa0_18, bfa0_23, bfa0_24, bfa0_18, by rw [ht]; exact hP, va_K.moved hW.alike hK, hD⟩, hS.F ht⟩) hS.2.2 dX8_place_25
    · obtain ⟨hw, h12_0, h12_1⟩ := hw
      subst hw
      exact absurd h12_1 (by decide)
    · obtain ⟨hw, h12_0, h12_1, h12_2, h12_3⟩ := hw
      subst hw
      have l12k2_a2 : (0 : Int) ≤ a2.toInt := h12_2
      have u12k2_a2 : a2.toInt ≤ (300 : Int) := h12_3
      refine lv_istore_n (lv' := [(3, .int 0), (0, .ref a0), (1, .int a1), (2, .int a2)]) hx hb dX8_place_15 rfl hl (by decide) rfl (fun ls hl => ?_)
      refine lv_iload_n hx hb dX8_place_16 rfl (lv_at hl 0 rfl) ?_
      refine lv_if_eq (tgt := 26) hx hb dX8_place_17 (by decide) (fun _ => ?_) (fun c17 => absurd (by decide +kernel) c17)
      refine lv_aload_n hx hb dX8_place_26 rfl (lv_at hl 1 rfl) ?_
      refine lv_iload_n hx hb dX8_place_27 rfl (lv_at hl 3 rfl) ?_
      have hKc := hK.sub (tys' := [(ka0_15, .int), (ka0_23, .int), (ka0_24, .int), (ka0_17, .int), (ka0_18, .int)]) [0, 1, 2, 3, 4] rfl
      refine va_callv (va_runV (As := [.int a2]) (rest := []) ⟨hx, hb, hml, hown, hts⟩ (c_X8_minutesOn l dC dI H.size a0 a2 (Value.int v1na0_0) a0g_1 a0g_2 a0g_3 a0g_4 a0g_5 a0g_6 a0g_7 a0g_8 a0g_9 a0g_10 (Value.int v1na0_11) a0g_12 a0g_13 (Value.int a0_14) a0g_16 a0g_19 a0g_20 a0g_21 a0g_22 a0g_29 a0g_30 a0g_31 a0g_32 a0g_33 a0g_34 a0g_35 a0g_36 a0g_37 a0g_38 a0g_39 a0_15 a0_17 a0_18 a0_23 a0_24 a0_25 a0_26 a0_27 a0_28 ka0_15 fa0_15 ka0_23 fa0_23 ka0_24 fa0_24 ka0_17 fa0_17 ka0_18 fa0_18 bfa0_15 bfa0_23 bfa0_24 bfa0_17 bfa0_18 hkm) (cwV 1 hts gX8_place_X8_minutesOn rfl rfl rfl zd_X8_minutesOn ⟨Nat.le_of_ble_eq_true rfl, Nat.le_of_ble_eq_true rfl⟩) ⟨ax_blind (fun _ _ _ _ _ => trivial), zr_8 hKc (zp_P6 hP) (q0 := 0) rfl, ax_pre (zp_P6 hP) hKc (zp_D6 hD) (fun _ _ => trivial)⟩ rfl rfl hl.1 rfl (lv_room (Nat.le_of_ble_eq_true rfl)) dX8_place_28 ⟨Nat.le_of_ble_eq_true rfl, Nat.le_of_ble_eq_true rfl⟩) hS (fun q _ h => zp_F6 hD hS hA q h) (zp_F6 hD hS hA) (fun u t H locs ht hvm hw => zx_7 (fun v28na0_25 v28na0_26 v28na0_27 v28na0_28 v28nfa0_23 v28nfa0_24 v28nfa0_18 => zy_3 (fun bv28nfa0_23 bv28nfa0_24 bv28nfa0_18 hB hz1 hk1 hS1 => zo6 hB ht hP hD hk1 (zp_F6 hD hS hA) hS1 (fun hP hK1 hD hS => ?_))))
      refine lv_aload_n hx hb dX8_place_31 rfl (lv_at hl 1 rfl) ?_
      refine va_get (D := (dC, dI)) (ci := 8) (v := .ref a0_18) (C := RX8) (T := TX8) (N := 40) hx hb hts zi_X8_place_8 hown hK hP 0 rfl rfl 18 (by decide) (hts (.fieldLink RX8 29 "WaxTurnsModel" "trial" "[I") (zm_X8_place_r1 (List.mem_of_getElem? (i := 0) rfl))) (fun _ h9 => h9) rfl dX8_place_32 ?_
      refine lv_iload_n hx hb dX8_place_35 rfl (lv_at hl 2 rfl) ?_
      refine va_iald hx hb hK hP 5 4 rfl rfl (ai_in l7k0_a1 u7k0_a1 (by decide) (by decide)) dX8_place_36 ?_
      refine lv_topi (fun x36 ex36 => ?_)
      have bx36 : (0 : Int) ≤ x36.toInt ∧ x36.toInt ≤ 8 := by rw [ex36]; exact ai_rd bv28nfa0_18.1 l7k0_a1 u7k0_a1 (by decide) (by decide) (by decide)
      exact W.iret (v := x36) hx hb hr (fun t ht hW => ⟨⟨x36, (), rfl, ⟨(Int.le_trans zq69 bx36.1), bx36.2⟩, v1na0_0, v1na0_11, v28na0_25, v28na0_26, v28na0_27, v28na0_28, v28nfa0_23, v28nfa0_24, v28nfa0_18, bv28nfa0_23, bv28nfa0_24, bv28nfa0_18, by rw [ht]; exact hP, va_K.moved hW.alike hK, hD⟩, hS.F ht⟩) hS.2.2 dX8_place_37
  · subst hw
    refine lv_iconst (v := 0) hx hb dX8_place_10 zk_iconst_0 ?_
    refine lv_iload_n hx hb dX8_place_11 rfl (lv_at hl 2 rfl) ?_
    refine va_calli (va_runV (As := [.int 0, .int 0, .int a2]) (rest := []) ⟨hx, hb, hml, hown, hts⟩ (c_X8_aheadWhy l dC dI H.size a0 0 0 a2 (Value.int v1na0_0) a0g_1 a0g_2 a0g_3 a0g_4 a0g_5 a0g_6 a0g_7 a0g_8 a0g_9 a0g_10 (Value.int v1na0_11) a0g_12 a0g_13 (Value.int a0_14) (Value.ref a0_15) a0g_16 (Value.ref a0_17) (Value.ref a0_18) a0g_19 a0g_20 a0g_21 a0g_22 (Value.ref a0_23) (Value.ref a0_24) (Value.int a0_25) (Value.int a0_26) (Value.int a0_27) (Value.int a0_28) a0g_29 a0g_30 a0g_31 a0g_32 a0g_33 a0g_34 a0g_35 a0g_36 a0g_37 a0g_38 a0g_39 zq5 (Int.le_trans zq6 zq4) zq5 (Int.le_trans zq6 zq4)) (cwV 3 hts gX8_place_X8_aheadWhy rfl rfl rfl zd_X8_aheadWhy ⟨Nat.le_of_ble_eq_true rfl, Nat.le_of_ble_eq_true rfl⟩) ⟨ax_blind (fun _ _ _ _ _ => trivial), zr_8 (zp_K hK) (zp_P1 hP) (q0 := 0) rfl, ax_pre (zp_P1 hP) (zp_K hK) (zp_D1 hD) (fun _ _ => trivial)⟩ rfl rfl hl.1 rfl (lv_room (Nat.le_of_ble_eq_true rfl)) dX8_place_12 ⟨Nat.le_of_ble_eq_true rfl, Nat.le_of_ble_eq_true rfl⟩) hS (fun q _ h => zp_F1 hD hS hA q h) (zp_F1 hD hS hA) (fun r12 u t H locs ht hvm hw hB hz1 hk1 hS1 => zo1 hB ht hP hD hk1 (zp_F1 hD hS hA) hS1 (fun hP hK1 hD hS => ?_))
    rcases hw with hw | hw | hw
    · obtain ⟨hw, h12_0, h12_1⟩ := hw
      subst hw
      exact absurd h12_0 (by decide)
    · obtain ⟨hw, h12_0, h12_1⟩ := hw
      subst hw
      refine lv_istore_n (lv' := [(3, .int 1), (0, .ref a0), (1, .int a1), (2, .int a2)]) hx hb dX8_place_15 rfl hl (by decide) rfl (fun ls hl => ?_)
      refine lv_iload_n hx hb dX8_place_16 rfl (lv_at hl 0 rfl) ?_
      refine lv_if_eq (tgt := 26) hx hb dX8_place_17 (by decide) (fun c17 => absurd c17 (by decide +kernel)) (fun _ => ?_)
      refine lv_aload_n hx hb dX8_place_20 rfl (lv_at hl 1 rfl) ?_
      refine lv_iload_n hx hb dX8_place_21 rfl (lv_at hl 0 rfl) ?_
      refine va_calli (va_runV (As := [.int 1]) (rest := []) ⟨hx, hb, hml, hown, hts⟩ (c_X8_no l dC dI H.size a0 1 (Value.int v1na0_0) a0g_1 a0g_2 a0g_3 a0g_4 a0g_5 a0g_6 a0g_7 a0g_8 a0g_9 a0g_10 a0g_12 a0g_13 (Value.int a0_14) (Value.ref a0_15) a0g_16 (Value.ref a0_17) (Value.ref a0_18) a0g_19 a0g_20 a0g_21 a0g_22 (Value.ref a0_23) (Value.ref a0_24) (Value.int a0_25) (Value.int a0_26) (Value.int a0_27) (Value.int a0_28) a0g_29 a0g_30 a0g_31 a0g_32 a0g_33 a0g_34 a0g_35 a0g_36 a0g_37 a0g_38 a0g_39 v1na0_11 ) (cwV 1 hts gX8_place_X8_no rfl rfl rfl zd_X8_no ⟨Nat.le_of_ble_eq_true rfl, Nat.le_of_ble_eq_true rfl⟩) ⟨ax_blind (fun _ _ _ _ _ => trivial), zr_8 (zp_K hK) (zp_P1 hP) (q0 := 0) rfl, ax_pre (zp_P1 hP) (zp_K hK) (zp_D1 hD) (fun _ _ => trivial)⟩ rfl rfl hl.1 rfl (lv_room (Nat.le_of_ble_eq_true rfl)) dX8_place_22 ⟨Nat.le_of_ble_eq_true rfl, Nat.le_of_ble_eq_true rfl⟩) hS (fun q _ h => zp_F1 hD hS hA q h) (zp_F1 hD hS hA) (fun r22 u t H locs ht hvm hw => zx_1 (fun v22na0_11 hB hz1 hk1 hS1 => zo1 hB ht hP hD hk1 (zp_F1 hD hS hA) hS1 (fun hP hK1 hD hS => ?_)))
      have hw : r22 = (-1) := hw
      have hw := hw.symm
      subst hw
      exact W.iret (v := (-1)) hx hb hr (fun t ht hW => ⟨⟨(-1), (), rfl, ⟨zq70, (Int.le_trans zq71 zq72)⟩, v1na0_0, v22na0_11, a0_25, a0_26, a0_27, a0_28, fa0_23, fa0_24, fa0_18, bfa0_23, bfa0_24, bfa0_18, by rw [ht]; exact hP, va_K.moved hW.alike hK, hD⟩, hS.F ht⟩) hS.2.2 dX8_place_25
    · obtain ⟨hw, h12_0, h12_1, h12_2, h12_3⟩ := hw
      subst hw
      exact absurd h12_0 (by decide)

set_option maxHeartbeats 4000000 in
set_option maxRecDepth 100000 in
theorem c_X8_watch (l : Launch) (dC : Nat → ClassId) (dI : Nat → Nat → Nat) (sz : Nat) (a0 : Nat) (a1 : Int32) (a2 : Int32) (a0_0 : Int32) (a0g_1 a0g_2 a0g_3 a0g_4 a0g_5 a0g_6 a0g_7 a0g_8 a0g_9 a0g_10 a0g_12 a0g_13 a0g_16 a0g_18 a0g_19 a0g_20 a0g_21 a0g_22 a0g_26 a0g_27 a0g_28 a0g_29 a0g_30 a0g_31 a0g_32 a0g_33 a0g_34 a0g_35 a0g_36 a0g_37 a0g_38 a0g_39 : Value) (a0_11 : Int32) (a0_14 : Int32) (a0_15 : Nat) (a0_17 : Nat) (a0_23 : Nat) (a0_24 : Nat) (a0_25 : Int32) (ka0_15 : ClassId) (fa0_15 : Nat → Int32) (ka0_23 : ClassId) (fa0_23 : Nat → Int32) (ka0_24 : ClassId) (fa0_24 : Nat → Int32) (ka0_17 : ClassId) (fa0_17 : Nat → Int32) (ba0_14_l : (1 : Int) ≤ a0_14.toInt) (ba0_14_u : a0_14.toInt ≤ (1 : Int)) (bfa0_15 : ((∀ k : Nat, 0 ≤ k → k ≤ 0 → (2 : Int) ≤ (fa0_15 k).toInt ∧ (fa0_15 k).toInt ≤ 9) ∧ (∀ k : Nat, 1 ≤ k → k ≤ 1 → (1 : Int) ≤ (fa0_15 k).toInt ∧ (fa0_15 k).toInt ≤ 20) ∧ (∀ k : Nat, 2 ≤ k → k ≤ 2 → (0 : Int) ≤ (fa0_15 k).toInt ∧ (fa0_15 k).toInt ≤ 8) ∧ (∀ k : Nat, 3 ≤ k → k ≤ 3 → (0 : Int) ≤ (fa0_15 k).toInt ∧ (fa0_15 k).toInt ≤ 100) ∧ (∀ k : Nat, 4 ≤ k → k ≤ 4 → (0 : Int) ≤ (fa0_15 k).toInt ∧ (fa0_15 k).toInt ≤ 9) ∧ (∀ k : Nat, 5 ≤ k → k ≤ 5 → (0 : Int) ≤ (fa0_15 k).toInt ∧ (fa0_15 k).toInt ≤ 3) ∧ (∀ k : Nat, 6 ≤ k → k ≤ 6 → (0 : Int) ≤ (fa0_15 k).toInt ∧ (fa0_15 k).toInt ≤ 6) ∧ (∀ k : Nat, 7 ≤ k → k ≤ 9 → (0 : Int) ≤ (fa0_15 k).toInt ∧ (fa0_15 k).toInt ≤ 8) ∧ (∀ k : Nat, 12 ≤ k → k ≤ 29 → (0 : Int) ≤ (fa0_15 k).toInt ∧ (fa0_15 k).toInt ≤ 20) ∧ (∀ k : Nat, 30 ≤ k → k ≤ 35 → (0 : Int) ≤ (fa0_15 k).toInt ∧ (fa0_15 k).toInt ≤ 8) ∧ (∀ k : Nat, 36 ≤ k → k ≤ 47 → (0 : Int) ≤ (fa0_15 k).toInt ∧ (fa0_15 k).toInt ≤ 999))) (bfa0_23 : (∀ k, (0 : Int) ≤ (fa0_23 k).toInt ∧ (fa0_23 k).toInt ≤ 80)) (bfa0_24 : (∀ k, (0 : Int) ≤ (fa0_24 k).toInt ∧ (fa0_24 k).toInt ≤ 80)) (bfa0_17 : ((∀ k : Nat, 0 ≤ k → k ≤ 8 → (0 : Int) ≤ (fa0_17 k).toInt ∧ (fa0_17 k).toInt ≤ 8) ∧ (∀ k : Nat, 19 ≤ k → k ≤ 19 → (0 : Int) ≤ (fa0_17 k).toInt ∧ (fa0_17 k).toInt ≤ 8) ∧ (∀ k : Nat, 20 ≤ k → k ≤ 20 → (0 : Int) ≤ (fa0_17 k).toInt ∧ (fa0_17 k).toInt ≤ 19))) : zm l yX8_watch wsX8_watch ({ frames := 2, cells := 0, slots := 0, locals := 45 }) [.ref a0, .int a1, .int a2] dC dI sz [(a0, .inr (8, [Value.int a0_0, a0g_1, a0g_2, a0g_3, a0g_4, a0g_5, a0g_6, a0g_7, a0g_8, a0g_9, a0g_10, Value.int a0_11, a0g_12, a0g_13, Value.int a0_14, Value.ref a0_15, a0g_16, Value.ref a0_17, a0g_18, a0g_19, a0g_20, a0g_21, a0g_22, Value.ref a0_23, Value.ref a0_24, Value.int a0_25, a0g_26, a0g_27, a0g_28, a0g_29, a0g_30, a0g_31, a0g_32, a0g_33, a0g_34, a0g_35, a0g_36, a0g_37, a0g_38, a0g_39])), (a0_15, .inl (ka0_15, 156, .inl (fa0_15))), (a0_23, .inl (ka0_23, 3, .inl (fa0_23))), (a0_24, .inl (ka0_24, 3, .inl (fa0_24))), (a0_17, .inl (ka0_17, 23, .inl (fa0_17)))] [(ka0_15, .int), (ka0_23, .int), (ka0_24, .int), (ka0_17, .int)] (fun A _ => True) (fun A => va_Qi (fun (r : Int32) (_ : Unit) => True) (fun (_ : Unit) (t : State) => ∃ na0_0 : Int32, ∃ na0_11 : Int32, ∃ na0_25 : Int32, ∃ nfa0_23 : Nat → Int32, ∃ nfa0_24 : Nat → Int32, (∀ k, (0 : Int) ≤ (nfa0_23 k).toInt ∧ (nfa0_23 k).toInt ≤ 80) ∧ (∀ k, (0 : Int) ≤ (nfa0_24 k).toInt ∧ (nfa0_24 k).toInt ≤ 80) ∧ ax_B dC dI A [(a0, .inr (8, [Value.int na0_0, a0g_1, a0g_2, a0g_3, a0g_4, a0g_5, a0g_6, a0g_7, a0g_8, a0g_9, a0g_10, Value.int na0_11, a0g_12, a0g_13, Value.int a0_14, Value.ref a0_15, a0g_16, Value.ref a0_17, a0g_18, a0g_19, a0g_20, a0g_21, a0g_22, Value.ref a0_23, Value.ref a0_24, Value.int na0_25, a0g_26, a0g_27, a0g_28, a0g_29, a0g_30, a0g_31, a0g_32, a0g_33, a0g_34, a0g_35, a0g_36, a0g_37, a0g_38, a0g_39])), (a0_15, .inl (ka0_15, 156, .inl (fa0_15))), (a0_23, .inl (ka0_23, 3, .inl (nfa0_23))), (a0_24, .inl (ka0_24, 3, .inl (nfa0_24))), (a0_17, .inl (ka0_17, 23, .inl (fa0_17)))] [(ka0_15, .int), (ka0_23, .int), (ka0_24, .int), (ka0_17, .int)] t) A) := by
  refine zh (cc := cX8_watch) (maxL := 4) (ret := (some .int)) zn_RX8 rfl (Nat.le_of_ble_eq_true rfl) (fun p e s m below meth c A ls hx hb hml hr hts (hown : s.vm.findClass RX8 = some m.cls) hlocks hA hS hP hK hD hE (hl : lv_has ls 4 [(0, .ref a0), (1, .int a1), (2, .int a2)]) => ?_)
  refine lv_aload_n hx hb dX8_watch_0 rfl (lv_at hl 0 rfl) ?_
  refine va_callv (va_runV (As := []) (rest := []) ⟨hx, hb, hml, hown, hts⟩ (c_X8_good l dC dI s.heap.size a0 a0_0 a0g_1 a0g_2 a0g_3 a0g_4 a0g_5 a0g_6 a0g_7 a0g_8 a0g_9 a0g_10 a0g_12 a0g_13 (Value.int a0_14) (Value.ref a0_15) a0g_16 (Value.ref a0_17) a0g_18 a0g_19 a0g_20 a0g_21 a0g_22 (Value.ref a0_23) (Value.ref a0_24) (Value.int a0_25) a0g_26 a0g_27 a0g_28 a0g_29 a0g_30 a0g_31 a0g_32 a0g_33 a0g_34 a0g_35 a0g_36 a0g_37 a0g_38 a0g_39 a0_11 ) (cwV 0 hts gX8_watch_X8_good rfl rfl rfl zd_X8_good ⟨Nat.le_of_ble_eq_true rfl, Nat.le_of_ble_eq_true rfl⟩) ⟨ax_blind (fun _ _ _ _ _ => trivial), zr_8 (zp_K hK) (zp_P1 hP) (q0 := 0) rfl, ax_pre (zp_P1 hP) (zp_K hK) (zp_D1 hD) (fun _ _ => trivial)⟩ rfl rfl hl.1 rfl (lv_room (Nat.le_of_ble_eq_true rfl)) dX8_watch_1 ⟨Nat.le_of_ble_eq_true rfl, Nat.le_of_ble_eq_true rfl⟩) hS (fun q _ h => zp_F1 hD hS hA q h) (zp_F1 hD hS hA) (fun u t H locs ht hvm hw => zx_2 (fun v1na0_0 v1na0_11 hB hz1 hk1 hS1 => zo1 hB ht hP hD hk1 (zp_F1 hD hS hA) hS1 (fun hP hK1 hD hS => ?_)))
  refine lv_aload_n hx hb dX8_watch_4 rfl (lv_at hl 0 rfl) ?_
  refine lv_aload_n hx hb dX8_watch_5 rfl (lv_at hl 0 rfl) ?_
  refine lv_iload_n hx hb dX8_watch_6 rfl (lv_at hl 1 rfl) ?_
  have hKc := hK.sub (tys' := [(ka0_15, .int)]) [0] rfl
  refine va_calli (va_runV (As := [.int a1]) (rest := [.ref a0]) ⟨hx, hb, hml, hown, hts⟩ (c_X8_isWatcher l dC dI H.size a0 a1 (Value.int v1na0_0) a0g_1 a0g_2 a0g_3 a0g_4 a0g_5 a0g_6 a0g_7 a0g_8 a0g_9 a0g_10 (Value.int v1na0_11) a0g_12 a0g_13 a0g_16 (Value.ref a0_17) a0g_18 a0g_19 a0g_20 a0g_21 a0g_22 (Value.ref a0_23) (Value.ref a0_24) (Value.int a0_25) a0g_26 a0g_27 a0g_28 a0g_29 a0g_30 a0g_31 a0g_32 a0g_33 a0g_34 a0g_35 a0g_36 a0g_37 a0g_38 a0g_39 a0_14 a0_15 ka0_15 fa0_15 ba0_14_l ba0_14_u bfa0_15) (cwV 1 hts gX8_watch_X8_isWatcher rfl rfl rfl zd_X8_isWatcher ⟨Nat.le_of_ble_eq_true rfl, Nat.le_of_ble_eq_true rfl⟩) ⟨ax_blind (fun _ _ _ _ _ => trivial), zr_8 hKc (zp_P2 hP) (q0 := 0) rfl, ax_pre (zp_P2 hP) hKc (zp_D2 hD) (fun _ _ => trivial)⟩ rfl rfl hl.1 rfl (lv_room (Nat.le_of_ble_eq_true rfl)) dX8_watch_7 ⟨Nat.le_of_ble_eq_true rfl, Nat.le_of_ble_eq_true rfl⟩) hS (fun q _ h => zp_F2 hD hS hA q h) (zp_F2 hD hS hA) (fun r7 u t H locs ht hvm hw hB hz1 hk1 hS1 => zo2 hB ht hP hD hk1 (zp_F2 hD hS hA) hS1 (fun hP hK1 hD hS => ?_))
  rcases hw with hw | hw
  · obtain ⟨hw, h7_0, h7_1⟩ := hw
    subst hw
    have l7k0_a1 : (0 : Int) ≤ a1.toInt := h7_0
    have u7k0_a1 : a1.toInt ≤ (2 : Int) := h7_1
    refine lv_iconst (v := 1) hx hb dX8_watch_10 zk_iconst_1 ?_
    refine lv_iload_n hx hb dX8_watch_11 rfl (lv_at hl 2 rfl) ?_
    refine va_calli (va_runV (As := [.int 1, .int 1, .int a2]) (rest := []) ⟨hx, hb, hml, hown, hts⟩ (c_X8_aheadWhy l dC dI H.size a0 1 1 a2 (Value.int v1na0_0) a0g_1 a0g_2 a0g_3 a0g_4 a0g_5 a0g_6 a0g_7 a0g_8 a0g_9 a0g_10 (Value.int v1na0_11) a0g_12 a0g_13 (Value.int a0_14) (Value.ref a0_15) a0g_16 (Value.ref a0_17) a0g_18 a0g_19 a0g_20 a0g_21 a0g_22 (Value.ref a0_23) (Value.ref a0_24) (Value.int a0_25) a0g_26 a0g_27 a0g_28 a0g_29 a0g_30 a0g_31 a0g_32 a0g_33 a0g_34 a0g_35 a0g_36 a0g_37 a0g_38 a0g_39 (Int.le_trans zq4 zq1) zq0 (Int.le_trans zq4 zq1) zq0) (cwV 3 hts gX8_watch_X8_aheadWhy rfl rfl rfl zd_X8_aheadWhy ⟨Nat.le_of_ble_eq_true rfl, Nat.le_of_ble_eq_true rfl⟩) ⟨ax_blind (fun _ _ _ _ _ => trivial), zr_8 (zp_K hK) (zp_P1 hP) (q0 := 0) rfl, ax_pre (zp_P1 hP) (zp_K hK) (zp_D1 hD) (fun _ _ => trivial)⟩ rfl rfl hl.1 rfl (lv_room (Nat.le_of_ble_eq_true rfl)) dX8_watch_12 ⟨Nat.le_of_ble_eq_true rfl, Nat.le_of_ble_eq_true rfl⟩) hS (fun q _ h => zp_F1 hD hS hA q h) (zp_F1 hD hS hA) (fun r12 u t H locs ht hvm hw hB hz1 hk1 hS1 => zo1 hB ht hP hD hk1 (zp_F1 hD hS hA) hS1 (fun hP hK1 hD hS => ?_))
    rcases hw with hw | hw | hw
    · obtain ⟨hw, h12_0, h12_1⟩ := hw
      subst hw
      refine lv_istore_n (lv' := [(3, .int 2), (0, .ref a0), (1, .int a1), (2, .int a2)]) hx hb dX8_watch_15 rfl hl (by decide) rfl (fun ls hl => ?_)
      refine lv_iload_n hx hb dX8_watch_16 rfl (lv_at hl 0 rfl) ?_
      refine lv_if_eq (tgt := 26) hx hb dX8_watch_17 (by decide) (fun c17 => absurd c17 (by decide +kernel)) (fun _ => ?_)
      refine lv_aload_n hx hb dX8_watch_20 rfl (lv_at hl 1 rfl) ?_
      refine lv_iload_n hx hb dX8_watch_21 rfl (lv_at hl 0 rfl) ?_
      refine va_calli (va_runV (As := [.int 2]) (rest := []) ⟨hx, hb, hml, hown, hts⟩ (c_X8_no l dC dI H.size a0 2 (Value.int v1na0_0) a0g_1 a0g_2 a0g_3 a0g_4 a0g_5 a0g_6 a0g_7 a0g_8 a0g_9 a0g_10 a0g_12 a0g_13 (Value.int a0_14) (Value.ref a0_15) a0g_16 (Value.ref a0_17) a0g_18 a0g_19 a0g_20 a0g_21 a0g_22 (Value.ref a0_23) (Value.ref a0_24) (Value.int a0_25) a0g_26 a0g_27 a0g_28 a0g_29 a0g_30 a0g_31 a0g_32 a0g_33 a0g_34 a0g_35 a0g_36 a0g_37 a0g_38 a0g_39 v1na0_11 ) (cwV 1 hts gX8_watch_X8_no rfl rfl rfl zd_X8_no ⟨Nat.le_of_ble_eq_true rfl, Nat.le_of_ble_eq_true rfl⟩) ⟨ax_blind (fun _ _ _ _ _ => trivial), zr_8 (zp_K hK) (zp_P1 hP) (q0 := 0) rfl, ax_pre (zp_P1 hP) (zp_K hK) (zp_D1 hD) (fun _ _ => trivial)⟩ rfl rfl hl.1 rfl (lv_room (Nat.le_of_ble_eq_true rfl)) dX8_watch_22 ⟨Nat.le_of_ble_eq_true rfl, Nat.le_of_ble_eq_true rfl⟩) hS (fun q _ h => zp_F1 hD hS hA q h) (zp_F1 hD hS hA) (fun r22 u t H locs ht hvm hw => zx_1 (fun v22na0_11 hB hz1 hk1 hS1 => zo1 hB ht hP hD hk1 (zp_F1 hD hS hA) hS1 (fun hP hK1 hD hS => ?_)))
      have hw : r22 = (-1) := hw
      have hw := hw.symm
      subst hw
      exact W.iret (v := (-1)) hx hb hr (fun t ht hW => ⟨⟨(-1), (), rfl, trivial, v1na0_0, v22na0_11, a0_25, fa0_23, fa0_24, bfa0_23, bfa0_24, by rw [ht]; exact hP, va_K.moved hW.alike hK, hD⟩, hS.F ht⟩) hS.2.2 dX8_watch_25
    · obtain ⟨hw, h12_0, h12_1⟩ := hw
      subst hw
      exact absurd h12_1 (by decide)
    · obtain ⟨hw, h12_0, h12_1, h12_2, h12_3⟩ := hw
      subst hw
      have l12k2_a2 : (0 : Int) ≤ a2.toInt := h12_2
      have u12k2_a2 : a2.toInt ≤ (300 : Int) := h12_3
      refine lv_istore_n (lv' := [(3, .int 0), (0, .ref a0), (1, .int a1), (2, .int a2)]) hx hb dX8_watch_15 rfl hl (by decide) rfl (fun ls hl => ?_)
      refine lv_iload_n hx hb dX8_watch_16 rfl (lv_at hl 0 rfl) ?_
      refine lv_if_eq (tgt := 26) hx hb dX8_watch_17 (by decide) (fun _ => ?_) (fun c17 => absurd (by decide +kernel) c17)
      refine lv_aload_n hx hb dX8_watch_26 rfl (lv_at hl 1 rfl) ?_
      have hKc := hK.sub (tys' := [(ka0_15, .int), (ka0_23, .int), (ka0_24, .int)]) [0, 1, 2] rfl
      refine va_callv (va_runV (As := []) (rest := []) ⟨hx, hb, hml, hown, hts⟩ (c_X8_watchAsTold l dC dI H.size a0 (Value.int v1na0_0) a0g_1 a0g_2 a0g_3 a0g_4 a0g_5 a0g_6 a0g_7 a0g_8 a0g_9 a0g_10 (Value.int v1na0_11) a0g_12 a0g_13 (Value.int a0_14) a0g_16 (Value.ref a0_17) a0g_18 a0g_19 a0g_20 a0g_21 a0g_22 a0g_26 a0g_27 a0g_28 a0g_29 a0g_30 a0g_31 a0g_32 a0g_33 a0g_34 a0g_35 a0g_36 a0g_37 a0g_38 a0g_39 a0_15 a0_23 a0_24 a0_25 ka0_15 fa0_15 ka0_23 fa0_23 ka0_24 fa0_24 bfa0_15 bfa0_23 bfa0_24) (cwV 0 hts gX8_watch_X8_watchAsTold rfl rfl rfl zd_X8_watchAsTold ⟨Nat.le_of_ble_eq_true rfl, Nat.le_of_ble_eq_true rfl⟩) ⟨ax_blind (fun _ _ _ _ _ => trivial), zr_8 hKc (zp_P4 hP) (q0 := 0) rfl, ax_pre (zp_P4 hP) hKc (zp_D4 hD) (fun _ _ => trivial)⟩ rfl rfl hl.1 rfl (lv_room (Nat.le_of_ble_eq_true rfl)) dX8_watch_27 ⟨Nat.le_of_ble_eq_true rfl, Nat.le_of_ble_eq_true rfl⟩) hS (fun q _ h => zp_F4 hD hS hA q h) (zp_F4 hD hS hA) (fun u t H locs ht hvm hw => zx_3 (fun v27na0_25 v27nfa0_23 v27nfa0_24 => zy_2 (fun bv27nfa0_23 bv27nfa0_24 hB hz1 hk1 hS1 => zo4 hB ht hP hD hk1 (zp_F4 hD hS hA) hS1 (fun hP hK1 hD hS => ?_))))
      refine lv_aload_n hx hb dX8_watch_30 rfl (lv_at hl 1 rfl) ?_
      refine lv_iload_n hx hb dX8_watch_31 rfl (lv_at hl 2 rfl) ?_
      refine lv_aload_n hx hb dX8_watch_32 rfl (lv_at hl 1 rfl) ?_
      refine va_get (D := (dC, dI)) (ci := 8) (v := .ref a0_17) (C := RX8) (T := TX8) (N := 40) hx hb hts zi_X8_watch_8 hown hK hP 0 rfl rfl 17 (by decide) (hts (.fieldLink RX8 26 "WaxTurnsModel" "st" "[I") (zm_X8_watch_r1 (List.mem_of_getElem? (i := 0) rfl))) (fun _ h9 => h9) rfl dX8_watch_33 ?_
      refine lv_bipush (v := 21) hx hb dX8_watch_36 zk_bipush_21 ?_
      refine va_iald hx hb hK hP 4 3 rfl rfl (by unfold vp_in; decide +kernel) dX8_watch_38 ?_
      refine lv_topi (fun x38 ex38 => ?_)
      refine lv_iload_n hx hb dX8_watch_39 rfl (lv_at hl 3 rfl) ?_
      refine lv_iadd hx hb dX8_watch_40 ?_
      refine lv_topi (fun x40 ex40 => ?_)
      refine lv_iconst (v := 1) hx hb dX8_watch_41 zk_iconst_1 ?_
      refine lv_isub hx hb dX8_watch_42 ?_
      refine lv_topi (fun x42 ex42 => ?_)
      refine zc_cutc (wc := [(a0, .inr (8, [Value.int v1na0_0, a0g_1, a0g_2, a0g_3, a0g_4, a0g_5, a0g_6, a0g_7, a0g_8, a0g_9, a0g_10, Value.int v1na0_11, a0g_12, a0g_13, Value.int a0_14, Value.ref a0_15, a0g_16, Value.ref a0_17, a0g_18, a0g_19, a0g_20, a0g_21, a0g_22, Value.ref a0_23, Value.ref a0_24, Value.int v27na0_25, a0g_26, a0g_27, a0g_28, a0g_29, a0g_30, a0g_31, a0g_32, a0g_33, a0g_34, a0g_35, a0g_36, a0g_37, a0g_38, a0g_39])), (a0_24, .inl (ka0_24, 3, .inl (v27nfa0_24))), (a0_23, .inl (ka0_23, 3, .inl (v27nfa0_23)))]) hP hD hS hA [0, 3, 2] (by decide +kernel) rfl (fun hPc hDc hFc hCc => ?_)
      have hKc := hK.sub (tys' := [(ka0_24, .int), (ka0_23, .int)]) [2, 1] rfl
      refine va_calli (va_runV (As := [.int a1, .int x42]) (rest := []) ⟨hx, hb, hml, hown, hts⟩ (c_X8_watcherAt l dC dI H.size a0 a1 x42 (Value.int v1na0_0) a0g_1 a0g_2 a0g_3 a0g_4 a0g_5 a0g_6 a0g_7 a0g_8 a0g_9 a0g_10 (Value.int v1na0_11) a0g_12 a0g_13 (Value.int a0_14) (Value.ref a0_15) a0g_16 (Value.ref a0_17) a0g_18 a0g_19 a0g_20 a0g_21 a0g_22 (Value.int v27na0_25) a0g_26 a0g_27 a0g_28 a0g_29 a0g_30 a0g_31 a0g_32 a0g_33 a0g_34 a0g_35 a0g_36 a0g_37 a0g_38 a0g_39 a0_23 a0_24 ka0_24 v27nfa0_24 ka0_23 v27nfa0_23 l7k0_a1 u7k0_a1 bv27nfa0_24 bv27nfa0_23) (cwV 2 hts gX8_watch_X8_watcherAt rfl rfl rfl zd_X8_watcherAt ⟨Nat.le_of_ble_eq_true rfl, Nat.le_of_ble_eq_true rfl⟩) ⟨ax_blind (fun _ _ _ _ _ => trivial), zr_8 hKc hPc (q0 := 0) rfl, ax_pre hPc hKc hDc (fun _ _ => trivial)⟩ rfl rfl hl.1 rfl (lv_room (Nat.le_of_ble_eq_true rfl)) dX8_watch_43 ⟨Nat.le_of_ble_eq_true rfl, Nat.le_of_ble_eq_true rfl⟩) hS (fun q _ h => hFc q h) hFc (fun r43 u t H locs ht hvm hw hB hz1 hk1 hS1 => zo hB ht hS1 (fun hP1 hK1 hD1 hS => ?_))
      refine zc_backc (w := [(a0, .inr (8, [Value.int v1na0_0, a0g_1, a0g_2, a0g_3, a0g_4, a0g_5, a0g_6, a0g_7, a0g_8, a0g_9, a0g_10, Value.int v1na0_11, a0g_12, a0g_13, Value.int a0_14, Value.ref a0_15, a0g_16, Value.ref a0_17, a0g_18, a0g_19, a0g_20, a0g_21, a0g_22, Value.ref a0_23, Value.ref a0_24, Value.int v27na0_25, a0g_26, a0g_27, a0g_28, a0g_29, a0g_30, a0g_31, a0g_32, a0g_33, a0g_34, a0g_35, a0g_36, a0g_37, a0g_38, a0g_39])), (a0_15, .inl (ka0_15, 156, .inl (fa0_15))), (a0_23, .inl (ka0_23, 3, .inl (v27nfa0_23))), (a0_24, .inl (ka0_24, 3, .inl (v27nfa0_24))), (a0_17, .inl (ka0_17, 23, .inl (fa0_17)))]) hP hD hCc hk1 hFc hP1 hD1 [.inr 0, .inl 1, .inr 2, .inr 1, .inl 4] (by decide +kernel) rfl (fun hP hD => ?_)
      exact W.iret (v := r43) hx hb hr (fun t ht hW => ⟨⟨r43, (), rfl, trivial, v1na0_0, v1na0_11, v27na0_25, v27nfa0_23, v27nfa0_24, bv27nfa0_23, bv27nfa0_24, by rw [ht]; exact hP, va_K.moved hW.alike hK, hD⟩, hS.F ht⟩) hS.2.2 dX8_watch_46
  · subst hw
    refine lv_iconst (v := 1) hx hb dX8_watch_10 zk_iconst_1 ?_
    refine lv_iload_n hx hb dX8_watch_11 rfl (lv_at hl 2 rfl) ?_
    refine va_calli (va_runV (As := [.int 0, .int 1, .int a2]) (rest := []) ⟨hx, hb, hml, hown, hts⟩ (c_X8_aheadWhy l dC dI H.size a0 0 1 a2 (Value.int v1na0_0) a0g_1 a0g_2 a0g_3 a0g_4 a0g_5 a0g_6 a0g_7 a0g_8 a0g_9 a0g_10 (Value.int v1na0_11) a0g_12 a0g_13 (Value.int a0_14) (Value.ref a0_15) a0g_16 (Value.ref a0_17) a0g_18 a0g_19 a0g_20 a0g_21 a0g_22 (Value.ref a0_23) (Value.ref a0_24) (Value.int a0_25) a0g_26 a0g_27 a0g_28 a0g_29 a0g_30 a0g_31 a0g_32 a0g_33 a0g_34 a0g_35 a0g_36 a0g_37 a0g_38 a0g_39 zq5 (Int.le_trans zq6 zq4) (Int.le_trans zq4 zq1) zq0) (cwV 3 hts gX8_watch_X8_aheadWhy rfl rfl rfl zd_X8_aheadWhy ⟨Nat.le_of_ble_eq_true rfl, Nat.le_of_ble_eq_true rfl⟩) ⟨ax_blind (fun _ _ _ _ _ => trivial), zr_8 (zp_K hK) (zp_P1 hP) (q0 := 0) rfl, ax_pre (zp_P1 hP) (zp_K hK) (zp_D1 hD) (fun _ _ => trivial)⟩ rfl rfl hl.1 rfl (lv_room (Nat.le_of_ble_eq_true rfl)) dX8_watch_12 ⟨Nat.le_of_ble_eq_true rfl, Nat.le_of_ble_eq_true rfl⟩) hS (fun q _ h => zp_F1 hD hS hA q h) (zp_F1 hD hS hA) (fun r12 u t H locs ht hvm hw hB hz1 hk1 hS1 => zo1 hB ht hP hD hk1 (zp_F1 hD hS hA) hS1 (fun hP hK1 hD hS => ?_))
    rcases hw with hw | hw | hw
    · obtain ⟨hw, h12_0, h12_1⟩ := hw
      subst hw
      exact absurd h12_0 (by decide)
    · obtain ⟨hw, h12_0, h12_1⟩ := hw
      subst hw
      refine lv_istore_n (lv' := [(3, .int 1), (0, .ref a0), (1, .int a1), (2, .int a2)]) hx hb dX8_watch_15 rfl hl (by decide) rfl (fun ls hl => ?_)
      refine lv_iload_n hx hb dX8_watch_16 rfl (lv_at hl 0 rfl) ?_
      refine lv_if_eq (tgt := 26) hx hb dX8_watch_17 (by decide) (fun c17 => absurd c17 (by decide +kernel)) (fun _ => ?_)
      refine lv_aload_n hx hb dX8_watch_20 rfl (lv_at hl 1 rfl) ?_
      refine lv_iload_n hx hb dX8_watch_21 rfl (lv_at hl 0 rfl) ?_
      refine va_calli (va_runV (As := [.int 1]) (rest := []) ⟨hx, hb, hml, hown, hts⟩ (c_X8_no l dC dI H.size a0 1 (Value.int v1na0_0) a0g_1 a0g_2 a0g_3 a0g_4 a0g_5 a0g_6 a0g_7 a0g_8 a0g_9 a0g_10 a0g_12 a0g_13 (Value.int a0_14) (Value.ref a0_15) a0g_16 (Value.ref a0_17) a0g_18 a0g_19 a0g_20 a0g_21 a0g_22 (Value.ref a0_23) (Value.ref a0_24) (Value.int a0_25) a0g_26 a0g_27 a0g_28 a0g_29 a0g_30 a0g_31 a0g_32 a0g_33 a0g_34 a0g_35 a0g_36 a0g_37 a0g_38 a0g_39 v1na0_11 ) (cwV 1 hts gX8_watch_X8_no rfl rfl rfl zd_X8_no ⟨Nat.le_of_ble_eq_true rfl, Nat.le_of_ble_eq_true rfl⟩) ⟨ax_blind (fun _ _ _ _ _ => trivial), zr_8 (zp_K hK) (zp_P1 hP) (q0 := 0) rfl, ax_pre (zp_P1 hP) (zp_K hK) (zp_D1 hD) (fun _ _ => trivial)⟩ rfl rfl hl.1 rfl (lv_room (Nat.le_of_ble_eq_true rfl)) dX8_watch_22 ⟨Nat.le_of_ble_eq_true rfl, Nat.le_of_ble_eq_true rfl⟩) hS (fun q _ h => zp_F1 hD hS hA q h) (zp_F1 hD hS hA) (fun r22 u t H locs ht hvm hw => zx_1 (fun v22na0_11 hB hz1 hk1 hS1 => zo1 hB ht hP hD hk1 (zp_F1 hD hS hA) hS1 (fun hP hK1 hD hS => ?_)))
      have hw : r22 = (-1) := hw
      have hw := hw.symm
      subst hw
      exact W.iret (v := (-1)) hx hb hr (fun t ht hW => ⟨⟨(-1), (), rfl, trivial, v1na0_0, v22na0_11, a0_25, fa0_23, fa0_24, bfa0_23, bfa0_24, by rw [ht]; exact hP, va_K.moved hW.alike hK, hD⟩, hS.F ht⟩) hS.2.2 dX8_watch_25
    · obtain ⟨hw, h12_0, h12_1, h12_2, h12_3⟩ := hw
      subst hw
      exact absurd h12_0 (by decide)

set_option maxHeartbeats 4000000 in
set_option maxRecDepth 100000 in
theorem c_X8_gone (l : Launch) (dC : Nat → ClassId) (dI : Nat → Nat → Nat) (sz : Nat) (a0 : Nat) (a1 : Int32) (a0_0 : Int32) (a0g_1 a0g_2 a0g_3 a0g_4 a0g_5 a0g_6 a0g_7 a0g_8 a0g_9 a0g_10 a0g_12 a0g_13 a0g_16 a0g_19 a0g_20 a0g_21 a0g_22 a0g_29 a0g_30 a0g_31 a0g_32 a0g_33 a0g_34 a0g_35 a0g_36 a0g_37 a0g_38 a0g_39 : Value) (a0_11 : Int32) (a0_14 : Int32) (a0_15 : Nat) (a0_17 : Nat) (a0_18 : Nat) (a0_23 : Nat) (a0_24 : Nat) (a0_25 : Int32) (a0_26 : Int32) (a0_27 : Int32) (a0_28 : Int32) (ka0_15 : ClassId) (fa0_15 : Nat → Int32) (ka0_23 : ClassId) (fa0_23 : Nat → Int32) (ka0_24 : ClassId) (fa0_24 : Nat → Int32) (ka0_17 : ClassId) (fa0_17 : Nat → Int32) (ka0_18 : ClassId) (fa0_18 : Nat → Int32) (ba0_14_l : (1 : Int) ≤ a0_14.toInt) (ba0_14_u : a0_14.toInt ≤ (1 : Int)) (bfa0_15 : ((∀ k : Nat, 0 ≤ k → k ≤ 0 → (2 : Int) ≤ (fa0_15 k).toInt ∧ (fa0_15 k).toInt ≤ 9) ∧ (∀ k : Nat, 1 ≤ k → k ≤ 1 → (1 : Int) ≤ (fa0_15 k).toInt ∧ (fa0_15 k).toInt ≤ 20) ∧ (∀ k : Nat, 2 ≤ k → k ≤ 2 → (0 : Int) ≤ (fa0_15 k).toInt ∧ (fa0_15 k).toInt ≤ 8) ∧ (∀ k : Nat, 3 ≤ k → k ≤ 3 → (0 : Int) ≤ (fa0_15 k).toInt ∧ (fa0_15 k).toInt ≤ 100) ∧ (∀ k : Nat, 4 ≤ k → k ≤ 4 → (0 : Int) ≤ (fa0_15 k).toInt ∧ (fa0_15 k).toInt ≤ 9) ∧ (∀ k : Nat, 5 ≤ k → k ≤ 5 → (0 : Int) ≤ (fa0_15 k).toInt ∧ (fa0_15 k).toInt ≤ 3) ∧ (∀ k : Nat, 6 ≤ k → k ≤ 6 → (0 : Int) ≤ (fa0_15 k).toInt ∧ (fa0_15 k).toInt ≤ 6) ∧ (∀ k : Nat, 7 ≤ k → k ≤ 9 → (0 : Int) ≤ (fa0_15 k).toInt ∧ (fa0_15 k).toInt ≤ 8) ∧ (∀ k : Nat, 12 ≤ k → k ≤ 29 → (0 : Int) ≤ (fa0_15 k).toInt ∧ (fa0_15 k).toInt ≤ 20) ∧ (∀ k : Nat, 30 ≤ k → k ≤ 35 → (0 : Int) ≤ (fa0_15 k).toInt ∧ (fa0_15 k).toInt ≤ 8) ∧ (∀ k : Nat, 36 ≤ k → k ≤ 47 → (0 : Int) ≤ (fa0_15 k).toInt ∧ (fa0_15 k).toInt ≤ 999))) (bfa0_23 : (∀ k, (0 : Int) ≤ (fa0_23 k).toInt ∧ (fa0_23 k).toInt ≤ 80)) (bfa0_24 : (∀ k, (0 : Int) ≤ (fa0_24 k).toInt ∧ (fa0_24 k).toInt ≤ 80)) (bfa0_17 : ((∀ k : Nat, 0 ≤ k → k ≤ 8 → (0 : Int) ≤ (fa0_17 k).toInt ∧ (fa0_17 k).toInt ≤ 8) ∧ (∀ k : Nat, 19 ≤ k → k ≤ 19 → (0 : Int) ≤ (fa0_17 k).toInt ∧ (fa0_17 k).toInt ≤ 8) ∧ (∀ k : Nat, 20 ≤ k → k ≤ 20 → (0 : Int) ≤ (fa0_17 k).toInt ∧ (fa0_17 k).toInt ≤ 19))) (bfa0_18 : ((∀ k : Nat, 0 ≤ k → k ≤ 8 → (0 : Int) ≤ (fa0_18 k).toInt ∧ (fa0_18 k).toInt ≤ 8) ∧ (∀ k : Nat, 19 ≤ k → k ≤ 19 → (0 : Int) ≤ (fa0_18 k).toInt ∧ (fa0_18 k).toInt ≤ 8) ∧ (∀ k : Nat, 20 ≤ k → k ≤ 20 → (0 : Int) ≤ (fa0_18 k).toInt ∧ (fa0_18 k).toInt ≤ 19))) (hkm : ∀ (j i0 i : Int32), (0 : Int) ≤ j.toInt → j.toInt ≤ 8 → i0.toInt = 12 + 2 * j.toInt → i.toInt = 13 + 2 * j.toInt → (fa0_15 i0.toNatClampNeg).toInt = (1 : Int32).toInt → (1 : Int) ≤ (fa0_15 i.toNatClampNeg).toInt) : zm l yX8_gone wsX8_gone ({ frames := 5, cells := 0, slots := 0, locals := 117 }) [.ref a0, .int a1] dC dI sz [(a0, .inr (8, [Value.int a0_0, a0g_1, a0g_2, a0g_3, a0g_4, a0g_5, a0g_6, a0g_7, a0g_8, a0g_9, a0g_10, Value.int a0_11, a0g_12, a0g_13, Value.int a0_14, Value.ref a0_15, a0g_16, Value.ref a0_17, Value.ref a0_18, a0g_19, a0g_20, a0g_21, a0g_22, Value.ref a0_23, Value.ref a0_24, Value.int a0_25, Value.int a0_26, Value.int a0_27, Value.int a0_28, a0g_29, a0g_30, a0g_31, a0g_32, a0g_33, a0g_34, a0g_35, a0g_36, a0g_37, a0g_38, a0g_39])), (a0_15, .inl (ka0_15, 156, .inl (fa0_15))), (a0_23, .inl (ka0_23, 3, .inl (fa0_23))), (a0_24, .inl (ka0_24, 3, .inl (fa0_24))), (a0_17, .inl (ka0_17, 23, .inl (fa0_17))), (a0_18, .inl (ka0_18, 23, .inl (fa0_18)))] [(ka0_15, .int), (ka0_23, .int), (ka0_24, .int), (ka0_17, .int), (ka0_18, .int)] (fun A _ => True) (fun A => va_Qi (fun (r : Int32) (_ : Unit) => True) (fun (_ : Unit) (t : State) => ∃ na0_0 : Int32, ∃ na0_11 : Int32, ∃ na0_25 : Int32, ∃ na0_26 : Int32, ∃ na0_27 : Int32, ∃ na0_28 : Int32, ∃ nfa0_23 : Nat → Int32, ∃ nfa0_24 : Nat → Int32, ∃ nfa0_18 : Nat → Int32, (∀ k, (0 : Int) ≤ (nfa0_23 k).toInt ∧ (nfa0_23 k).toInt ≤ 80) ∧ (∀ k, (0 : Int) ≤ (nfa0_24 k).toInt ∧ (nfa0_24 k).toInt ≤ 80) ∧ ((∀ k : Nat, 0 ≤ k → k ≤ 8 → (0 : Int) ≤ (nfa0_18 k).toInt ∧ (nfa0_18 k).toInt ≤ 8) ∧ (∀ k : Nat, 19 ≤ k → k ≤ 19 → (0 : Int) ≤ (nfa0_18 k).toInt ∧ (nfa0_18 k).toInt ≤ 8) ∧ (∀ k : Nat, 20 ≤ k → k ≤ 20 → (0 : Int) ≤ (nfa0_18 k).toInt ∧ (nfa0_18 k).toInt ≤ 19)) ∧ ax_B dC dI A [(a0, .inr (8, [Value.int na0_0, a0g_1, a0g_2, a0g_3, a0g_4, a0g_5, a0g_6, a0g_7, a0g_8, a0g_9, a0g_10, Value.int na0_11, a0g_12, a0g_13, Value.int a0_14, Value.ref a0_15, a0g_16, Value.ref a0_17, Value.ref a0_18, a0g_19, a0g_20, a0g_21, a0g_22, Value.ref a0_23, Value.ref a0_24, Value.int na0_25, Value.int na0_26, Value.int na0_27, Value.int na0_28, a0g_29, a0g_30, a0g_31, a0g_32, a0g_33, a0g_34, a0g_35, a0g_36, a0g_37, a0g_38, a0g_39])), (a0_15, .inl (ka0_15, 156, .inl (fa0_15))), (a0_23, .inl (ka0_23, 3, .inl (nfa0_23))), (a0_24, .inl (ka0_24, 3, .inl (nfa0_24))), (a0_17, .inl (ka0_17, 23, .inl (fa0_17))), (a0_18, .inl (ka0_18, 23, .inl (nfa0_18)))] [(ka0_15, .int), (ka0_23, .int), (ka0_24, .int), (ka0_17, .int), (ka0_18, .int)] t) A) := by
  refine zh (cc := cX8_gone) (maxL := 3) (ret := (some .int)) zn_RX8 rfl (Nat.le_of_ble_eq_true rfl) (fun p e s m below meth c A ls hx hb hml hr hts (hown : s.vm.findClass RX8 = some m.cls) hlocks hA hS hP hK hD hE (hl : lv_has ls 3 [(0, .ref a0), (1, .int a1)]) => ?_)
  refine lv_aload_n hx hb dX8_gone_0 rfl (lv_at hl 0 rfl) ?_
  refine va_callv (va_runV (As := []) (rest := []) ⟨hx, hb, hml, hown, hts⟩ (c_X8_good l dC dI s.heap.size a0 a0_0 a0g_1 a0g_2 a0g_3 a0g_4 a0g_5 a0g_6 a0g_7 a0g_8 a0g_9 a0g_10 a0g_12 a0g_13 (Value.int a0_14) (Value.ref a0_15) a0g_16 (Value.ref a0_17) (Value.ref a0_18) a0g_19 a0g_20 a0g_21 a0g_22 (Value.ref a0_23) (Value.ref a0_24) (Value.int a0_25) (Value.int a0_26) (Value.int a0_27) (Value.int a0_28) a0g_29 a0g_30 a0g_31 a0g_32 a0g_33 a0g_34 a0g_35 a0g_36 a0g_37 a0g_38 a0g_39 a0_11 ) (cwV 0 hts gX8_gone_X8_good rfl rfl rfl zd_X8_good ⟨Nat.le_of_ble_eq_true rfl, Nat.le_of_ble_eq_true rfl⟩) ⟨ax_blind (fun _ _ _ _ _ => trivial), zr_8 (zp_K hK) (zp_P1 hP) (q0 := 0) rfl, ax_pre (zp_P1 hP) (zp_K hK) (zp_D1 hD) (fun _ _ => trivial)⟩ rfl rfl hl.1 rfl (lv_room (Nat.le_of_ble_eq_true rfl)) dX8_gone_1 ⟨Nat.le_of_ble_eq_true rfl, Nat.le_of_ble_eq_true rfl⟩) hS (fun q _ h => zp_F1 hD hS hA q h) (zp_F1 hD hS hA) (fun u t H locs ht hvm hw => zx_2 (fun v1na0_0 v1na0_11 hB hz1 hk1 hS1 => zo1 hB ht hP hD hk1 (zp_F1 hD hS hA) hS1 (fun hP hK1 hD hS => ?_)))
  refine lv_aload_n hx hb dX8_gone_4 rfl (lv_at hl 0 rfl) ?_
  refine lv_aload_n hx hb dX8_gone_5 rfl (lv_at hl 0 rfl) ?_
  refine va_get (D := (dC, dI)) (ci := 8) (v := .int a0_14) (C := RX8) (T := TX8) (N := 40) hx hb hts zi_X8_gone_8 hown hK hP 0 rfl rfl 14 (by decide) (hts (.fieldLink RX8 173 "WaxTurnsModel" "hasGallery" "Z") (zm_X8_gone_r1 (List.mem_of_getElem? (i := 0) rfl))) (fun _ h9 => h9) rfl dX8_gone_6 ?_
  refine lv_iconst (v := 0) hx hb dX8_gone_9 zk_iconst_0 ?_
  refine lv_iload_n hx hb dX8_gone_10 rfl (lv_at hl 1 rfl) ?_
  refine va_calli (va_runV (As := [.int a0_14, .int 0, .int a1]) (rest := []) ⟨hx, hb, hml, hown, hts⟩ (c_X8_aheadWhy l dC dI H.size a0 a0_14 0 a1 (Value.int v1na0_0) a0g_1 a0g_2 a0g_3 a0g_4 a0g_5 a0g_6 a0g_7 a0g_8 a0g_9 a0g_10 (Value.int v1na0_11) a0g_12 a0g_13 (Value.int a0_14) (Value.ref a0_15) a0g_16 (Value.ref a0_17) (Value.ref a0_18) a0g_19 a0g_20 a0g_21 a0g_22 (Value.ref a0_23) (Value.ref a0_24) (Value.int a0_25) (Value.int a0_26) (Value.int a0_27) (Value.int a0_28) a0g_29 a0g_30 a0g_31 a0g_32 a0g_33 a0g_34 a0g_35 a0g_36 a0g_37 a0g_38 a0g_39 (Int.le_trans zq4 ba0_14_l) ba0_14_u zq5 (Int.le_trans zq6 zq4)) (cwV 3 hts gX8_gone_X8_aheadWhy rfl rfl rfl zd_X8_aheadWhy ⟨Nat.le_of_ble_eq_true rfl, Nat.le_of_ble_eq_true rfl⟩) ⟨ax_blind (fun _ _ _ _ _ => trivial), zr_8 (zp_K hK) (zp_P1 hP) (q0 := 0) rfl, ax_pre (zp_P1 hP) (zp_K hK) (zp_D1 hD) (fun _ _ => trivial)⟩ rfl rfl hl.1 rfl (lv_room (Nat.le_of_ble_eq_true rfl)) dX8_gone_11 ⟨Nat.le_of_ble_eq_true rfl, Nat.le_of_ble_eq_true rfl⟩) hS (fun q _ h => zp_F1 hD hS hA q h) (zp_F1 hD hS hA) (fun r11 u t H locs ht hvm hw hB hz1 hk1 hS1 => zo1 hB ht hP hD hk1 (zp_F1 hD hS hA) hS1 (fun hP hK1 hD hS => ?_))
  rcases hw with hw | hw | hw
  · obtain ⟨hw, h11_0, h11_1⟩ := hw
    subst hw
    have l11k0_a0_14 : (1 : Int) ≤ a0_14.toInt := ba0_14_l
    have u11k0_a0_14 : a0_14.toInt ≤ (1 : Int) := ba0_14_u
    refine lv_istore_n (lv' := [(2, .int 2), (0, .ref a0), (1, .int a1)]) hx hb dX8_gone_14 rfl hl (by decide) rfl (fun ls hl => ?_)
    refine lv_iload_n hx hb dX8_gone_15 rfl (lv_at hl 0 rfl) ?_
    refine lv_if_eq (tgt := 25) hx hb dX8_gone_16 (by decide) (fun c16 => absurd c16 (by decide +kernel)) (fun _ => ?_)
    refine lv_aload_n hx hb dX8_gone_19 rfl (lv_at hl 1 rfl) ?_
    refine lv_iload_n hx hb dX8_gone_20 rfl (lv_at hl 0 rfl) ?_
    refine va_calli (va_runV (As := [.int 2]) (rest := []) ⟨hx, hb, hml, hown, hts⟩ (c_X8_no l dC dI H.size a0 2 (Value.int v1na0_0) a0g_1 a0g_2 a0g_3 a0g_4 a0g_5 a0g_6 a0g_7 a0g_8 a0g_9 a0g_10 a0g_12 a0g_13 (Value.int a0_14) (Value.ref a0_15) a0g_16 (Value.ref a0_17) (Value.ref a0_18) a0g_19 a0g_20 a0g_21 a0g_22 (Value.ref a0_23) (Value.ref a0_24) (Value.int a0_25) (Value.int a0_26) (Value.int a0_27) (Value.int a0_28) a0g_29 a0g_30 a0g_31 a0g_32 a0g_33 a0g_34 a0g_35 a0g_36 a0g_37 a0g_38 a0g_39 v1na0_11 ) (cwV 1 hts gX8_gone_X8_no rfl rfl rfl zd_X8_no ⟨Nat.le_of_ble_eq_true rfl, Nat.le_of_ble_eq_true rfl⟩) ⟨ax_blind (fun _ _ _ _ _ => trivial), zr_8 (zp_K hK) (zp_P1 hP) (q0 := 0) rfl, ax_pre (zp_P1 hP) (zp_K hK) (zp_D1 hD) (fun _ _ => trivial)⟩ rfl rfl hl.1 rfl (lv_room (Nat.le_of_ble_eq_true rfl)) dX8_gone_21 ⟨Nat.le_of_ble_eq_true rfl, Nat.le_of_ble_eq_true rfl⟩) hS (fun q _ h => zp_F1 hD hS hA q h) (zp_F1 hD hS hA) (fun r21 u t H locs ht hvm hw => zx_1 (fun v21na0_11 hB hz1 hk1 hS1 => zo1 hB ht hP hD hk1 (zp_F1 hD hS hA) hS1 (fun hP hK1 hD hS => ?_)))
    have hw : r21 = (-1) := hw
    have hw := hw.symm
    subst hw
    exact W.iret (v := (-1)) hx hb hr (fun t ht hW => ⟨⟨(-1), (), rfl, trivial, v1na0_0, v21na0_11, a0_25, a0_26, a0_27, a0_28, fa0_23, fa0_24, fa0_18, bfa0_23, bfa0_24, bfa0_18, by rw [ht]; exact hP, va_K.moved hW.alike hK, hD⟩, hS.F ht⟩) hS.2.2 dX8_gone_24
  · obtain ⟨hw, h11_0, h11_1⟩ := hw
    subst hw
    have l11k1_a0_14 : (1 : Int) ≤ a0_14.toInt := ba0_14_l
    have u11k1_a0_14 : a0_14.toInt ≤ (0 : Int) := h11_1
    exact absurd (Int.le_trans l11k1_a0_14 u11k1_a0_14) (by decide)
  · obtain ⟨hw, h11_0, h11_1, h11_2, h11_3⟩ := hw
    subst hw
    have l11k2_a0_14 : (1 : Int) ≤ a0_14.toInt := ba0_14_l
    have u11k2_a0_14 : a0_14.toInt ≤ (1 : Int) := ba0_14_u
    have l11k2_a1 : (0 : Int) ≤ a1.toInt := h11_2
    have u11k2_a1 : a1.toInt ≤ (300 : Int) := h11_3
    refine lv_istore_n (lv' := [(2, .int 0), (0, .ref a0), (1, .int a1)]) hx hb dX8_gone_14 rfl hl (by decide) rfl (fun ls hl => ?_)
    refine lv_iload_n hx hb dX8_gone_15 rfl (lv_at hl 0 rfl) ?_
    refine lv_if_eq (tgt := 25) hx hb dX8_gone_16 (by decide) (fun _ => ?_) (fun c16 => absurd (by decide +kernel) c16)
    refine lv_aload_n hx hb dX8_gone_25 rfl (lv_at hl 1 rfl) ?_
    refine lv_iload_n hx hb dX8_gone_26 rfl (lv_at hl 2 rfl) ?_
    have hKc := hK.sub (tys' := [(ka0_15, .int), (ka0_23, .int), (ka0_24, .int), (ka0_17, .int), (ka0_18, .int)]) [0, 1, 2, 3, 4] rfl
    refine va_callv (va_runV (As := [.int a1]) (rest := []) ⟨hx, hb, hml, hown, hts⟩ (c_X8_minutesOn l dC dI H.size a0 a1 (Value.int v1na0_0) a0g_1 a0g_2 a0g_3 a0g_4 a0g_5 a0g_6 a0g_7 a0g_8 a0g_9 a0g_10 (Value.int v1na0_11) a0g_12 a0g_13 (Value.int a0_14) a0g_16 a0g_19 a0g_20 a0g_21 a0g_22 a0g_29 a0g_30 a0g_31 a0g_32 a0g_33 a0g_34 a0g_35 a0g_36 a0g_37 a0g_38 a0g_39 a0_15 a0_17 a0_18 a0_23 a0_24 a0_25 a0_26 a0_27 a0_28 ka0_15 fa0_15 ka0_23 fa0_23 ka0_24 fa0_24 ka0_17 fa0_17 ka0_18 fa0_18 bfa0_15 bfa0_23 bfa0_24 bfa0_17 bfa0_18 hkm) (cwV 1 hts gX8_gone_X8_minutesOn rfl rfl rfl zd_X8_minutesOn ⟨Nat.le_of_ble_eq_true rfl, Nat.le_of_ble_eq_true rfl⟩) ⟨ax_blind (fun _ _ _ _ _ => trivial), zr_8 hKc (zp_P6 hP) (q0 := 0) rfl, ax_pre (zp_P6 hP) hKc (zp_D6 hD) (fun _ _ => trivial)⟩ rfl rfl hl.1 rfl (lv_room (Nat.le_of_ble_eq_true rfl)) dX8_gone_27 ⟨Nat.le_of_ble_eq_true rfl, Nat.le_of_ble_eq_true rfl⟩) hS (fun q _ h => zp_F6 hD hS hA q h) (zp_F6 hD hS hA) (fun u t H locs ht hvm hw => zx_7 (fun v27na0_25 v27na0_26 v27na0_27 v27na0_28 v27nfa0_23 v27nfa0_24 v27nfa0_18 => zy_3 (fun bv27nfa0_23 bv27nfa0_24 bv27nfa0_18 hB hz1 hk1 hS1 => zo6 hB ht hP hD hk1 (zp_F6 hD hS hA) hS1 (fun hP hK1 hD hS => ?_))))
    refine lv_aload_n hx hb dX8_gone_30 rfl (lv_at hl 1 rfl) ?_
    refine va_get (D := (dC, dI)) (ci := 8) (v := .ref a0_18) (C := RX8) (T := TX8) (N := 40) hx hb hts zi_X8_gone_8 hown hK hP 0 rfl rfl 18 (by decide) (hts (.fieldLink RX8 29 "WaxTurnsModel" "trial" "[I") (zm_X8_gone_r1 (List.mem_of_getElem? (i := 1) rfl))) (fun _ h9 => h9) rfl dX8_gone_31 ?_
    refine lv_bipush (v := 18) hx hb dX8_gone_34 zk_bipush_18 ?_
    refine va_iald hx hb hK hP 5 4 rfl rfl (by unfold vp_in; decide +kernel) dX8_gone_36 ?_
    refine lv_topi (fun x36 ex36 => ?_)
    exact W.iret (v := x36) hx hb hr (fun t ht hW => ⟨⟨x36, (), rfl, trivial, v1na0_0, v1na0_11, v27na0_25, v27na0_26, v27na0_27, v27na0_28, v27nfa0_23, v27nfa0_24, v27nfa0_18, bv27nfa0_23, bv27nfa0_24, bv27nfa0_18, by rw [ht]; exact hP, va_K.moved hW.alike hK, hD⟩, hS.F ht⟩) hS.2.2 dX8_gone_37
end P240_02_safe
section P240_03_safe
set_option maxHeartbeats 4000000 in
set_option maxRecDepth 100000 in
theorem c_X8_nextGone (l : Launch) (dC : Nat → ClassId) (dI : Nat → Nat → Nat) (sz : Nat) (a0 : Nat) (a0g_0 a0g_1 a0g_2 a0g_3 a0g_4 a0g_5 a0g_6 a0g_7 a0g_8 a0g_9 a0g_10 a0g_11 a0g_12 a0g_13 a0g_14 a0g_16 a0g_17 a0g_19 a0g_20 a0g_21 a0g_22 a0g_29 a0g_30 a0g_31 a0g_32 a0g_33 a0g_34 a0g_35 a0g_36 a0g_37 a0g_38 a0g_39 : Value) (a0_15 : Nat) (a0_18 : Nat) (a0_23 : Nat) (a0_24 : Nat) (a0_25 : Int32) (a0_26 : Int32) (a0_27 : Int32) (a0_28 : Int32) (ka0_18 : ClassId) (fa0_18 : Nat → Int32) (ka0_15 : ClassId) (fa0_15 : Nat → Int32) (ka0_24 : ClassId) (fa0_24 : Nat → Int32) (ka0_23 : ClassId) (fa0_23 : Nat → Int32) (bfa0_18 : ((∀ k : Nat, 0 ≤ k → k ≤ 8 → (0 : Int) ≤ (fa0_18 k).toInt ∧ (fa0_18 k).toInt ≤ 8) ∧ (∀ k : Nat, 19 ≤ k → k ≤ 19 → (0 : Int) ≤ (fa0_18 k).toInt ∧ (fa0_18 k).toInt ≤ 8) ∧ (∀ k : Nat, 20 ≤ k → k ≤ 20 → (0 : Int) ≤ (fa0_18 k).toInt ∧ (fa0_18 k).toInt ≤ 19))) (bfa0_15 : ((∀ k : Nat, 0 ≤ k → k ≤ 0 → (2 : Int) ≤ (fa0_15 k).toInt ∧ (fa0_15 k).toInt ≤ 9) ∧ (∀ k : Nat, 1 ≤ k → k ≤ 1 → (1 : Int) ≤ (fa0_15 k).toInt ∧ (fa0_15 k).toInt ≤ 20) ∧ (∀ k : Nat, 2 ≤ k → k ≤ 2 → (0 : Int) ≤ (fa0_15 k).toInt ∧ (fa0_15 k).toInt ≤ 8) ∧ (∀ k : Nat, 3 ≤ k → k ≤ 3 → (0 : Int) ≤ (fa0_15 k).toInt ∧ (fa0_15 k).toInt ≤ 100) ∧ (∀ k : Nat, 4 ≤ k → k ≤ 4 → (0 : Int) ≤ (fa0_15 k).toInt ∧ (fa0_15 k).toInt ≤ 9) ∧ (∀ k : Nat, 5 ≤ k → k ≤ 5 → (0 : Int) ≤ (fa0_15 k).toInt ∧ (fa0_15 k).toInt ≤ 3) ∧ (∀ k : Nat, 6 ≤ k → k ≤ 6 → (0 : Int) ≤ (fa0_15 k).toInt ∧ (fa0_15 k).toInt ≤ 6) ∧ (∀ k : Nat, 7 ≤ k → k ≤ 9 → (0 : Int) ≤ (fa0_15 k).toInt ∧ (fa0_15 k).toInt ≤ 8) ∧ (∀ k : Nat, 12 ≤ k → k ≤ 29 → (0 : Int) ≤ (fa0_15 k).toInt ∧ (fa0_15 k).toInt ≤ 20) ∧ (∀ k : Nat, 30 ≤ k → k ≤ 35 → (0 : Int) ≤ (fa0_15 k).toInt ∧ (fa0_15 k).toInt ≤ 8) ∧ (∀ k : Nat, 36 ≤ k → k ≤ 47 → (0 : Int) ≤ (fa0_15 k).toInt ∧ (fa0_15 k).toInt ≤ 999))) (bfa0_24 : (∀ k, (0 : Int) ≤ (fa0_24 k).toInt ∧ (fa0_24 k).toInt ≤ 80)) (bfa0_23 : (∀ k, (0 : Int) ≤ (fa0_23 k).toInt ∧ (fa0_23 k).toInt ≤ 80)) (hkm : ∀ (j i0 i : Int32), (0 : Int) ≤ j.toInt → j.toInt ≤ 8 → i0.toInt = 12 + 2 * j.toInt → i.toInt = 13 + 2 * j.toInt → (fa0_15 i0.toNatClampNeg).toInt = (1 : Int32).toInt → (1 : Int) ≤ (fa0_15 i.toNatClampNeg).toInt) : zm l yX8_nextGone wsX8_nextGone ({ frames := 4, cells := 0, slots := 0, locals := 95 }) [.ref a0] dC dI sz [(a0, .inr (8, [a0g_0, a0g_1, a0g_2, a0g_3, a0g_4, a0g_5, a0g_6, a0g_7, a0g_8, a0g_9, a0g_10, a0g_11, a0g_12, a0g_13, a0g_14, Value.ref a0_15, a0g_16, a0g_17, Value.ref a0_18, a0g_19, a0g_20, a0g_21, a0g_22, Value.ref a0_23, Value.ref a0_24, Value.int a0_25, Value.int a0_26, Value.int a0_27, Value.int a0_28, a0g_29, a0g_30, a0g_31, a0g_32, a0g_33, a0g_34, a0g_35, a0g_36, a0g_37, a0g_38, a0g_39])), (a0_18, .inl (ka0_18, 23, .inl (fa0_18))), (a0_15, .inl (ka0_15, 156, .inl (fa0_15))), (a0_24, .inl (ka0_24, 3, .inl (fa0_24))), (a0_23, .inl (ka0_23, 3, .inl (fa0_23)))] [(ka0_18, .int), (ka0_15, .int), (ka0_24, .int), (ka0_23, .int)] (fun A _ => True) (fun A => va_Qi (fun (r : Int32) (_ : Unit) => (-2 : Int) ≤ r.toInt ∧ r.toInt ≤ (300 : Int)) (fun (_ : Unit) (t : State) => ∃ na0_26 : Int32, ∃ na0_27 : Int32, ∃ na0_28 : Int32, ∃ nfa0_18 : Nat → Int32, ((∀ k : Nat, 0 ≤ k → k ≤ 8 → (0 : Int) ≤ (nfa0_18 k).toInt ∧ (nfa0_18 k).toInt ≤ 8) ∧ (∀ k : Nat, 19 ≤ k → k ≤ 19 → (0 : Int) ≤ (nfa0_18 k).toInt ∧ (nfa0_18 k).toInt ≤ 8) ∧ (∀ k : Nat, 20 ≤ k → k ≤ 20 → (0 : Int) ≤ (nfa0_18 k).toInt ∧ (nfa0_18 k).toInt ≤ 19)) ∧ ax_B dC dI A [(a0, .inr (8, [a0g_0, a0g_1, a0g_2, a0g_3, a0g_4, a0g_5, a0g_6, a0g_7, a0g_8, a0g_9, a0g_10, a0g_11, a0g_12, a0g_13, a0g_14, Value.ref a0_15, a0g_16, a0g_17, Value.ref a0_18, a0g_19, a0g_20, a0g_21, a0g_22, Value.ref a0_23, Value.ref a0_24, Value.int a0_25, Value.int na0_26, Value.int na0_27, Value.int na0_28, a0g_29, a0g_30, a0g_31, a0g_32, a0g_33, a0g_34, a0g_35, a0g_36, a0g_37, a0g_38, a0g_39])), (a0_18, .inl (ka0_18, 23, .inl (nfa0_18))), (a0_15, .inl (ka0_15, 156, .inl (fa0_15))), (a0_24, .inl (ka0_24, 3, .inl (fa0_24))), (a0_23, .inl (ka0_23, 3, .inl (fa0_23)))] [(ka0_18, .int), (ka0_15, .int), (ka0_24, .int), (ka0_23, .int)] t) A) := by
  refine zh (cc := cX8_nextGone) (maxL := 3) (ret := (some .int)) zn_RX8 rfl (Nat.le_of_ble_eq_true rfl) (fun p e s m below meth c A ls hx hb hml hr hts (hown : s.vm.findClass RX8 = some m.cls) hlocks hA hS hP hK hD hE (hl : lv_has ls 3 [(0, .ref a0)]) => ?_)
  refine ai_open (fun K hK0 => ?_)
  refine (hK0 _ _ _).mpr ?_
  refine lv_aload_n hx hb dX8_nextGone_0 rfl (lv_at hl 0 rfl) ?_
  refine va_get (D := (dC, dI)) (ci := 8) (v := .ref a0_18) (C := RX8) (T := TX8) (N := 40) hx hb hts zi_X8_nextGone_8 hown hK hP 0 rfl rfl 18 (by decide) (hts (.fieldLink RX8 29 "WaxTurnsModel" "trial" "[I") (zm_X8_nextGone_r1 (List.mem_of_getElem? (i := 0) rfl))) (fun _ h9 => h9) rfl dX8_nextGone_1 ?_
  refine lv_bipush (v := 18) hx hb dX8_nextGone_4 zk_bipush_18 ?_
  refine va_iald hx hb hK hP 1 0 rfl rfl (by unfold vp_in; decide +kernel) dX8_nextGone_6 ?_
  refine lv_topi (fun x6 ex6 => ?_)
  refine lv_istore_n (lv' := [(1, .int x6), (0, .ref a0)]) hx hb dX8_nextGone_7 rfl hl (by decide) rfl (fun ls hl => ?_)
  refine lv_iconst (v := 1) hx hb dX8_nextGone_8 zk_iconst_1 ?_
  refine lv_istore_n (lv' := [(2, .int 1), (1, .int x6), (0, .ref a0)]) hx hb dX8_nextGone_9 rfl hl (by decide) rfl (fun ls hl => ?_)
  have J10 : ∀ (n : Nat) (j10l2 : Int32) (j10a0_26 : Int32) (j10a0_27 : Int32) (j10a0_28 : Int32) (j10a0_18_a : Nat → Int32) (H : Heap) (locs : List Loc) (ls : Array Slot), (302 : Int) - j10l2.toInt ≤ (n : Int) → (1 : Int) ≤ j10l2.toInt → j10l2.toInt ≤ (301 : Int) → ((∀ k : Nat, 0 ≤ k → k ≤ 8 → (0 : Int) ≤ (j10a0_18_a k).toInt ∧ (j10a0_18_a k).toInt ≤ 8) ∧ (∀ k : Nat, 19 ≤ k → k ≤ 19 → (0 : Int) ≤ (j10a0_18_a k).toInt ∧ (j10a0_18_a k).toInt ≤ 8) ∧ (∀ k : Nat, 20 ≤ k → k ≤ 20 → (0 : Int) ≤ (j10a0_18_a k).toInt ∧ (j10a0_18_a k).toInt ≤ 19)) → va_P (dC, dI) vwCl [(a0, .inr (8, [a0g_0, a0g_1, a0g_2, a0g_3, a0g_4, a0g_5, a0g_6, a0g_7, a0g_8, a0g_9, a0g_10, a0g_11, a0g_12, a0g_13, a0g_14, Value.ref a0_15, a0g_16, a0g_17, Value.ref a0_18, a0g_19, a0g_20, a0g_21, a0g_22, Value.ref a0_23, Value.ref a0_24, Value.int a0_25, Value.int j10a0_26, Value.int j10a0_27, Value.int j10a0_28, a0g_29, a0g_30, a0g_31, a0g_32, a0g_33, a0g_34, a0g_35, a0g_36, a0g_37, a0g_38, a0g_39])), (a0_18, .inl (ka0_18, 23, .inl (j10a0_18_a))), (a0_15, .inl (ka0_15, 156, .inl (fa0_15))), (a0_24, .inl (ka0_24, 3, .inl (fa0_24))), (a0_23, .inl (ka0_23, 3, .inl (fa0_23)))] H → va_D A [(a0, .inr (8, [a0g_0, a0g_1, a0g_2, a0g_3, a0g_4, a0g_5, a0g_6, a0g_7, a0g_8, a0g_9, a0g_10, a0g_11, a0g_12, a0g_13, a0g_14, Value.ref a0_15, a0g_16, a0g_17, Value.ref a0_18, a0g_19, a0g_20, a0g_21, a0g_22, Value.ref a0_23, Value.ref a0_24, Value.int a0_25, Value.int j10a0_26, Value.int j10a0_27, Value.int j10a0_28, a0g_29, a0g_30, a0g_31, a0g_32, a0g_33, a0g_34, a0g_35, a0g_36, a0g_37, a0g_38, a0g_39])), (a0_18, .inl (ka0_18, 23, .inl (j10a0_18_a))), (a0_15, .inl (ka0_15, 156, .inl (fa0_15))), (a0_24, .inl (ka0_24, 3, .inl (fa0_24))), (a0_23, .inl (ka0_23, 3, .inl (fa0_23)))] → va_S A s.heap H locs → lv_has ls 3 [(0, .ref a0), (1, .int x6), (2, .int j10l2)] → K H locs (F0 m 10 ls []) := by
    intro n
    induction n with
    | zero =>
      intro j10l2 j10a0_26 j10a0_27 j10a0_28 j10a0_18_a H locs ls hm bj10l2_l bj10l2_u bj10a0_18_a hP hD hS hl
      first | exact zg_0 hm bj10l2_u (by decide) | (have h8 := ai_min j10l2; have h9 := ai_max j10l2; exact absurd hm (by omega))
    | succ n ih10 =>
      intro j10l2 j10a0_26 j10a0_27 j10a0_28 j10a0_18_a H locs ls hm bj10l2_l bj10l2_u bj10a0_18_a hP hD hS hl
      refine (hK0 _ _ _).mpr ?_
      have hm10 := hm
      refine lv_iload_n hx hb dX8_nextGone_10 rfl (lv_at hl 2 rfl) ?_
      refine lv_sipush (v := 300) hx hb dX8_nextGone_11 zk_sipush_300 ?_
      refine lv_icmp_gt (tgt := 44) hx hb dX8_nextGone_14 (by decide) (fun c14 => ?_) (fun c14 => ?_)
      · have gc14 := ai_lt c14
        have l14t_j10l2 : (301 : Int) ≤ j10l2.toInt := ai_ltlo gc14 zq84
        refine lv_bipush (v := (-2)) hx hb dX8_nextGone_44 zk_bipush_n2 ?_
        exact W.iret (v := (-2)) hx hb hr (fun t ht hW => ⟨⟨(-2), (), rfl, ⟨zq45, (Int.le_trans zq44 zq57)⟩, j10a0_26, j10a0_27, j10a0_28, j10a0_18_a, bj10a0_18_a, by rw [ht]; exact hP, va_K.moved hW.alike hK, hD⟩, hS.F ht⟩) hS.2.2 dX8_nextGone_46
      · have gc14 := ai_nlt c14
        have u14f_j10l2 : j10l2.toInt ≤ (300 : Int) := Int.le_trans gc14 zq82
        refine lv_aload_n hx hb dX8_nextGone_17 rfl (lv_at hl 0 rfl) ?_
        refine lv_aload_n hx hb dX8_nextGone_18 rfl (lv_at hl 0 rfl) ?_
        refine va_get (D := (dC, dI)) (ci := 8) (v := .ref a0_18) (C := RX8) (T := TX8) (N := 40) hx hb hts zi_X8_nextGone_8 hown hK hP 0 rfl rfl 18 (by decide) (hts (.fieldLink RX8 29 "WaxTurnsModel" "trial" "[I") (zm_X8_nextGone_r1 (List.mem_of_getElem? (i := 0) rfl))) (fun _ h9 => h9) rfl dX8_nextGone_19 ?_
        have hKc := hK.sub (tys' := [(ka0_18, .int), (ka0_15, .int), (ka0_24, .int), (ka0_23, .int)]) [0, 1, 2, 3] rfl
        refine va_callv (va_runV (As := [.ref a0_18]) (rest := []) ⟨hx, hb, hml, hown, hts⟩ (c_X8_minuteOn l dC dI H.size a0 a0_18 a0g_0 a0g_1 a0g_2 a0g_3 a0g_4 a0g_5 a0g_6 a0g_7 a0g_8 a0g_9 a0g_10 a0g_11 a0g_12 a0g_13 a0g_14 a0g_16 a0g_17 (Value.ref a0_18) a0g_19 a0g_20 a0g_21 a0g_22 a0g_29 a0g_30 a0g_31 a0g_32 a0g_33 a0g_34 a0g_35 a0g_36 a0g_37 a0g_38 a0g_39 a0_15 a0_23 a0_24 a0_25 j10a0_26 j10a0_27 j10a0_28 ka0_18 j10a0_18_a ka0_15 fa0_15 ka0_24 fa0_24 ka0_23 fa0_23 bj10a0_18_a bfa0_15 bfa0_24 bfa0_23 hkm) (cwV 1 hts gX8_nextGone_X8_minuteOn rfl rfl rfl zd_X8_minuteOn ⟨Nat.le_of_ble_eq_true rfl, Nat.le_of_ble_eq_true rfl⟩) ⟨ax_blind (fun _ _ _ _ _ => trivial), zr_8 hKc (zp_P5 hP) (q0 := 0) rfl, ax_pre (zp_P5 hP) hKc (zp_D5 hD) (fun _ _ => trivial)⟩ rfl rfl hl.1 rfl (lv_room (Nat.le_of_ble_eq_true rfl)) dX8_nextGone_22 ⟨Nat.le_of_ble_eq_true rfl, Nat.le_of_ble_eq_true rfl⟩) hS (fun q _ h => zp_F5 hD hS hA q h) (zp_F5 hD hS hA) (fun u t H locs ht hvm hw => zx_4 (fun v22na0_26 v22na0_27 v22na0_28 v22nfa1 => zy_1 (fun bv22nfa1 hB hz1 hk1 hS1 => zo5 hB ht hP hD hk1 (zp_F5 hD hS hA) hS1 (fun hP hK1 hD hS => ?_))))
        refine lv_aload_n hx hb dX8_nextGone_25 rfl (lv_at hl 0 rfl) ?_
        refine va_get (D := (dC, dI)) (ci := 8) (v := .ref a0_18) (C := RX8) (T := TX8) (N := 40) hx hb hts zi_X8_nextGone_8 hown hK hP 0 rfl rfl 18 (by decide) (hts (.fieldLink RX8 29 "WaxTurnsModel" "trial" "[I") (zm_X8_nextGone_r1 (List.mem_of_getElem? (i := 0) rfl))) (fun _ h9 => h9) rfl dX8_nextGone_26 ?_
        refine lv_bipush (v := 18) hx hb dX8_nextGone_29 zk_bipush_18 ?_
        refine va_iald hx hb hK hP 1 0 rfl rfl (by unfold vp_in; decide +kernel) dX8_nextGone_31 ?_
        refine lv_topi (fun x31 ex31 => ?_)
        refine lv_iload_n hx hb dX8_nextGone_32 rfl (lv_at hl 1 rfl) ?_
        refine lv_icmp_eq (tgt := 38) hx hb dX8_nextGone_33 (by decide) (fun c33 => ?_) (fun c33 => ?_)
        · have gc33 := ai_eq c33
          obtain ⟨x38, ex38⟩ : ∃ y : Int32, y = j10l2 + Int32.ofInt 1 := ⟨_, rfl⟩
          have qx38 : x38.toInt = j10l2.toInt + 1 := ai_inc ex38 (by decide) (by decide) u14f_j10l2 (by decide)
          have bx38 : (2 : Int) ≤ x38.toInt ∧ x38.toInt ≤ 301 := ⟨by rw [qx38]; exact Int.add_le_add bj10l2_l (Int.le_refl _), by rw [qx38]; exact Int.add_le_add u14f_j10l2 (Int.le_refl _)⟩
          refine lv_iinc (v := x38) (lv' := [(2, .int x38), (0, .ref a0), (1, .int x6)]) hx hb dX8_nextGone_38 hl (k := 2) rfl ex38.symm (by decide) rfl (fun ls hl => ?_)
          refine lv_goto (tgt := 10) hx hb dX8_nextGone_41 (by decide) ?_
          exact (hK0 _ _ _).mp (ih10 x38 v22na0_26 v22na0_27 v22na0_28 v22nfa1 _ _ _ (by first | exact zg_s hm10 qx38 | (have h0 := qx38; omega)) (Int.le_trans zq54 bx38.1) bx38.2 bv22nfa1 hP hD hS (lv_sub hl [1, 2, 0] rfl))
        · have gc33 := ai_ne c33
          refine lv_iload_n hx hb dX8_nextGone_36 rfl (lv_at hl 2 rfl) ?_
          exact W.iret (v := j10l2) hx hb hr (fun t ht hW => ⟨⟨j10l2, (), rfl, ⟨(Int.le_trans zq59 bj10l2_l), u14f_j10l2⟩, v22na0_26, v22na0_27, v22na0_28, v22nfa1, bv22nfa1, by rw [ht]; exact hP, va_K.moved hW.alike hK, hD⟩, hS.F ht⟩) hS.2.2 dX8_nextGone_37
  exact (hK0 _ _ _).mp (J10 301 1 a0_26 a0_27 a0_28 fa0_18 _ _ _ (by first | decide +kernel | (have h1 : (1 : Int) ≤ (1 : Int32).toInt := zq1; have h2 : (1 : Int32).toInt ≤ (1 : Int) := zq0; omega)) zq1 (Int.le_trans zq0 zq86) bfa0_18 hP hD hS (lv_sub hl [2, 1, 0] rfl))

set_option maxHeartbeats 4000000 in
set_option maxRecDepth 100000 in
theorem c_X8_stairs (l : Launch) (dC : Nat → ClassId) (dI : Nat → Nat → Nat) (sz : Nat) (a0 : Nat) (a0_0 : Int32) (a0g_1 a0g_2 a0g_3 a0g_4 a0g_5 a0g_6 a0g_7 a0g_8 a0g_9 a0g_10 a0g_12 a0g_13 a0g_16 a0g_19 a0g_20 a0g_21 a0g_22 a0g_29 a0g_30 a0g_31 a0g_32 a0g_33 a0g_34 a0g_35 a0g_36 a0g_37 a0g_38 a0g_39 : Value) (a0_11 : Int32) (a0_14 : Int32) (a0_15 : Nat) (a0_17 : Nat) (a0_18 : Nat) (a0_23 : Nat) (a0_24 : Nat) (a0_25 : Int32) (a0_26 : Int32) (a0_27 : Int32) (a0_28 : Int32) (ka0_15 : ClassId) (fa0_15 : Nat → Int32) (ka0_23 : ClassId) (fa0_23 : Nat → Int32) (ka0_24 : ClassId) (fa0_24 : Nat → Int32) (ka0_17 : ClassId) (fa0_17 : Nat → Int32) (ka0_18 : ClassId) (fa0_18 : Nat → Int32) (ba0_14_l : (1 : Int) ≤ a0_14.toInt) (ba0_14_u : a0_14.toInt ≤ (1 : Int)) (bfa0_15 : ((∀ k : Nat, 0 ≤ k → k ≤ 0 → (2 : Int) ≤ (fa0_15 k).toInt ∧ (fa0_15 k).toInt ≤ 9) ∧ (∀ k : Nat, 1 ≤ k → k ≤ 1 → (1 : Int) ≤ (fa0_15 k).toInt ∧ (fa0_15 k).toInt ≤ 20) ∧ (∀ k : Nat, 2 ≤ k → k ≤ 2 → (0 : Int) ≤ (fa0_15 k).toInt ∧ (fa0_15 k).toInt ≤ 8) ∧ (∀ k : Nat, 3 ≤ k → k ≤ 3 → (0 : Int) ≤ (fa0_15 k).toInt ∧ (fa0_15 k).toInt ≤ 100) ∧ (∀ k : Nat, 4 ≤ k → k ≤ 4 → (0 : Int) ≤ (fa0_15 k).toInt ∧ (fa0_15 k).toInt ≤ 9) ∧ (∀ k : Nat, 5 ≤ k → k ≤ 5 → (0 : Int) ≤ (fa0_15 k).toInt ∧ (fa0_15 k).toInt ≤ 3) ∧ (∀ k : Nat, 6 ≤ k → k ≤ 6 → (0 : Int) ≤ (fa0_15 k).toInt ∧ (fa0_15 k).toInt ≤ 6) ∧ (∀ k : Nat, 7 ≤ k → k ≤ 9 → (0 : Int) ≤ (fa0_15 k).toInt ∧ (fa0_15 k).toInt ≤ 8) ∧ (∀ k : Nat, 12 ≤ k → k ≤ 29 → (0 : Int) ≤ (fa0_15 k).toInt ∧ (fa0_15 k).toInt ≤ 20) ∧ (∀ k : Nat, 30 ≤ k → k ≤ 35 → (0 : Int) ≤ (fa0_15 k).toInt ∧ (fa0_15 k).toInt ≤ 8) ∧ (∀ k : Nat, 36 ≤ k → k ≤ 47 → (0 : Int) ≤ (fa0_15 k).toInt ∧ (fa0_15 k).toInt ≤ 999))) (bfa0_23 : (∀ k, (0 : Int) ≤ (fa0_23 k).toInt ∧ (fa0_23 k).toInt ≤ 80)) (bfa0_24 : (∀ k, (0 : Int) ≤ (fa0_24 k).toInt ∧ (fa0_24 k).toInt ≤ 80)) (bfa0_17 : ((∀ k : Nat, 0 ≤ k → k ≤ 8 → (0 : Int) ≤ (fa0_17 k).toInt ∧ (fa0_17 k).toInt ≤ 8) ∧ (∀ k : Nat, 19 ≤ k → k ≤ 19 → (0 : Int) ≤ (fa0_17 k).toInt ∧ (fa0_17 k).toInt ≤ 8) ∧ (∀ k : Nat, 20 ≤ k → k ≤ 20 → (0 : Int) ≤ (fa0_17 k).toInt ∧ (fa0_17 k).toInt ≤ 19))) (bfa0_18 : ((∀ k : Nat, 0 ≤ k → k ≤ 8 → (0 : Int) ≤ (fa0_18 k).toInt ∧ (fa0_18 k).toInt ≤ 8) ∧ (∀ k : Nat, 19 ≤ k → k ≤ 19 → (0 : Int) ≤ (fa0_18 k).toInt ∧ (fa0_18 k).toInt ≤ 8) ∧ (∀ k : Nat, 20 ≤ k → k ≤ 20 → (0 : Int) ≤ (fa0_18 k).toInt ∧ (fa0_18 k).toInt ≤ 19))) (hkm : ∀ (j i0 i : Int32), (0 : Int) ≤ j.toInt → j.toInt ≤ 8 → i0.toInt = 12 + 2 * j.toInt → i.toInt = 13 + 2 * j.toInt → (fa0_15 i0.toNatClampNeg).toInt = (1 : Int32).toInt → (1 : Int) ≤ (fa0_15 i.toNatClampNeg).toInt) : zm l yX8_stairs wsX8_stairs ({ frames := 5, cells := 0, slots := 0, locals := 117 }) [.ref a0] dC dI sz [(a0, .inr (8, [Value.int a0_0, a0g_1, a0g_2, a0g_3, a0g_4, a0g_5, a0g_6, a0g_7, a0g_8, a0g_9, a0g_10, Value.int a0_11, a0g_12, a0g_13, Value.int a0_14, Value.ref a0_15, a0g_16, Value.ref a0_17, Value.ref a0_18, a0g_19, a0g_20, a0g_21, a0g_22, Value.ref a0_23, Value.ref a0_24, Value.int a0_25, Value.int a0_26, Value.int a0_27, Value.int a0_28, a0g_29, a0g_30, a0g_31, a0g_32, a0g_33, a0g_34, a0g_35, a0g_36, a0g_37, a0g_38, a0g_39])), (a0_15, .inl (ka0_15, 156, .inl (fa0_15))), (a0_23, .inl (ka0_23, 3, .inl (fa0_23))), (a0_24, .inl (ka0_24, 3, .inl (fa0_24))), (a0_17, .inl (ka0_17, 23, .inl (fa0_17))), (a0_18, .inl (ka0_18, 23, .inl (fa0_18)))] [(ka0_15, .int), (ka0_23, .int), (ka0_24, .int), (ka0_17, .int), (ka0_18, .int)] (fun A _ => True) (fun A => va_Qi (fun (r : Int32) (_ : Unit) => (-2 : Int) ≤ r.toInt ∧ r.toInt ≤ (300 : Int)) (fun (_ : Unit) (t : State) => ∃ na0_0 : Int32, ∃ na0_11 : Int32, ∃ na0_25 : Int32, ∃ na0_26 : Int32, ∃ na0_27 : Int32, ∃ na0_28 : Int32, ∃ nfa0_23 : Nat → Int32, ∃ nfa0_24 : Nat → Int32, ∃ nfa0_18 : Nat → Int32, (∀ k, (0 : Int) ≤ (nfa0_23 k).toInt ∧ (nfa0_23 k).toInt ≤ 80) ∧ (∀ k, (0 : Int) ≤ (nfa0_24 k).toInt ∧ (nfa0_24 k).toInt ≤ 80) ∧ ((∀ k : Nat, 0 ≤ k → k ≤ 8 → (0 : Int) ≤ (nfa0_18 k).toInt ∧ (nfa0_18 k).toInt ≤ 8) ∧ (∀ k : Nat, 19 ≤ k → k ≤ 19 → (0 : Int) ≤ (nfa0_18 k).toInt ∧ (nfa0_18 k).toInt ≤ 8) ∧ (∀ k : Nat, 20 ≤ k → k ≤ 20 → (0 : Int) ≤ (nfa0_18 k).toInt ∧ (nfa0_18 k).toInt ≤ 19)) ∧ ax_B dC dI A [(a0, .inr (8, [Value.int na0_0, a0g_1, a0g_2, a0g_3, a0g_4, a0g_5, a0g_6, a0g_7, a0g_8, a0g_9, a0g_10, Value.int na0_11, a0g_12, a0g_13, Value.int a0_14, Value.ref a0_15, a0g_16, Value.ref a0_17, Value.ref a0_18, a0g_19, a0g_20, a0g_21, a0g_22, Value.ref a0_23, Value.ref a0_24, Value.int na0_25, Value.int na0_26, Value.int na0_27, Value.int na0_28, a0g_29, a0g_30, a0g_31, a0g_32, a0g_33, a0g_34, a0g_35, a0g_36, a0g_37, a0g_38, a0g_39])), (a0_15, .inl (ka0_15, 156, .inl (fa0_15))), (a0_23, .inl (ka0_23, 3, .inl (nfa0_23))), (a0_24, .inl (ka0_24, 3, .inl (nfa0_24))), (a0_17, .inl (ka0_17, 23, .inl (fa0_17))), (a0_18, .inl (ka0_18, 23, .inl (nfa0_18)))] [(ka0_15, .int), (ka0_23, .int), (ka0_24, .int), (ka0_17, .int), (ka0_18, .int)] t) A) := by
  refine zh (cc := cX8_stairs) (maxL := 1) (ret := (some .int)) zn_RX8 rfl (Nat.le_of_ble_eq_true rfl) (fun p e s m below meth c A ls hx hb hml hr hts (hown : s.vm.findClass RX8 = some m.cls) hlocks hA hS hP hK hD hE (hl : lv_has ls 1 [(0, .ref a0)]) => ?_)
  refine lv_aload_n hx hb dX8_stairs_0 rfl (lv_at hl 0 rfl) ?_
  refine va_callv (va_runV (As := []) (rest := []) ⟨hx, hb, hml, hown, hts⟩ (c_X8_good l dC dI s.heap.size a0 a0_0 a0g_1 a0g_2 a0g_3 a0g_4 a0g_5 a0g_6 a0g_7 a0g_8 a0g_9 a0g_10 a0g_12 a0g_13 (Value.int a0_14) (Value.ref a0_15) a0g_16 (Value.ref a0_17) (Value.ref a0_18) a0g_19 a0g_20 a0g_21 a0g_22 (Value.ref a0_23) (Value.ref a0_24) (Value.int a0_25) (Value.int a0_26) (Value.int a0_27) (Value.int a0_28) a0g_29 a0g_30 a0g_31 a0g_32 a0g_33 a0g_34 a0g_35 a0g_36 a0g_37 a0g_38 a0g_39 a0_11 ) (cwV 0 hts gX8_stairs_X8_good rfl rfl rfl zd_X8_good ⟨Nat.le_of_ble_eq_true rfl, Nat.le_of_ble_eq_true rfl⟩) ⟨ax_blind (fun _ _ _ _ _ => trivial), zr_8 (zp_K hK) (zp_P1 hP) (q0 := 0) rfl, ax_pre (zp_P1 hP) (zp_K hK) (zp_D1 hD) (fun _ _ => trivial)⟩ rfl rfl hl.1 rfl (lv_room (Nat.le_of_ble_eq_true rfl)) dX8_stairs_1 ⟨Nat.le_of_ble_eq_true rfl, Nat.le_of_ble_eq_true rfl⟩) hS (fun q _ h => zp_F1 hD hS hA q h) (zp_F1 hD hS hA) (fun u t H locs ht hvm hw => zx_2 (fun v1na0_0 v1na0_11 hB hz1 hk1 hS1 => zo1 hB ht hP hD hk1 (zp_F1 hD hS hA) hS1 (fun hP hK1 hD hS => ?_)))
  refine lv_aload_n hx hb dX8_stairs_4 rfl (lv_at hl 0 rfl) ?_
  refine va_get (D := (dC, dI)) (ci := 8) (v := .int a0_14) (C := RX8) (T := TX8) (N := 40) hx hb hts zi_X8_stairs_8 hown hK hP 0 rfl rfl 14 (by decide) (hts (.fieldLink RX8 173 "WaxTurnsModel" "hasGallery" "Z") (zm_X8_stairs_r1 (List.mem_of_getElem? (i := 0) rfl))) (fun _ h9 => h9) rfl dX8_stairs_5 ?_
  refine lv_if_ne (tgt := 17) hx hb dX8_stairs_8 (by decide) (fun c8 => ?_) (fun c8 => ?_)
  · have gc8 := ai_ne c8
    refine lv_aload_n hx hb dX8_stairs_17 rfl (lv_at hl 0 rfl) ?_
    have hKc := hK.sub (tys' := [(ka0_15, .int), (ka0_23, .int), (ka0_24, .int), (ka0_17, .int), (ka0_18, .int)]) [0, 1, 2, 3, 4] rfl
    refine va_callv (va_runV (As := []) (rest := []) ⟨hx, hb, hml, hown, hts⟩ (c_X8_begin l dC dI H.size a0 (Value.int v1na0_0) a0g_1 a0g_2 a0g_3 a0g_4 a0g_5 a0g_6 a0g_7 a0g_8 a0g_9 a0g_10 (Value.int v1na0_11) a0g_12 a0g_13 (Value.int a0_14) a0g_16 a0g_19 a0g_20 a0g_21 a0g_22 (Value.int a0_26) (Value.int a0_27) (Value.int a0_28) a0g_29 a0g_30 a0g_31 a0g_32 a0g_33 a0g_34 a0g_35 a0g_36 a0g_37 a0g_38 a0g_39 a0_15 a0_17 a0_18 a0_23 a0_24 a0_25 ka0_15 fa0_15 ka0_23 fa0_23 ka0_24 fa0_24 ka0_17 fa0_17 ka0_18 fa0_18 bfa0_15 bfa0_23 bfa0_24 bfa0_17 bfa0_18) (cwV 0 hts gX8_stairs_X8_begin rfl rfl rfl zd_X8_begin ⟨Nat.le_of_ble_eq_true rfl, Nat.le_of_ble_eq_true rfl⟩) ⟨ax_blind (fun _ _ _ _ _ => trivial), zr_8 hKc (zp_P6 hP) (q0 := 0) rfl, ax_pre (zp_P6 hP) hKc (zp_D6 hD) (fun _ _ => trivial)⟩ rfl rfl hl.1 rfl (lv_room (Nat.le_of_ble_eq_true rfl)) dX8_stairs_18 ⟨Nat.le_of_ble_eq_true rfl, Nat.le_of_ble_eq_true rfl⟩) hS (fun q _ h => zp_F6 hD hS hA q h) (zp_F6 hD hS hA) (fun u t H locs ht hvm hw => zx_4 (fun v18na0_25 v18nfa0_23 v18nfa0_24 v18nfa0_18 => zy_3 (fun bv18nfa0_23 bv18nfa0_24 bv18nfa0_18 hB hz1 hk1 hS1 => zo6 hB ht hP hD hk1 (zp_F6 hD hS hA) hS1 (fun hP hK1 hD hS => ?_))))
    refine lv_aload_n hx hb dX8_stairs_21 rfl (lv_at hl 0 rfl) ?_
    refine zc_cutc (wc := [(a0, .inr (8, [Value.int v1na0_0, a0g_1, a0g_2, a0g_3, a0g_4, a0g_5, a0g_6, a0g_7, a0g_8, a0g_9, a0g_10, Value.int v1na0_11, a0g_12, a0g_13, Value.int a0_14, Value.ref a0_15, a0g_16, Value.ref a0_17, Value.ref a0_18, a0g_19, a0g_20, a0g_21, a0g_22, Value.ref a0_23, Value.ref a0_24, Value.int v18na0_25, Value.int a0_26, Value.int a0_27, Value.int a0_28, a0g_29, a0g_30, a0g_31, a0g_32, a0g_33, a0g_34, a0g_35, a0g_36, a0g_37, a0g_38, a0g_39])), (a0_18, .inl (ka0_18, 23, .inl (v18nfa0_18))), (a0_15, .inl (ka0_15, 156, .inl (fa0_15))), (a0_24, .inl (ka0_24, 3, .inl (v18nfa0_24))), (a0_23, .inl (ka0_23, 3, .inl (v18nfa0_23)))]) hP hD hS hA [0, 5, 1, 3, 2] (by decide +kernel) rfl (fun hPc hDc hFc hCc => ?_)
    have hKc := hK.sub (tys' := [(ka0_18, .int), (ka0_15, .int), (ka0_24, .int), (ka0_23, .int)]) [4, 0, 2, 1] rfl
    refine va_calli (va_runV (As := []) (rest := []) ⟨hx, hb, hml, hown, hts⟩ (c_X8_nextGone l dC dI H.size a0 (Value.int v1na0_0) a0g_1 a0g_2 a0g_3 a0g_4 a0g_5 a0g_6 a0g_7 a0g_8 a0g_9 a0g_10 (Value.int v1na0_11) a0g_12 a0g_13 (Value.int a0_14) a0g_16 (Value.ref a0_17) a0g_19 a0g_20 a0g_21 a0g_22 a0g_29 a0g_30 a0g_31 a0g_32 a0g_33 a0g_34 a0g_35 a0g_36 a0g_37 a0g_38 a0g_39 a0_15 a0_18 a0_23 a0_24 v18na0_25 a0_26 a0_27 a0_28 ka0_18 v18nfa0_18 ka0_15 fa0_15 ka0_24 v18nfa0_24 ka0_23 v18nfa0_23 bv18nfa0_18 bfa0_15 bv18nfa0_24 bv18nfa0_23 hkm) (cwV 0 hts gX8_stairs_X8_nextGone rfl rfl rfl zd_X8_nextGone ⟨Nat.le_of_ble_eq_true rfl, Nat.le_of_ble_eq_true rfl⟩) ⟨ax_blind (fun _ _ _ _ _ => trivial), zr_8 hKc hPc (q0 := 0) rfl, ax_pre hPc hKc hDc (fun _ _ => trivial)⟩ rfl rfl hl.1 rfl (lv_room (Nat.le_of_ble_eq_true rfl)) dX8_stairs_22 ⟨Nat.le_of_ble_eq_true rfl, Nat.le_of_ble_eq_true rfl⟩) hS (fun q _ h => hFc q h) hFc (fun r22 u t H locs ht hvm hw => zx_4 (fun v22na0_26 v22na0_27 v22na0_28 v22nfa0_18 => zy_1 (fun bv22nfa0_18 hB hz1 hk1 hS1 => zo hB ht hS1 (fun hP1 hK1 hD1 hS => ?_))))
    refine zc_backc (w := [(a0, .inr (8, [Value.int v1na0_0, a0g_1, a0g_2, a0g_3, a0g_4, a0g_5, a0g_6, a0g_7, a0g_8, a0g_9, a0g_10, Value.int v1na0_11, a0g_12, a0g_13, Value.int a0_14, Value.ref a0_15, a0g_16, Value.ref a0_17, Value.ref a0_18, a0g_19, a0g_20, a0g_21, a0g_22, Value.ref a0_23, Value.ref a0_24, Value.int v18na0_25, Value.int v22na0_26, Value.int v22na0_27, Value.int v22na0_28, a0g_29, a0g_30, a0g_31, a0g_32, a0g_33, a0g_34, a0g_35, a0g_36, a0g_37, a0g_38, a0g_39])), (a0_15, .inl (ka0_15, 156, .inl (fa0_15))), (a0_23, .inl (ka0_23, 3, .inl (v18nfa0_23))), (a0_24, .inl (ka0_24, 3, .inl (v18nfa0_24))), (a0_17, .inl (ka0_17, 23, .inl (fa0_17))), (a0_18, .inl (ka0_18, 23, .inl (v22nfa0_18)))]) hP hD hCc hk1 hFc hP1 hD1 [.inr 0, .inr 2, .inr 4, .inr 3, .inl 4, .inr 1] (by decide +kernel) rfl (fun hP hD => ?_)
    have hw : (-2 : Int) ≤ r22.toInt ∧ r22.toInt ≤ (300 : Int) := hw
    obtain ⟨h22_0, h22_1⟩ := hw
    exact W.iret (v := r22) hx hb hr (fun t ht hW => ⟨⟨r22, (), rfl, ⟨h22_0, h22_1⟩, v1na0_0, v1na0_11, v18na0_25, v22na0_26, v22na0_27, v22na0_28, v18nfa0_23, v18nfa0_24, v22nfa0_18, bv18nfa0_23, bv18nfa0_24, bv22nfa0_18, by rw [ht]; exact hP, va_K.moved hW.alike hK, hD⟩, hS.F ht⟩) hS.2.2 dX8_stairs_25
  · have gc8 := ai_eq c8
    have u8f_a0_14 : a0_14.toInt ≤ (0 : Int) := Int.le_trans (Int.le_of_eq gc8) zq6
    have l8f_a0_14 : (1 : Int) ≤ a0_14.toInt := ba0_14_l
    exact absurd (Int.le_trans l8f_a0_14 u8f_a0_14) (by decide)

set_option maxHeartbeats 4000000 in
set_option maxRecDepth 100000 in
theorem c_X8_catches (l : Launch) (dC : Nat → ClassId) (dI : Nat → Nat → Nat) (sz : Nat) (a0 : Nat) (a1 : Int32) (a0_0 : Int32) (a0g_1 a0g_2 a0g_3 a0g_4 a0g_5 a0g_6 a0g_7 a0g_8 a0g_9 a0g_10 a0g_12 a0g_13 a0g_16 a0g_19 a0g_20 a0g_21 a0g_22 a0g_29 a0g_30 a0g_31 a0g_32 a0g_33 a0g_34 a0g_35 a0g_36 a0g_37 a0g_38 a0g_39 : Value) (a0_11 : Int32) (a0_14 : Int32) (a0_15 : Nat) (a0_17 : Nat) (a0_18 : Nat) (a0_23 : Nat) (a0_24 : Nat) (a0_25 : Int32) (a0_26 : Int32) (a0_27 : Int32) (a0_28 : Int32) (ka0_15 : ClassId) (fa0_15 : Nat → Int32) (ka0_23 : ClassId) (fa0_23 : Nat → Int32) (ka0_24 : ClassId) (fa0_24 : Nat → Int32) (ka0_17 : ClassId) (fa0_17 : Nat → Int32) (ka0_18 : ClassId) (fa0_18 : Nat → Int32) (ba0_14_l : (1 : Int) ≤ a0_14.toInt) (ba0_14_u : a0_14.toInt ≤ (1 : Int)) (bfa0_15 : ((∀ k : Nat, 0 ≤ k → k ≤ 0 → (2 : Int) ≤ (fa0_15 k).toInt ∧ (fa0_15 k).toInt ≤ 9) ∧ (∀ k : Nat, 1 ≤ k → k ≤ 1 → (1 : Int) ≤ (fa0_15 k).toInt ∧ (fa0_15 k).toInt ≤ 20) ∧ (∀ k : Nat, 2 ≤ k → k ≤ 2 → (0 : Int) ≤ (fa0_15 k).toInt ∧ (fa0_15 k).toInt ≤ 8) ∧ (∀ k : Nat, 3 ≤ k → k ≤ 3 → (0 : Int) ≤ (fa0_15 k).toInt ∧ (fa0_15 k).toInt ≤ 100) ∧ (∀ k : Nat, 4 ≤ k → k ≤ 4 → (0 : Int) ≤ (fa0_15 k).toInt ∧ (fa0_15 k).toInt ≤ 9) ∧ (∀ k : Nat, 5 ≤ k → k ≤ 5 → (0 : Int) ≤ (fa0_15 k).toInt ∧ (fa0_15 k).toInt ≤ 3) ∧ (∀ k : Nat, 6 ≤ k → k ≤ 6 → (0 : Int) ≤ (fa0_15 k).toInt ∧ (fa0_15 k).toInt ≤ 6) ∧ (∀ k : Nat, 7 ≤ k → k ≤ 9 → (0 : Int) ≤ (fa0_15 k).toInt ∧ (fa0_15 k).toInt ≤ 8) ∧ (∀ k : Nat, 12 ≤ k → k ≤ 29 → (0 : Int) ≤ (fa0_15 k).toInt ∧ (fa0_15 k).toInt ≤ 20) ∧ (∀ k : Nat, 30 ≤ k → k ≤ 35 → (0 : Int) ≤ (fa0_15 k).toInt ∧ (fa0_15 k).toInt ≤ 8) ∧ (∀ k : Nat, 36 ≤ k → k ≤ 47 → (0 : Int) ≤ (fa0_15 k).toInt ∧ (fa0_15 k).toInt ≤ 999))) (bfa0_23 : (∀ k, (0 : Int) ≤ (fa0_23 k).toInt ∧ (fa0_23 k).toInt ≤ 80)) (bfa0_24 : (∀ k, (0 : Int) ≤ (fa0_24 k).toInt ∧ (fa0_24 k).toInt ≤ 80)) (bfa0_17 : ((∀ k : Nat, 0 ≤ k → k ≤ 8 → (0 : Int) ≤ (fa0_17 k).toInt ∧ (fa0_17 k).toInt ≤ 8) ∧ (∀ k : Nat, 19 ≤ k → k ≤ 19 → (0 : Int) ≤ (fa0_17 k).toInt ∧ (fa0_17 k).toInt ≤ 8) ∧ (∀ k : Nat, 20 ≤ k → k ≤ 20 → (0 : Int) ≤ (fa0_17 k).toInt ∧ (fa0_17 k).toInt ≤ 19))) (bfa0_18 : ((∀ k : Nat, 0 ≤ k → k ≤ 8 → (0 : Int) ≤ (fa0_18 k).toInt ∧ (fa0_18 k).toInt ≤ 8) ∧ (∀ k : Nat, 19 ≤ k → k ≤ 19 → (0 : Int) ≤ (fa0_18 k).toInt ∧ (fa0_18 k).toInt ≤ 8) ∧ (∀ k : Nat, 20 ≤ k → k ≤ 20 → (0 : Int) ≤ (fa0_18 k).toInt ∧ (fa0_18 k).toInt ≤ 19))) (hkm : ∀ (j i0 i : Int32), (0 : Int) ≤ j.toInt → j.toInt ≤ 8 → i0.toInt = 12 + 2 * j.toInt → i.toInt = 13 + 2 * j.toInt → (fa0_15 i0.toNatClampNeg).toInt = (1 : Int32).toInt → (1 : Int) ≤ (fa0_15 i.toNatClampNeg).toInt) : zm l yX8_catches wsX8_catches ({ frames := 5, cells := 0, slots := 0, locals := 117 }) [.ref a0, .int a1] dC dI sz [(a0, .inr (8, [Value.int a0_0, a0g_1, a0g_2, a0g_3, a0g_4, a0g_5, a0g_6, a0g_7, a0g_8, a0g_9, a0g_10, Value.int a0_11, a0g_12, a0g_13, Value.int a0_14, Value.ref a0_15, a0g_16, Value.ref a0_17, Value.ref a0_18, a0g_19, a0g_20, a0g_21, a0g_22, Value.ref a0_23, Value.ref a0_24, Value.int a0_25, Value.int a0_26, Value.int a0_27, Value.int a0_28, a0g_29, a0g_30, a0g_31, a0g_32, a0g_33, a0g_34, a0g_35, a0g_36, a0g_37, a0g_38, a0g_39])), (a0_15, .inl (ka0_15, 156, .inl (fa0_15))), (a0_23, .inl (ka0_23, 3, .inl (fa0_23))), (a0_24, .inl (ka0_24, 3, .inl (fa0_24))), (a0_17, .inl (ka0_17, 23, .inl (fa0_17))), (a0_18, .inl (ka0_18, 23, .inl (fa0_18)))] [(ka0_15, .int), (ka0_23, .int), (ka0_24, .int), (ka0_17, .int), (ka0_18, .int)] (fun A _ => True) (fun A => va_Qi (fun (r : Int32) (_ : Unit) => True) (fun (_ : Unit) (t : State) => ∃ na0_0 : Int32, ∃ na0_11 : Int32, ∃ na0_25 : Int32, ∃ na0_26 : Int32, ∃ na0_27 : Int32, ∃ na0_28 : Int32, ∃ nfa0_23 : Nat → Int32, ∃ nfa0_24 : Nat → Int32, ∃ nfa0_18 : Nat → Int32, (∀ k, (0 : Int) ≤ (nfa0_23 k).toInt ∧ (nfa0_23 k).toInt ≤ 80) ∧ (∀ k, (0 : Int) ≤ (nfa0_24 k).toInt ∧ (nfa0_24 k).toInt ≤ 80) ∧ ((∀ k : Nat, 0 ≤ k → k ≤ 8 → (0 : Int) ≤ (nfa0_18 k).toInt ∧ (nfa0_18 k).toInt ≤ 8) ∧ (∀ k : Nat, 19 ≤ k → k ≤ 19 → (0 : Int) ≤ (nfa0_18 k).toInt ∧ (nfa0_18 k).toInt ≤ 8) ∧ (∀ k : Nat, 20 ≤ k → k ≤ 20 → (0 : Int) ≤ (nfa0_18 k).toInt ∧ (nfa0_18 k).toInt ≤ 19)) ∧ ax_B dC dI A [(a0, .inr (8, [Value.int na0_0, a0g_1, a0g_2, a0g_3, a0g_4, a0g_5, a0g_6, a0g_7, a0g_8, a0g_9, a0g_10, Value.int na0_11, a0g_12, a0g_13, Value.int a0_14, Value.ref a0_15, a0g_16, Value.ref a0_17, Value.ref a0_18, a0g_19, a0g_20, a0g_21, a0g_22, Value.ref a0_23, Value.ref a0_24, Value.int na0_25, Value.int na0_26, Value.int na0_27, Value.int na0_28, a0g_29, a0g_30, a0g_31, a0g_32, a0g_33, a0g_34, a0g_35, a0g_36, a0g_37, a0g_38, a0g_39])), (a0_15, .inl (ka0_15, 156, .inl (fa0_15))), (a0_23, .inl (ka0_23, 3, .inl (nfa0_23))), (a0_24, .inl (ka0_24, 3, .inl (nfa0_24))), (a0_17, .inl (ka0_17, 23, .inl (fa0_17))), (a0_18, .inl (ka0_18, 23, .inl (nfa0_18)))] [(ka0_15, .int), (ka0_23, .int), (ka0_24, .int), (ka0_17, .int), (ka0_18, .int)] t) A) := by
  refine zh (cc := cX8_catches) (maxL := 3) (ret := (some .int)) zn_RX8 rfl (Nat.le_of_ble_eq_true rfl) (fun p e s m below meth c A ls hx hb hml hr hts (hown : s.vm.findClass RX8 = some m.cls) hlocks hA hS hP hK hD hE (hl : lv_has ls 3 [(0, .ref a0), (1, .int a1)]) => ?_)
  refine lv_aload_n hx hb dX8_catches_0 rfl (lv_at hl 0 rfl) ?_
  refine va_callv (va_runV (As := []) (rest := []) ⟨hx, hb, hml, hown, hts⟩ (c_X8_good l dC dI s.heap.size a0 a0_0 a0g_1 a0g_2 a0g_3 a0g_4 a0g_5 a0g_6 a0g_7 a0g_8 a0g_9 a0g_10 a0g_12 a0g_13 (Value.int a0_14) (Value.ref a0_15) a0g_16 (Value.ref a0_17) (Value.ref a0_18) a0g_19 a0g_20 a0g_21 a0g_22 (Value.ref a0_23) (Value.ref a0_24) (Value.int a0_25) (Value.int a0_26) (Value.int a0_27) (Value.int a0_28) a0g_29 a0g_30 a0g_31 a0g_32 a0g_33 a0g_34 a0g_35 a0g_36 a0g_37 a0g_38 a0g_39 a0_11 ) (cwV 0 hts gX8_catches_X8_good rfl rfl rfl zd_X8_good ⟨Nat.le_of_ble_eq_true rfl, Nat.le_of_ble_eq_true rfl⟩) ⟨ax_blind (fun _ _ _ _ _ => trivial), zr_8 (zp_K hK) (zp_P1 hP) (q0 := 0) rfl, ax_pre (zp_P1 hP) (zp_K hK) (zp_D1 hD) (fun _ _ => trivial)⟩ rfl rfl hl.1 rfl (lv_room (Nat.le_of_ble_eq_true rfl)) dX8_catches_1 ⟨Nat.le_of_ble_eq_true rfl, Nat.le_of_ble_eq_true rfl⟩) hS (fun q _ h => zp_F1 hD hS hA q h) (zp_F1 hD hS hA) (fun u t H locs ht hvm hw => zx_2 (fun v1na0_0 v1na0_11 hB hz1 hk1 hS1 => zo1 hB ht hP hD hk1 (zp_F1 hD hS hA) hS1 (fun hP hK1 hD hS => ?_)))
  refine lv_aload_n hx hb dX8_catches_4 rfl (lv_at hl 0 rfl) ?_
  refine lv_aload_n hx hb dX8_catches_5 rfl (lv_at hl 0 rfl) ?_
  refine va_get (D := (dC, dI)) (ci := 8) (v := .int a0_14) (C := RX8) (T := TX8) (N := 40) hx hb hts zi_X8_catches_8 hown hK hP 0 rfl rfl 14 (by decide) (hts (.fieldLink RX8 173 "WaxTurnsModel" "hasGallery" "Z") (zm_X8_catches_r1 (List.mem_of_getElem? (i := 0) rfl))) (fun _ h9 => h9) rfl dX8_catches_6 ?_
  refine lv_iconst (v := 0) hx hb dX8_catches_9 zk_iconst_0 ?_
  refine lv_iload_n hx hb dX8_catches_10 rfl (lv_at hl 1 rfl) ?_
  refine va_calli (va_runV (As := [.int a0_14, .int 0, .int a1]) (rest := []) ⟨hx, hb, hml, hown, hts⟩ (c_X8_aheadWhy l dC dI H.size a0 a0_14 0 a1 (Value.int v1na0_0) a0g_1 a0g_2 a0g_3 a0g_4 a0g_5 a0g_6 a0g_7 a0g_8 a0g_9 a0g_10 (Value.int v1na0_11) a0g_12 a0g_13 (Value.int a0_14) (Value.ref a0_15) a0g_16 (Value.ref a0_17) (Value.ref a0_18) a0g_19 a0g_20 a0g_21 a0g_22 (Value.ref a0_23) (Value.ref a0_24) (Value.int a0_25) (Value.int a0_26) (Value.int a0_27) (Value.int a0_28) a0g_29 a0g_30 a0g_31 a0g_32 a0g_33 a0g_34 a0g_35 a0g_36 a0g_37 a0g_38 a0g_39 (Int.le_trans zq4 ba0_14_l) ba0_14_u zq5 (Int.le_trans zq6 zq4)) (cwV 3 hts gX8_catches_X8_aheadWhy rfl rfl rfl zd_X8_aheadWhy ⟨Nat.le_of_ble_eq_true rfl, Nat.le_of_ble_eq_true rfl⟩) ⟨ax_blind (fun _ _ _ _ _ => trivial), zr_8 (zp_K hK) (zp_P1 hP) (q0 := 0) rfl, ax_pre (zp_P1 hP) (zp_K hK) (zp_D1 hD) (fun _ _ => trivial)⟩ rfl rfl hl.1 rfl (lv_room (Nat.le_of_ble_eq_true rfl)) dX8_catches_11 ⟨Nat.le_of_ble_eq_true rfl, Nat.le_of_ble_eq_true rfl⟩) hS (fun q _ h => zp_F1 hD hS hA q h) (zp_F1 hD hS hA) (fun r11 u t H locs ht hvm hw hB hz1 hk1 hS1 => zo1 hB ht hP hD hk1 (zp_F1 hD hS hA) hS1 (fun hP hK1 hD hS => ?_))
  rcases hw with hw | hw | hw
  · obtain ⟨hw, h11_0, h11_1⟩ := hw
    subst hw
    have l11k0_a0_14 : (1 : Int) ≤ a0_14.toInt := ba0_14_l
    have u11k0_a0_14 : a0_14.toInt ≤ (1 : Int) := ba0_14_u
    refine lv_istore_n (lv' := [(2, .int 2), (0, .ref a0), (1, .int a1)]) hx hb dX8_catches_14 rfl hl (by decide) rfl (fun ls hl => ?_)
    refine lv_iload_n hx hb dX8_catches_15 rfl (lv_at hl 0 rfl) ?_
    refine lv_if_eq (tgt := 25) hx hb dX8_catches_16 (by decide) (fun c16 => absurd c16 (by decide +kernel)) (fun _ => ?_)
    refine lv_aload_n hx hb dX8_catches_19 rfl (lv_at hl 1 rfl) ?_
    refine lv_iload_n hx hb dX8_catches_20 rfl (lv_at hl 0 rfl) ?_
    refine va_calli (va_runV (As := [.int 2]) (rest := []) ⟨hx, hb, hml, hown, hts⟩ (c_X8_no l dC dI H.size a0 2 (Value.int v1na0_0) a0g_1 a0g_2 a0g_3 a0g_4 a0g_5 a0g_6 a0g_7 a0g_8 a0g_9 a0g_10 a0g_12 a0g_13 (Value.int a0_14) (Value.ref a0_15) a0g_16 (Value.ref a0_17) (Value.ref a0_18) a0g_19 a0g_20 a0g_21 a0g_22 (Value.ref a0_23) (Value.ref a0_24) (Value.int a0_25) (Value.int a0_26) (Value.int a0_27) (Value.int a0_28) a0g_29 a0g_30 a0g_31 a0g_32 a0g_33 a0g_34 a0g_35 a0g_36 a0g_37 a0g_38 a0g_39 v1na0_11 ) (cwV 1 hts gX8_catches_X8_no rfl rfl rfl zd_X8_no ⟨Nat.le_of_ble_eq_true rfl, Nat.le_of_ble_eq_true rfl⟩) ⟨ax_blind (fun _ _ _ _ _ => trivial), zr_8 (zp_K hK) (zp_P1 hP) (q0 := 0) rfl, ax_pre (zp_P1 hP) (zp_K hK) (zp_D1 hD) (fun _ _ => trivial)⟩ rfl rfl hl.1 rfl (lv_room (Nat.le_of_ble_eq_true rfl)) dX8_catches_21 ⟨Nat.le_of_ble_eq_true rfl, Nat.le_of_ble_eq_true rfl⟩) hS (fun q _ h => zp_F1 hD hS hA q h) (zp_F1 hD hS hA) (fun r21 u t H locs ht hvm hw => zx_1 (fun v21na0_11 hB hz1 hk1 hS1 => zo1 hB ht hP hD hk1 (zp_F1 hD hS hA) hS1 (fun hP hK1 hD hS => ?_)))
    have hw : r21 = (-1) := hw
    have hw := hw.symm
    subst hw
    exact W.iret (v := (-1)) hx hb hr (fun t ht hW => ⟨⟨(-1), (), rfl, trivial, v1na0_0, v21na0_11, a0_25, a0_26, a0_27, a0_28, fa0_23, fa0_24, fa0_18, bfa0_23, bfa0_24, bfa0_18, by rw [ht]; exact hP, va_K.moved hW.alike hK, hD⟩, hS.F ht⟩) hS.2.2 dX8_catches_24
  · obtain ⟨hw, h11_0, h11_1⟩ := hw
    subst hw
    have l11k1_a0_14 : (1 : Int) ≤ a0_14.toInt := ba0_14_l
    have u11k1_a0_14 : a0_14.toInt ≤ (0 : Int) := h11_1
    exact absurd (Int.le_trans l11k1_a0_14 u11k1_a0_14) (by decide)
  · obtain ⟨hw, h11_0, h11_1, h11_2, h11_3⟩ := hw
    subst hw
    have l11k2_a0_14 : (1 : Int) ≤ a0_14.toInt := ba0_14_l
    have u11k2_a0_14 : a0_14.toInt ≤ (1 : Int) := ba0_14_u
    have l11k2_a1 : (0 : Int) ≤ a1.toInt := h11_2
    have u11k2_a1 : a1.toInt ≤ (300 : Int) := h11_3
    refine lv_istore_n (lv' := [(2, .int 0), (0, .ref a0), (1, .int a1)]) hx hb dX8_catches_14 rfl hl (by decide) rfl (fun ls hl => ?_)
    refine lv_iload_n hx hb dX8_catches_15 rfl (lv_at hl 0 rfl) ?_
    refine lv_if_eq (tgt := 25) hx hb dX8_catches_16 (by decide) (fun _ => ?_) (fun c16 => absurd (by decide +kernel) c16)
    refine lv_aload_n hx hb dX8_catches_25 rfl (lv_at hl 1 rfl) ?_
    refine lv_iload_n hx hb dX8_catches_26 rfl (lv_at hl 2 rfl) ?_
    have hKc := hK.sub (tys' := [(ka0_15, .int), (ka0_23, .int), (ka0_24, .int), (ka0_17, .int), (ka0_18, .int)]) [0, 1, 2, 3, 4] rfl
    refine va_callv (va_runV (As := [.int a1]) (rest := []) ⟨hx, hb, hml, hown, hts⟩ (c_X8_minutesOn l dC dI H.size a0 a1 (Value.int v1na0_0) a0g_1 a0g_2 a0g_3 a0g_4 a0g_5 a0g_6 a0g_7 a0g_8 a0g_9 a0g_10 (Value.int v1na0_11) a0g_12 a0g_13 (Value.int a0_14) a0g_16 a0g_19 a0g_20 a0g_21 a0g_22 a0g_29 a0g_30 a0g_31 a0g_32 a0g_33 a0g_34 a0g_35 a0g_36 a0g_37 a0g_38 a0g_39 a0_15 a0_17 a0_18 a0_23 a0_24 a0_25 a0_26 a0_27 a0_28 ka0_15 fa0_15 ka0_23 fa0_23 ka0_24 fa0_24 ka0_17 fa0_17 ka0_18 fa0_18 bfa0_15 bfa0_23 bfa0_24 bfa0_17 bfa0_18 hkm) (cwV 1 hts gX8_catches_X8_minutesOn rfl rfl rfl zd_X8_minutesOn ⟨Nat.le_of_ble_eq_true rfl, Nat.le_of_ble_eq_true rfl⟩) ⟨ax_blind (fun _ _ _ _ _ => trivial), zr_8 hKc (zp_P6 hP) (q0 := 0) rfl, ax_pre (zp_P6 hP) hKc (zp_D6 hD) (fun _ _ => trivial)⟩ rfl rfl hl.1 rfl (lv_room (Nat.le_of_ble_eq_true rfl)) dX8_catches_27 ⟨Nat.le_of_ble_eq_true rfl, Nat.le_of_ble_eq_true rfl⟩) hS (fun q _ h => zp_F6 hD hS hA q h) (zp_F6 hD hS hA) (fun u t H locs ht hvm hw => zx_7 (fun v27na0_25 v27na0_26 v27na0_27 v27na0_28 v27nfa0_23 v27nfa0_24 v27nfa0_18 => zy_3 (fun bv27nfa0_23 bv27nfa0_24 bv27nfa0_18 hB hz1 hk1 hS1 => zo6 hB ht hP hD hk1 (zp_F6 hD hS hA) hS1 (fun hP hK1 hD hS => ?_))))
    refine lv_aload_n hx hb dX8_catches_30 rfl (lv_at hl 1 rfl) ?_
    refine va_get (D := (dC, dI)) (ci := 8) (v := .ref a0_18) (C := RX8) (T := TX8) (N := 40) hx hb hts zi_X8_catches_8 hown hK hP 0 rfl rfl 18 (by decide) (hts (.fieldLink RX8 29 "WaxTurnsModel" "trial" "[I") (zm_X8_catches_r1 (List.mem_of_getElem? (i := 1) rfl))) (fun _ h9 => h9) rfl dX8_catches_31 ?_
    refine lv_bipush (v := 22) hx hb dX8_catches_34 zk_bipush_22 ?_
    refine va_iald hx hb hK hP 5 4 rfl rfl (by unfold vp_in; decide +kernel) dX8_catches_36 ?_
    refine lv_topi (fun x36 ex36 => ?_)
    refine lv_aload_n hx hb dX8_catches_37 rfl (lv_at hl 1 rfl) ?_
    refine va_get (D := (dC, dI)) (ci := 8) (v := .ref a0_17) (C := RX8) (T := TX8) (N := 40) hx hb hts zi_X8_catches_8 hown hK hP 0 rfl rfl 17 (by decide) (hts (.fieldLink RX8 26 "WaxTurnsModel" "st" "[I") (zm_X8_catches_r1 (List.mem_of_getElem? (i := 2) rfl))) (fun _ h9 => h9) rfl dX8_catches_38 ?_
    refine lv_bipush (v := 22) hx hb dX8_catches_41 zk_bipush_22 ?_
    refine va_iald hx hb hK hP 4 3 rfl rfl (by unfold vp_in; decide +kernel) dX8_catches_43 ?_
    refine lv_topi (fun x43 ex43 => ?_)
    refine lv_isub hx hb dX8_catches_44 ?_
    refine lv_topi (fun x44 ex44 => ?_)
    exact W.iret (v := x44) hx hb hr (fun t ht hW => ⟨⟨x44, (), rfl, trivial, v1na0_0, v1na0_11, v27na0_25, v27na0_26, v27na0_27, v27na0_28, v27nfa0_23, v27nfa0_24, v27nfa0_18, bv27nfa0_23, bv27nfa0_24, bv27nfa0_18, by rw [ht]; exact hP, va_K.moved hW.alike hK, hD⟩, hS.F ht⟩) hS.2.2 dX8_catches_45

set_option maxHeartbeats 4000000 in
set_option maxRecDepth 100000 in
theorem c_X8_heard (l : Launch) (dC : Nat → ClassId) (dI : Nat → Nat → Nat) (sz : Nat) (a0 : Nat) (a1 : Int32) (a2 : Int32) (a0_0 : Int32) (a0g_1 a0g_2 a0g_3 a0g_4 a0g_5 a0g_6 a0g_7 a0g_8 a0g_9 a0g_10 a0g_12 a0g_13 a0g_16 a0g_19 a0g_20 a0g_21 a0g_22 a0g_29 a0g_30 a0g_31 a0g_32 a0g_33 a0g_34 a0g_35 a0g_36 a0g_37 a0g_38 a0g_39 : Value) (a0_11 : Int32) (a0_14 : Int32) (a0_15 : Nat) (a0_17 : Nat) (a0_18 : Nat) (a0_23 : Nat) (a0_24 : Nat) (a0_25 : Int32) (a0_26 : Int32) (a0_27 : Int32) (a0_28 : Int32) (ka0_15 : ClassId) (fa0_15 : Nat → Int32) (ka0_23 : ClassId) (fa0_23 : Nat → Int32) (ka0_24 : ClassId) (fa0_24 : Nat → Int32) (ka0_17 : ClassId) (fa0_17 : Nat → Int32) (ka0_18 : ClassId) (fa0_18 : Nat → Int32) (ba0_14_l : (1 : Int) ≤ a0_14.toInt) (ba0_14_u : a0_14.toInt ≤ (1 : Int)) (bfa0_15 : ((∀ k : Nat, 0 ≤ k → k ≤ 0 → (2 : Int) ≤ (fa0_15 k).toInt ∧ (fa0_15 k).toInt ≤ 9) ∧ (∀ k : Nat, 1 ≤ k → k ≤ 1 → (1 : Int) ≤ (fa0_15 k).toInt ∧ (fa0_15 k).toInt ≤ 20) ∧ (∀ k : Nat, 2 ≤ k → k ≤ 2 → (0 : Int) ≤ (fa0_15 k).toInt ∧ (fa0_15 k).toInt ≤ 8) ∧ (∀ k : Nat, 3 ≤ k → k ≤ 3 → (0 : Int) ≤ (fa0_15 k).toInt ∧ (fa0_15 k).toInt ≤ 100) ∧ (∀ k : Nat, 4 ≤ k → k ≤ 4 → (0 : Int) ≤ (fa0_15 k).toInt ∧ (fa0_15 k).toInt ≤ 9) ∧ (∀ k : Nat, 5 ≤ k → k ≤ 5 → (0 : Int) ≤ (fa0_15 k).toInt ∧ (fa0_15 k).toInt ≤ 3) ∧ (∀ k : Nat, 6 ≤ k → k ≤ 6 → (0 : Int) ≤ (fa0_15 k).toInt ∧ (fa0_15 k).toInt ≤ 6) ∧ (∀ k : Nat, 7 ≤ k → k ≤ 9 → (0 : Int) ≤ (fa0_15 k).toInt ∧ (fa0_15 k).toInt ≤ 8) ∧ (∀ k : Nat, 12 ≤ k → k ≤ 29 → (0 : Int) ≤ (fa0_15 k).toInt ∧ (fa0_15 k).toInt ≤ 20) ∧ (∀ k : Nat, 30 ≤ k → k ≤ 35 → (0 : Int) ≤ (fa0_15 k).toInt ∧ (fa0_15 k).toInt ≤ 8) ∧ (∀ k : Nat, 36 ≤ k → k ≤ 47 → (0 : Int) ≤ (fa0_15 k).toInt ∧ (fa0_15 k).toInt ≤ 999))) (bfa0_23 : (∀ k, (0 : Int) ≤ (fa0_23 k).toInt ∧ (fa0_23 k).toInt ≤ 80)) (bfa0_24 : (∀ k, (0 : Int) ≤ (fa0_24 k).toInt ∧ (fa0_24 k).toInt ≤ 80)) (bfa0_17 : ((∀ k : Nat, 0 ≤ k → k ≤ 8 → (0 : Int) ≤ (fa0_17 k).toInt ∧ (fa0_17 k).toInt ≤ 8) ∧ (∀ k : Nat, 19 ≤ k → k ≤ 19 → (0 : Int) ≤ (fa0_17 k).toInt ∧ (fa0_17 k).toInt ≤ 8) ∧ (∀ k : Nat, 20 ≤ k → k ≤ 20 → (0 : Int) ≤ (fa0_17 k).toInt ∧ (fa0_17 k).toInt ≤ 19))) (bfa0_18 : ((∀ k : Nat, 0 ≤ k → k ≤ 8 → (0 : Int) ≤ (fa0_18 k).toInt ∧ (fa0_18 k).toInt ≤ 8) ∧ (∀ k : Nat, 19 ≤ k → k ≤ 19 → (0 : Int) ≤ (fa0_18 k).toInt ∧ (fa0_18 k).toInt ≤ 8) ∧ (∀ k : Nat, 20 ≤ k → k ≤ 20 → (0 : Int) ≤ (fa0_18 k).toInt ∧ (fa0_18 k).toInt ≤ 19))) (hkm : ∀ (j i0 i : Int32), (0 : Int) ≤ j.toInt → j.toInt ≤ 8 → i0.toInt = 12 + 2 * j.toInt → i.toInt = 13 + 2 * j.toInt → (fa0_15 i0.toNatClampNeg).toInt = (1 : Int32).toInt → (1 : Int) ≤ (fa0_15 i.toNatClampNeg).toInt) : zm l yX8_heard wsX8_heard ({ frames := 4, cells := 0, slots := 0, locals := 95 }) [.ref a0, .int a1, .int a2] dC dI sz [(a0, .inr (8, [Value.int a0_0, a0g_1, a0g_2, a0g_3, a0g_4, a0g_5, a0g_6, a0g_7, a0g_8, a0g_9, a0g_10, Value.int a0_11, a0g_12, a0g_13, Value.int a0_14, Value.ref a0_15, a0g_16, Value.ref a0_17, Value.ref a0_18, a0g_19, a0g_20, a0g_21, a0g_22, Value.ref a0_23, Value.ref a0_24, Value.int a0_25, Value.int a0_26, Value.int a0_27, Value.int a0_28, a0g_29, a0g_30, a0g_31, a0g_32, a0g_33, a0g_34, a0g_35, a0g_36, a0g_37, a0g_38, a0g_39])), (a0_15, .inl (ka0_15, 156, .inl (fa0_15))), (a0_23, .inl (ka0_23, 3, .inl (fa0_23))), (a0_24, .inl (ka0_24, 3, .inl (fa0_24))), (a0_17, .inl (ka0_17, 23, .inl (fa0_17))), (a0_18, .inl (ka0_18, 23, .inl (fa0_18)))] [(ka0_15, .int), (ka0_23, .int), (ka0_24, .int), (ka0_17, .int), (ka0_18, .int)] (fun A _ => True) (fun A => va_Qi (fun (r : Int32) (_ : Unit) => True) (fun (_ : Unit) (t : State) => ∃ na0_0 : Int32, ∃ na0_11 : Int32, ∃ na0_25 : Int32, ∃ na0_26 : Int32, ∃ na0_27 : Int32, ∃ na0_28 : Int32, ∃ nfa0_23 : Nat → Int32, ∃ nfa0_24 : Nat → Int32, ∃ nfa0_18 : Nat → Int32, (∀ k, (0 : Int) ≤ (nfa0_23 k).toInt ∧ (nfa0_23 k).toInt ≤ 80) ∧ (∀ k, (0 : Int) ≤ (nfa0_24 k).toInt ∧ (nfa0_24 k).toInt ≤ 80) ∧ ((∀ k : Nat, 0 ≤ k → k ≤ 8 → (0 : Int) ≤ (nfa0_18 k).toInt ∧ (nfa0_18 k).toInt ≤ 8) ∧ (∀ k : Nat, 19 ≤ k → k ≤ 19 → (0 : Int) ≤ (nfa0_18 k).toInt ∧ (nfa0_18 k).toInt ≤ 8) ∧ (∀ k : Nat, 20 ≤ k → k ≤ 20 → (0 : Int) ≤ (nfa0_18 k).toInt ∧ (nfa0_18 k).toInt ≤ 19)) ∧ ax_B dC dI A [(a0, .inr (8, [Value.int na0_0, a0g_1, a0g_2, a0g_3, a0g_4, a0g_5, a0g_6, a0g_7, a0g_8, a0g_9, a0g_10, Value.int na0_11, a0g_12, a0g_13, Value.int a0_14, Value.ref a0_15, a0g_16, Value.ref a0_17, Value.ref a0_18, a0g_19, a0g_20, a0g_21, a0g_22, Value.ref a0_23, Value.ref a0_24, Value.int na0_25, Value.int na0_26, Value.int na0_27, Value.int na0_28, a0g_29, a0g_30, a0g_31, a0g_32, a0g_33, a0g_34, a0g_35, a0g_36, a0g_37, a0g_38, a0g_39])), (a0_15, .inl (ka0_15, 156, .inl (fa0_15))), (a0_23, .inl (ka0_23, 3, .inl (nfa0_23))), (a0_24, .inl (ka0_24, 3, .inl (nfa0_24))), (a0_17, .inl (ka0_17, 23, .inl (fa0_17))), (a0_18, .inl (ka0_18, 23, .inl (nfa0_18)))] [(ka0_15, .int), (ka0_23, .int), (ka0_24, .int), (ka0_17, .int), (ka0_18, .int)] t) A) := by
  refine zh (cc := cX8_heard) (maxL := 5) (ret := (some .int)) zn_RX8 rfl (Nat.le_of_ble_eq_true rfl) (fun p e s m below meth c A ls hx hb hml hr hts (hown : s.vm.findClass RX8 = some m.cls) hlocks hA hS hP hK hD hE (hl : lv_has ls 5 [(0, .ref a0), (1, .int a1), (2, .int a2)]) => ?_)
  refine ai_open (fun K hK0 => ?_)
  refine (hK0 _ _ _).mpr ?_
  refine lv_aload_n hx hb dX8_heard_0 rfl (lv_at hl 0 rfl) ?_
  refine va_callv (va_runV (As := []) (rest := []) ⟨hx, hb, hml, hown, hts⟩ (c_X8_good l dC dI s.heap.size a0 a0_0 a0g_1 a0g_2 a0g_3 a0g_4 a0g_5 a0g_6 a0g_7 a0g_8 a0g_9 a0g_10 a0g_12 a0g_13 (Value.int a0_14) (Value.ref a0_15) a0g_16 (Value.ref a0_17) (Value.ref a0_18) a0g_19 a0g_20 a0g_21 a0g_22 (Value.ref a0_23) (Value.ref a0_24) (Value.int a0_25) (Value.int a0_26) (Value.int a0_27) (Value.int a0_28) a0g_29 a0g_30 a0g_31 a0g_32 a0g_33 a0g_34 a0g_35 a0g_36 a0g_37 a0g_38 a0g_39 a0_11 ) (cwV 0 hts gX8_heard_X8_good rfl rfl rfl zd_X8_good ⟨Nat.le_of_ble_eq_true rfl, Nat.le_of_ble_eq_true rfl⟩) ⟨ax_blind (fun _ _ _ _ _ => trivial), zr_8 (zp_K hK) (zp_P1 hP) (q0 := 0) rfl, ax_pre (zp_P1 hP) (zp_K hK) (zp_D1 hD) (fun _ _ => trivial)⟩ rfl rfl hl.1 rfl (lv_room (Nat.le_of_ble_eq_true rfl)) dX8_heard_1 ⟨Nat.le_of_ble_eq_true rfl, Nat.le_of_ble_eq_true rfl⟩) hS (fun q _ h => zp_F1 hD hS hA q h) (zp_F1 hD hS hA) (fun u t H locs ht hvm hw => zx_2 (fun v1na0_0 v1na0_11 hB hz1 hk1 hS1 => zo1 hB ht hP hD hk1 (zp_F1 hD hS hA) hS1 (fun hP hK1 hD hS => ?_)))
  refine lv_aload_n hx hb dX8_heard_4 rfl (lv_at hl 0 rfl) ?_
  refine lv_aload_n hx hb dX8_heard_5 rfl (lv_at hl 0 rfl) ?_
  refine lv_iload_n hx hb dX8_heard_6 rfl (lv_at hl 1 rfl) ?_
  have hKc := hK.sub (tys' := [(ka0_15, .int)]) [0] rfl
  refine va_calli (va_runV (As := [.int a1]) (rest := [.ref a0]) ⟨hx, hb, hml, hown, hts⟩ (c_X8_isFigure l dC dI H.size a0 a1 (Value.int v1na0_0) a0g_1 a0g_2 a0g_3 a0g_4 a0g_5 a0g_6 a0g_7 a0g_8 a0g_9 a0g_10 (Value.int v1na0_11) a0g_12 a0g_13 a0g_16 (Value.ref a0_17) (Value.ref a0_18) a0g_19 a0g_20 a0g_21 a0g_22 (Value.ref a0_23) (Value.ref a0_24) (Value.int a0_25) (Value.int a0_26) (Value.int a0_27) (Value.int a0_28) a0g_29 a0g_30 a0g_31 a0g_32 a0g_33 a0g_34 a0g_35 a0g_36 a0g_37 a0g_38 a0g_39 a0_14 a0_15 ka0_15 fa0_15 ba0_14_l ba0_14_u bfa0_15) (cwV 1 hts gX8_heard_X8_isFigure rfl rfl rfl zd_X8_isFigure ⟨Nat.le_of_ble_eq_true rfl, Nat.le_of_ble_eq_true rfl⟩) ⟨ax_blind (fun _ _ _ _ _ => trivial), zr_8 hKc (zp_P2 hP) (q0 := 0) rfl, ax_pre (zp_P2 hP) hKc (zp_D2 hD) (fun _ _ => trivial)⟩ rfl rfl hl.1 rfl (lv_room (Nat.le_of_ble_eq_true rfl)) dX8_heard_7 ⟨Nat.le_of_ble_eq_true rfl, Nat.le_of_ble_eq_true rfl⟩) hS (fun q _ h => zp_F2 hD hS hA q h) (zp_F2 hD hS hA) (fun r7 u t H locs ht hvm hw hB hz1 hk1 hS1 => zo2 hB ht hP hD hk1 (zp_F2 hD hS hA) hS1 (fun hP hK1 hD hS => ?_))
  rcases hw with hw | hw
  · obtain ⟨hw, h7_0, h7_1⟩ := hw
    subst hw
    have l7k0_a1 : (0 : Int) ≤ a1.toInt := h7_0
    have u7k0_a1 : a1.toInt ≤ (8 : Int) := h7_1
    refine lv_iconst (v := 0) hx hb dX8_heard_10 zk_iconst_0 ?_
    refine lv_iload_n hx hb dX8_heard_11 rfl (lv_at hl 2 rfl) ?_
    refine va_calli (va_runV (As := [.int 1, .int 0, .int a2]) (rest := []) ⟨hx, hb, hml, hown, hts⟩ (c_X8_aheadWhy l dC dI H.size a0 1 0 a2 (Value.int v1na0_0) a0g_1 a0g_2 a0g_3 a0g_4 a0g_5 a0g_6 a0g_7 a0g_8 a0g_9 a0g_10 (Value.int v1na0_11) a0g_12 a0g_13 (Value.int a0_14) (Value.ref a0_15) a0g_16 (Value.ref a0_17) (Value.ref a0_18) a0g_19 a0g_20 a0g_21 a0g_22 (Value.ref a0_23) (Value.ref a0_24) (Value.int a0_25) (Value.int a0_26) (Value.int a0_27) (Value.int a0_28) a0g_29 a0g_30 a0g_31 a0g_32 a0g_33 a0g_34 a0g_35 a0g_36 a0g_37 a0g_38 a0g_39 (Int.le_trans zq4 zq1) zq0 zq5 (Int.le_trans zq6 zq4)) (cwV 3 hts gX8_heard_X8_aheadWhy rfl rfl rfl zd_X8_aheadWhy ⟨Nat.le_of_ble_eq_true rfl, Nat.le_of_ble_eq_true rfl⟩) ⟨ax_blind (fun _ _ _ _ _ => trivial), zr_8 (zp_K hK) (zp_P1 hP) (q0 := 0) rfl, ax_pre (zp_P1 hP) (zp_K hK) (zp_D1 hD) (fun _ _ => trivial)⟩ rfl rfl hl.1 rfl (lv_room (Nat.le_of_ble_eq_true rfl)) dX8_heard_12 ⟨Nat.le_of_ble_eq_true rfl, Nat.le_of_ble_eq_true rfl⟩) hS (fun q _ h => zp_F1 hD hS hA q h) (zp_F1 hD hS hA) (fun r12 u t H locs ht hvm hw hB hz1 hk1 hS1 => zo1 hB ht hP hD hk1 (zp_F1 hD hS hA) hS1 (fun hP hK1 hD hS => ?_))
    rcases hw with hw | hw | hw
    · obtain ⟨hw, h12_0, h12_1⟩ := hw
      subst hw
      refine lv_istore_n (lv' := [(3, .int 2), (0, .ref a0), (1, .int a1), (2, .int a2)]) hx hb dX8_heard_15 rfl hl (by decide) rfl (fun ls hl => ?_)
      refine lv_iload_n hx hb dX8_heard_16 rfl (lv_at hl 0 rfl) ?_
      refine lv_if_eq (tgt := 26) hx hb dX8_heard_17 (by decide) (fun c17 => absurd c17 (by decide +kernel)) (fun _ => ?_)
      refine lv_aload_n hx hb dX8_heard_20 rfl (lv_at hl 1 rfl) ?_
      refine lv_iload_n hx hb dX8_heard_21 rfl (lv_at hl 0 rfl) ?_
      refine va_calli (va_runV (As := [.int 2]) (rest := []) ⟨hx, hb, hml, hown, hts⟩ (c_X8_no l dC dI H.size a0 2 (Value.int v1na0_0) a0g_1 a0g_2 a0g_3 a0g_4 a0g_5 a0g_6 a0g_7 a0g_8 a0g_9 a0g_10 a0g_12 a0g_13 (Value.int a0_14) (Value.ref a0_15) a0g_16 (Value.ref a0_17) (Value.ref a0_18) a0g_19 a0g_20 a0g_21 a0g_22 (Value.ref a0_23) (Value.ref a0_24) (Value.int a0_25) (Value.int a0_26) (Value.int a0_27) (Value.int a0_28) a0g_29 a0g_30 a0g_31 a0g_32 a0g_33 a0g_34 a0g_35 a0g_36 a0g_37 a0g_38 a0g_39 v1na0_11 ) (cwV 1 hts gX8_heard_X8_no rfl rfl rfl zd_X8_no ⟨Nat.le_of_ble_eq_true rfl, Nat.le_of_ble_eq_true rfl⟩) ⟨ax_blind (fun _ _ _ _ _ => trivial), zr_8 (zp_K hK) (zp_P1 hP) (q0 := 0) rfl, ax_pre (zp_P1 hP) (zp_K hK) (zp_D1 hD) (fun _ _ => trivial)⟩ rfl rfl hl.1 rfl (lv_room (Nat.le_of_ble_eq_true rfl)) dX8_heard_22 ⟨Nat.le_of_ble_eq_true rfl, Nat.le_of_ble_eq_true rfl⟩) hS (fun q _ h => zp_F1 hD hS hA q h) (zp_F1 hD hS hA) (fun r22 u t H locs ht hvm hw => zx_1 (fun v22na0_11 hB hz1 hk1 hS1 => zo1 hB ht hP hD hk1 (zp_F1 hD hS hA) hS1 (fun hP hK1 hD hS => ?_)))
      have hw : r22 = (-1) := hw
      have hw := hw.symm
      subst hw
      exact W.iret (v := (-1)) hx hb hr (fun t ht hW => ⟨⟨(-1), (), rfl, trivial, v1na0_0, v22na0_11, a0_25, a0_26, a0_27, a0_28, fa0_23, fa0_24, fa0_18, bfa0_23, bfa0_24, bfa0_18, by rw [ht]; exact hP, va_K.moved hW.alike hK, hD⟩, hS.F ht⟩) hS.2.2 dX8_heard_25
    · obtain ⟨hw, h12_0, h12_1⟩ := hw
      subst hw
      exact absurd h12_1 (by decide)
    · obtain ⟨hw, h12_0, h12_1, h12_2, h12_3⟩ := hw
      subst hw
      have l12k2_a2 : (0 : Int) ≤ a2.toInt := h12_2
      have u12k2_a2 : a2.toInt ≤ (300 : Int) := h12_3
      refine lv_istore_n (lv' := [(3, .int 0), (0, .ref a0), (1, .int a1), (2, .int a2)]) hx hb dX8_heard_15 rfl hl (by decide) rfl (fun ls hl => ?_)
      refine lv_iload_n hx hb dX8_heard_16 rfl (lv_at hl 0 rfl) ?_
      refine lv_if_eq (tgt := 26) hx hb dX8_heard_17 (by decide) (fun _ => ?_) (fun c17 => absurd (by decide +kernel) c17)
      refine lv_aload_n hx hb dX8_heard_26 rfl (lv_at hl 1 rfl) ?_
      have hKc := hK.sub (tys' := [(ka0_15, .int), (ka0_23, .int), (ka0_24, .int), (ka0_17, .int), (ka0_18, .int)]) [0, 1, 2, 3, 4] rfl
      refine va_callv (va_runV (As := []) (rest := []) ⟨hx, hb, hml, hown, hts⟩ (c_X8_begin l dC dI H.size a0 (Value.int v1na0_0) a0g_1 a0g_2 a0g_3 a0g_4 a0g_5 a0g_6 a0g_7 a0g_8 a0g_9 a0g_10 (Value.int v1na0_11) a0g_12 a0g_13 (Value.int a0_14) a0g_16 a0g_19 a0g_20 a0g_21 a0g_22 (Value.int a0_26) (Value.int a0_27) (Value.int a0_28) a0g_29 a0g_30 a0g_31 a0g_32 a0g_33 a0g_34 a0g_35 a0g_36 a0g_37 a0g_38 a0g_39 a0_15 a0_17 a0_18 a0_23 a0_24 a0_25 ka0_15 fa0_15 ka0_23 fa0_23 ka0_24 fa0_24 ka0_17 fa0_17 ka0_18 fa0_18 bfa0_15 bfa0_23 bfa0_24 bfa0_17 bfa0_18) (cwV 0 hts gX8_heard_X8_begin rfl rfl rfl zd_X8_begin ⟨Nat.le_of_ble_eq_true rfl, Nat.le_of_ble_eq_true rfl⟩) ⟨ax_blind (fun _ _ _ _ _ => trivial), zr_8 hKc (zp_P6 hP) (q0 := 0) rfl, ax_pre (zp_P6 hP) hKc (zp_D6 hD) (fun _ _ => trivial)⟩ rfl rfl hl.1 rfl (lv_room (Nat.le_of_ble_eq_true rfl)) dX8_heard_27 ⟨Nat.le_of_ble_eq_true rfl, Nat.le_of_ble_eq_true rfl⟩) hS (fun q _ h => zp_F6 hD hS hA q h) (zp_F6 hD hS hA) (fun u t H locs ht hvm hw => zx_4 (fun v27na0_25 v27nfa0_23 v27nfa0_24 v27nfa0_18 => zy_3 (fun bv27nfa0_23 bv27nfa0_24 bv27nfa0_18 hB hz1 hk1 hS1 => zo6 hB ht hP hD hk1 (zp_F6 hD hS hA) hS1 (fun hP hK1 hD hS => ?_))))
      refine lv_aload_n hx hb dX8_heard_30 rfl (lv_at hl 1 rfl) ?_
      refine va_get (D := (dC, dI)) (ci := 8) (v := .ref a0_18) (C := RX8) (T := TX8) (N := 40) hx hb hts zi_X8_heard_8 hown hK hP 0 rfl rfl 18 (by decide) (hts (.fieldLink RX8 29 "WaxTurnsModel" "trial" "[I") (zm_X8_heard_r1 (List.mem_of_getElem? (i := 0) rfl))) (fun _ h9 => h9) rfl dX8_heard_31 ?_
      refine lv_bipush (v := 9) hx hb dX8_heard_34 zk_bipush_9 ?_
      refine lv_iload_n hx hb dX8_heard_36 rfl (lv_at hl 2 rfl) ?_
      refine lv_iadd hx hb dX8_heard_37 ?_
      refine lv_topi (fun x37 ex37 => ?_)
      have qx37 : x37.toInt = (9 : Int32).toInt + a1.toInt := ai_add ex37 ⟨zq2, zq3⟩ ⟨l7k0_a1, u7k0_a1⟩ (by decide) (by decide)
      have bx37 : (9 : Int) ≤ x37.toInt ∧ x37.toInt ≤ 17 := ⟨by rw [qx37]; exact Int.add_le_add zq2 l7k0_a1, by rw [qx37]; exact Int.add_le_add zq3 u7k0_a1⟩
      have wx37 : x37.toInt = 9 + a1.toInt := qx37
      refine lv_iconst (v := 0) hx hb dX8_heard_38 zk_iconst_0 ?_
      refine va_iast hx hb hK hP hD hS 5 4 rfl rfl (ai_in bx37.1 bx37.2 (by decide) (by decide)) dX8_heard_39 (fun H locs hP hD hS => ?_)
      obtain ⟨f39, ef39⟩ : ∃ g9 : Nat → Int32, g9 = upd v27nfa0_18 (x37 : Int32).toNatClampNeg (0 : Int32) := ⟨_, rfl⟩
      refine zs_5 (y := (a0_18, .inl (ka0_18, 23, .inl (f39)))) hP hD (by rw [ef39]) (fun hP hD => ?_)
      have bf39 : ((∀ k : Nat, 0 ≤ k → k ≤ 8 → (0 : Int) ≤ (f39 k).toInt ∧ (f39 k).toInt ≤ 8) ∧ (∀ k : Nat, 19 ≤ k → k ≤ 19 → (0 : Int) ≤ (f39 k).toInt ∧ (f39 k).toInt ≤ 8) ∧ (∀ k : Nat, 20 ≤ k → k ≤ 20 → (0 : Int) ≤ (f39 k).toInt ∧ (f39 k).toInt ≤ 19)) := by rw [ef39]; exact ⟨ai_updO bv27nfa0_18.1 _ (Or.inr (ai_ngt_of bx37.1 (by decide) (by decide))), ai_updO bv27nfa0_18.2.1 _ (Or.inl (ai_nlt_of bx37.1 bx37.2 (by decide) (by decide))), ai_updO bv27nfa0_18.2.2 _ (Or.inl (ai_nlt_of bx37.1 bx37.2 (by decide) (by decide)))⟩
      refine lv_iconst (v := 0) hx hb dX8_heard_40 zk_iconst_0 ?_
      refine lv_istore (lv' := [(4, .int 0), (3, .int 0), (0, .ref a0), (1, .int a1), (2, .int a2)]) hx hb dX8_heard_41 hl (by decide) rfl (fun ls hl => ?_)
      have J43 : ∀ (n : Nat) (j43l4 : Int32) (j43a0_26 : Int32) (j43a0_27 : Int32) (j43a0_28 : Int32) (j43a0_18_a : Nat → Int32) (H : Heap) (locs : List Loc) (ls : Array Slot), (301 : Int) - j43l4.toInt ≤ (n : Int) → (0 : Int) ≤ j43l4.toInt → j43l4.toInt ≤ (300 : Int) → ((∀ k : Nat, 0 ≤ k → k ≤ 8 → (0 : Int) ≤ (j43a0_18_a k).toInt ∧ (j43a0_18_a k).toInt ≤ 8) ∧ (∀ k : Nat, 19 ≤ k → k ≤ 19 → (0 : Int) ≤ (j43a0_18_a k).toInt ∧ (j43a0_18_a k).toInt ≤ 8) ∧ (∀ k : Nat, 20 ≤ k → k ≤ 20 → (0 : Int) ≤ (j43a0_18_a k).toInt ∧ (j43a0_18_a k).toInt ≤ 19)) → va_P (dC, dI) vwCl [(a0, .inr (8, [Value.int v1na0_0, a0g_1, a0g_2, a0g_3, a0g_4, a0g_5, a0g_6, a0g_7, a0g_8, a0g_9, a0g_10, Value.int v1na0_11, a0g_12, a0g_13, Value.int a0_14, Value.ref a0_15, a0g_16, Value.ref a0_17, Value.ref a0_18, a0g_19, a0g_20, a0g_21, a0g_22, Value.ref a0_23, Value.ref a0_24, Value.int v27na0_25, Value.int j43a0_26, Value.int j43a0_27, Value.int j43a0_28, a0g_29, a0g_30, a0g_31, a0g_32, a0g_33, a0g_34, a0g_35, a0g_36, a0g_37, a0g_38, a0g_39])), (a0_15, .inl (ka0_15, 156, .inl (fa0_15))), (a0_23, .inl (ka0_23, 3, .inl (v27nfa0_23))), (a0_24, .inl (ka0_24, 3, .inl (v27nfa0_24))), (a0_17, .inl (ka0_17, 23, .inl (fa0_17))), (a0_18, .inl (ka0_18, 23, .inl (j43a0_18_a)))] H → va_D A [(a0, .inr (8, [Value.int v1na0_0, a0g_1, a0g_2, a0g_3, a0g_4, a0g_5, a0g_6, a0g_7, a0g_8, a0g_9, a0g_10, Value.int v1na0_11, a0g_12, a0g_13, Value.int a0_14, Value.ref a0_15, a0g_16, Value.ref a0_17, Value.ref a0_18, a0g_19, a0g_20, a0g_21, a0g_22, Value.ref a0_23, Value.ref a0_24, Value.int v27na0_25, Value.int j43a0_26, Value.int j43a0_27, Value.int j43a0_28, a0g_29, a0g_30, a0g_31, a0g_32, a0g_33, a0g_34, a0g_35, a0g_36, a0g_37, a0g_38, a0g_39])), (a0_15, .inl (ka0_15, 156, .inl (fa0_15))), (a0_23, .inl (ka0_23, 3, .inl (v27nfa0_23))), (a0_24, .inl (ka0_24, 3, .inl (v27nfa0_24))), (a0_17, .inl (ka0_17, 23, .inl (fa0_17))), (a0_18, .inl (ka0_18, 23, .inl (j43a0_18_a)))] → va_S A s.heap H locs → lv_has ls 5 [(0, .ref a0), (1, .int a1), (2, .int a2), (4, .int j43l4)] → K H locs (F0 m 43 ls []) := by
        intro n
        induction n with
        | zero =>
          intro j43l4 j43a0_26 j43a0_27 j43a0_28 j43a0_18_a H locs ls hm bj43l4_l bj43l4_u bj43a0_18_a hP hD hS hl
          first | exact zg_0 hm bj43l4_u (by decide) | (have h8 := ai_min j43l4; have h9 := ai_max j43l4; exact absurd hm (by omega))
        | succ n ih43 =>
          intro j43l4 j43a0_26 j43a0_27 j43a0_28 j43a0_18_a H locs ls hm bj43l4_l bj43l4_u bj43a0_18_a hP hD hS hl
          refine (hK0 _ _ _).mpr ?_
          have hm43 := hm
          refine lv_iload hx hb dX8_heard_43 (lv_at hl 3 rfl) ?_
          refine lv_iload_n hx hb dX8_heard_45 rfl (lv_at hl 2 rfl) ?_
          refine lv_icmp_ge (tgt := 63) hx hb dX8_heard_46 (by decide) (fun c46 => ?_) (fun c46 => ?_)
          · have gc46 := ai_le c46
            have u46t_a2 : a2.toInt ≤ (300 : Int) := u12k2_a2
            have l46t_j43l4 : (0 : Int) ≤ j43l4.toInt := bj43l4_l
            refine lv_aload_n hx hb dX8_heard_63 rfl (lv_at hl 0 rfl) ?_
            refine va_get (D := (dC, dI)) (ci := 8) (v := .ref a0_18) (C := RX8) (T := TX8) (N := 40) hx hb hts zi_X8_heard_8 hown hK hP 0 rfl rfl 18 (by decide) (hts (.fieldLink RX8 29 "WaxTurnsModel" "trial" "[I") (zm_X8_heard_r1 (List.mem_of_getElem? (i := 0) rfl))) (fun _ h9 => h9) rfl dX8_heard_64 ?_
            refine lv_bipush (v := 9) hx hb dX8_heard_67 zk_bipush_9 ?_
            refine lv_iload_n hx hb dX8_heard_69 rfl (lv_at hl 1 rfl) ?_
            refine lv_iadd hx hb dX8_heard_70 ?_
            refine lv_topi (fun x70 ex70 => ?_)
            have qx70 : x70.toInt = (9 : Int32).toInt + a1.toInt := ai_add ex70 ⟨zq2, zq3⟩ ⟨l7k0_a1, u7k0_a1⟩ (by decide) (by decide)
            have bx70 : (9 : Int) ≤ x70.toInt ∧ x70.toInt ≤ 17 := ⟨by rw [qx70]; exact Int.add_le_add zq2 l7k0_a1, by rw [qx70]; exact Int.add_le_add zq3 u7k0_a1⟩
            have wx70 : x70.toInt = 9 + a1.toInt := qx70
            refine va_iald hx hb hK hP 5 4 rfl rfl (ai_in bx70.1 bx70.2 (by decide) (by decide)) dX8_heard_71 ?_
            refine lv_topi (fun x71 ex71 => ?_)
            exact W.iret (v := x71) hx hb hr (fun t ht hW => ⟨⟨x71, (), rfl, trivial, v1na0_0, v1na0_11, v27na0_25, j43a0_26, j43a0_27, j43a0_28, v27nfa0_23, v27nfa0_24, j43a0_18_a, bv27nfa0_23, bv27nfa0_24, bj43a0_18_a, by rw [ht]; exact hP, va_K.moved hW.alike hK, hD⟩, hS.F ht⟩) hS.2.2 dX8_heard_72
          · have gc46 := ai_nle c46
            have u46f_j43l4 : j43l4.toInt ≤ (299 : Int) := ai_lthi gc46 u12k2_a2
            have l46f_a2 : (1 : Int) ≤ a2.toInt := ai_ltlo gc46 bj43l4_l
            refine lv_aload_n hx hb dX8_heard_49 rfl (lv_at hl 0 rfl) ?_
            refine lv_aload_n hx hb dX8_heard_50 rfl (lv_at hl 0 rfl) ?_
            refine va_get (D := (dC, dI)) (ci := 8) (v := .ref a0_18) (C := RX8) (T := TX8) (N := 40) hx hb hts zi_X8_heard_8 hown hK hP 0 rfl rfl 18 (by decide) (hts (.fieldLink RX8 29 "WaxTurnsModel" "trial" "[I") (zm_X8_heard_r1 (List.mem_of_getElem? (i := 0) rfl))) (fun _ h9 => h9) rfl dX8_heard_51 ?_
            refine zc_cutc (wc := [(a0, .inr (8, [Value.int v1na0_0, a0g_1, a0g_2, a0g_3, a0g_4, a0g_5, a0g_6, a0g_7, a0g_8, a0g_9, a0g_10, Value.int v1na0_11, a0g_12, a0g_13, Value.int a0_14, Value.ref a0_15, a0g_16, Value.ref a0_17, Value.ref a0_18, a0g_19, a0g_20, a0g_21, a0g_22, Value.ref a0_23, Value.ref a0_24, Value.int v27na0_25, Value.int j43a0_26, Value.int j43a0_27, Value.int j43a0_28, a0g_29, a0g_30, a0g_31, a0g_32, a0g_33, a0g_34, a0g_35, a0g_36, a0g_37, a0g_38, a0g_39])), (a0_18, .inl (ka0_18, 23, .inl (j43a0_18_a))), (a0_15, .inl (ka0_15, 156, .inl (fa0_15))), (a0_24, .inl (ka0_24, 3, .inl (v27nfa0_24))), (a0_23, .inl (ka0_23, 3, .inl (v27nfa0_23)))]) hP hD hS hA [0, 5, 1, 3, 2] (by decide +kernel) rfl (fun hPc hDc hFc hCc => ?_)
            have hKc := hK.sub (tys' := [(ka0_18, .int), (ka0_15, .int), (ka0_24, .int), (ka0_23, .int)]) [4, 0, 2, 1] rfl
            refine va_callv (va_runV (As := [.ref a0_18]) (rest := []) ⟨hx, hb, hml, hown, hts⟩ (c_X8_minuteOn l dC dI H.size a0 a0_18 (Value.int v1na0_0) a0g_1 a0g_2 a0g_3 a0g_4 a0g_5 a0g_6 a0g_7 a0g_8 a0g_9 a0g_10 (Value.int v1na0_11) a0g_12 a0g_13 (Value.int a0_14) a0g_16 (Value.ref a0_17) (Value.ref a0_18) a0g_19 a0g_20 a0g_21 a0g_22 a0g_29 a0g_30 a0g_31 a0g_32 a0g_33 a0g_34 a0g_35 a0g_36 a0g_37 a0g_38 a0g_39 a0_15 a0_23 a0_24 v27na0_25 j43a0_26 j43a0_27 j43a0_28 ka0_18 j43a0_18_a ka0_15 fa0_15 ka0_24 v27nfa0_24 ka0_23 v27nfa0_23 bj43a0_18_a bfa0_15 bv27nfa0_24 bv27nfa0_23 hkm) (cwV 1 hts gX8_heard_X8_minuteOn rfl rfl rfl zd_X8_minuteOn ⟨Nat.le_of_ble_eq_true rfl, Nat.le_of_ble_eq_true rfl⟩) ⟨ax_blind (fun _ _ _ _ _ => trivial), zr_8 hKc hPc (q0 := 0) rfl, ax_pre hPc hKc hDc (fun _ _ => trivial)⟩ rfl rfl hl.1 rfl (lv_room (Nat.le_of_ble_eq_true rfl)) dX8_heard_54 ⟨Nat.le_of_ble_eq_true rfl, Nat.le_of_ble_eq_true rfl⟩) hS (fun q _ h => hFc q h) hFc (fun u t H locs ht hvm hw => zx_4 (fun v54na0_26 v54na0_27 v54na0_28 v54nfa1 => zy_1 (fun bv54nfa1 hB hz1 hk1 hS1 => zo hB ht hS1 (fun hP1 hK1 hD1 hS => ?_))))
            refine zc_backc (w := [(a0, .inr (8, [Value.int v1na0_0, a0g_1, a0g_2, a0g_3, a0g_4, a0g_5, a0g_6, a0g_7, a0g_8, a0g_9, a0g_10, Value.int v1na0_11, a0g_12, a0g_13, Value.int a0_14, Value.ref a0_15, a0g_16, Value.ref a0_17, Value.ref a0_18, a0g_19, a0g_20, a0g_21, a0g_22, Value.ref a0_23, Value.ref a0_24, Value.int v27na0_25, Value.int v54na0_26, Value.int v54na0_27, Value.int v54na0_28, a0g_29, a0g_30, a0g_31, a0g_32, a0g_33, a0g_34, a0g_35, a0g_36, a0g_37, a0g_38, a0g_39])), (a0_15, .inl (ka0_15, 156, .inl (fa0_15))), (a0_23, .inl (ka0_23, 3, .inl (v27nfa0_23))), (a0_24, .inl (ka0_24, 3, .inl (v27nfa0_24))), (a0_17, .inl (ka0_17, 23, .inl (fa0_17))), (a0_18, .inl (ka0_18, 23, .inl (v54nfa1)))]) hP hD hCc hk1 hFc hP1 hD1 [.inr 0, .inr 2, .inr 4, .inr 3, .inl 4, .inr 1] (by decide +kernel) rfl (fun hP hD => ?_)
            obtain ⟨x57, ex57⟩ : ∃ y : Int32, y = j43l4 + Int32.ofInt 1 := ⟨_, rfl⟩
            have qx57 : x57.toInt = j43l4.toInt + 1 := ai_inc ex57 (by decide) (by decide) u46f_j43l4 (by decide)
            have bx57 : (1 : Int) ≤ x57.toInt ∧ x57.toInt ≤ 300 := ⟨by rw [qx57]; exact Int.add_le_add bj43l4_l (Int.le_refl _), by rw [qx57]; exact Int.add_le_add u46f_j43l4 (Int.le_refl _)⟩
            refine lv_iinc (v := x57) (lv' := [(4, .int x57), (0, .ref a0), (1, .int a1), (2, .int a2)]) hx hb dX8_heard_57 hl (k := 3) rfl ex57.symm (by decide) rfl (fun ls hl => ?_)
            refine lv_goto (tgt := 43) hx hb dX8_heard_60 (by decide) ?_
            exact (hK0 _ _ _).mp (ih43 x57 v54na0_26 v54na0_27 v54na0_28 v54nfa1 _ _ _ (by first | exact zg_s hm43 qx57 | (have h0 := qx57; omega)) (Int.le_trans zq4 bx57.1) bx57.2 bv54nfa1 hP hD hS (lv_sub hl [1, 2, 3, 0] rfl))
      exact (hK0 _ _ _).mp (J43 301 0 a0_26 a0_27 a0_28 f39 _ _ _ (by first | decide +kernel | (have h1 : (0 : Int) ≤ (0 : Int32).toInt := zq5; have h2 : (0 : Int32).toInt ≤ (0 : Int) := zq6; omega)) zq5 (Int.le_trans zq6 zq83) bf39 hP hD hS (lv_sub hl [2, 3, 4, 0] rfl))
  · subst hw
    refine lv_iconst (v := 0) hx hb dX8_heard_10 zk_iconst_0 ?_
    refine lv_iload_n hx hb dX8_heard_11 rfl (lv_at hl 2 rfl) ?_
    refine va_calli (va_runV (As := [.int 0, .int 0, .int a2]) (rest := []) ⟨hx, hb, hml, hown, hts⟩ (c_X8_aheadWhy l dC dI H.size a0 0 0 a2 (Value.int v1na0_0) a0g_1 a0g_2 a0g_3 a0g_4 a0g_5 a0g_6 a0g_7 a0g_8 a0g_9 a0g_10 (Value.int v1na0_11) a0g_12 a0g_13 (Value.int a0_14) (Value.ref a0_15) a0g_16 (Value.ref a0_17) (Value.ref a0_18) a0g_19 a0g_20 a0g_21 a0g_22 (Value.ref a0_23) (Value.ref a0_24) (Value.int a0_25) (Value.int a0_26) (Value.int a0_27) (Value.int a0_28) a0g_29 a0g_30 a0g_31 a0g_32 a0g_33 a0g_34 a0g_35 a0g_36 a0g_37 a0g_38 a0g_39 zq5 (Int.le_trans zq6 zq4) zq5 (Int.le_trans zq6 zq4)) (cwV 3 hts gX8_heard_X8_aheadWhy rfl rfl rfl zd_X8_aheadWhy ⟨Nat.le_of_ble_eq_true rfl, Nat.le_of_ble_eq_true rfl⟩) ⟨ax_blind (fun _ _ _ _ _ => trivial), zr_8 (zp_K hK) (zp_P1 hP) (q0 := 0) rfl, ax_pre (zp_P1 hP) (zp_K hK) (zp_D1 hD) (fun _ _ => trivial)⟩ rfl rfl hl.1 rfl (lv_room (Nat.le_of_ble_eq_true rfl)) dX8_heard_12 ⟨Nat.le_of_ble_eq_true rfl, Nat.le_of_ble_eq_true rfl⟩) hS (fun q _ h => zp_F1 hD hS hA q h) (zp_F1 hD hS hA) (fun r12 u t H locs ht hvm hw hB hz1 hk1 hS1 => zo1 hB ht hP hD hk1 (zp_F1 hD hS hA) hS1 (fun hP hK1 hD hS => ?_))
    rcases hw with hw | hw | hw
    · obtain ⟨hw, h12_0, h12_1⟩ := hw
      subst hw
      exact absurd h12_0 (by decide)
    · obtain ⟨hw, h12_0, h12_1⟩ := hw
      subst hw
      refine lv_istore_n (lv' := [(3, .int 1), (0, .ref a0), (1, .int a1), (2, .int a2)]) hx hb dX8_heard_15 rfl hl (by decide) rfl (fun ls hl => ?_)
      refine lv_iload_n hx hb dX8_heard_16 rfl (lv_at hl 0 rfl) ?_
      refine lv_if_eq (tgt := 26) hx hb dX8_heard_17 (by decide) (fun c17 => absurd c17 (by decide +kernel)) (fun _ => ?_)
      refine lv_aload_n hx hb dX8_heard_20 rfl (lv_at hl 1 rfl) ?_
      refine lv_iload_n hx hb dX8_heard_21 rfl (lv_at hl 0 rfl) ?_
      refine va_calli (va_runV (As := [.int 1]) (rest := []) ⟨hx, hb, hml, hown, hts⟩ (c_X8_no l dC dI H.size a0 1 (Value.int v1na0_0) a0g_1 a0g_2 a0g_3 a0g_4 a0g_5 a0g_6 a0g_7 a0g_8 a0g_9 a0g_10 a0g_12 a0g_13 (Value.int a0_14) (Value.ref a0_15) a0g_16 (Value.ref a0_17) (Value.ref a0_18) a0g_19 a0g_20 a0g_21 a0g_22 (Value.ref a0_23) (Value.ref a0_24) (Value.int a0_25) (Value.int a0_26) (Value.int a0_27) (Value.int a0_28) a0g_29 a0g_30 a0g_31 a0g_32 a0g_33 a0g_34 a0g_35 a0g_36 a0g_37 a0g_38 a0g_39 v1na0_11 ) (cwV 1 hts gX8_heard_X8_no rfl rfl rfl zd_X8_no ⟨Nat.le_of_ble_eq_true rfl, Nat.le_of_ble_eq_true rfl⟩) ⟨ax_blind (fun _ _ _ _ _ => trivial), zr_8 (zp_K hK) (zp_P1 hP) (q0 := 0) rfl, ax_pre (zp_P1 hP) (zp_K hK) (zp_D1 hD) (fun _ _ => trivial)⟩ rfl rfl hl.1 rfl (lv_room (Nat.le_of_ble_eq_true rfl)) dX8_heard_22 ⟨Nat.le_of_ble_eq_true rfl, Nat.le_of_ble_eq_true rfl⟩) hS (fun q _ h => zp_F1 hD hS hA q h) (zp_F1 hD hS hA) (fun r22 u t H locs ht hvm hw => zx_1 (fun v22na0_11 hB hz1 hk1 hS1 => zo1 hB ht hP hD hk1 (zp_F1 hD hS hA) hS1 (fun hP hK1 hD hS => ?_)))
      have hw : r22 = (-1) := hw
      have hw := hw.symm
      subst hw
      exact W.iret (v := (-1)) hx hb hr (fun t ht hW => ⟨⟨(-1), (), rfl, trivial, v1na0_0, v22na0_11, a0_25, a0_26, a0_27, a0_28, fa0_23, fa0_24, fa0_18, bfa0_23, bfa0_24, bfa0_18, by rw [ht]; exact hP, va_K.moved hW.alike hK, hD⟩, hS.F ht⟩) hS.2.2 dX8_heard_25
    · obtain ⟨hw, h12_0, h12_1, h12_2, h12_3⟩ := hw
      subst hw
      exact absurd h12_0 (by decide)
end P240_03_safe
section P240_04_safe
set_option maxHeartbeats 4000000 in
set_option maxRecDepth 100000 in
theorem c_X8_allIn (l : Launch) (dC : Nat → ClassId) (dI : Nat → Nat → Nat) (sz : Nat) (a0 : Nat) (a1 : Int32) (a0_0 : Int32) (a0g_1 a0g_2 a0g_3 a0g_4 a0g_5 a0g_6 a0g_7 a0g_8 a0g_9 a0g_10 a0g_12 a0g_13 a0g_16 a0g_19 a0g_20 a0g_21 a0g_22 a0g_29 a0g_30 a0g_31 a0g_32 a0g_33 a0g_34 a0g_35 a0g_36 a0g_37 a0g_38 a0g_39 : Value) (a0_11 : Int32) (a0_14 : Int32) (a0_15 : Nat) (a0_17 : Nat) (a0_18 : Nat) (a0_23 : Nat) (a0_24 : Nat) (a0_25 : Int32) (a0_26 : Int32) (a0_27 : Int32) (a0_28 : Int32) (ka0_15 : ClassId) (fa0_15 : Nat → Int32) (ka0_23 : ClassId) (fa0_23 : Nat → Int32) (ka0_24 : ClassId) (fa0_24 : Nat → Int32) (ka0_17 : ClassId) (fa0_17 : Nat → Int32) (ka0_18 : ClassId) (fa0_18 : Nat → Int32) (ba0_14_l : (1 : Int) ≤ a0_14.toInt) (ba0_14_u : a0_14.toInt ≤ (1 : Int)) (bfa0_15 : ((∀ k : Nat, 0 ≤ k → k ≤ 0 → (2 : Int) ≤ (fa0_15 k).toInt ∧ (fa0_15 k).toInt ≤ 9) ∧ (∀ k : Nat, 1 ≤ k → k ≤ 1 → (1 : Int) ≤ (fa0_15 k).toInt ∧ (fa0_15 k).toInt ≤ 20) ∧ (∀ k : Nat, 2 ≤ k → k ≤ 2 → (0 : Int) ≤ (fa0_15 k).toInt ∧ (fa0_15 k).toInt ≤ 8) ∧ (∀ k : Nat, 3 ≤ k → k ≤ 3 → (0 : Int) ≤ (fa0_15 k).toInt ∧ (fa0_15 k).toInt ≤ 100) ∧ (∀ k : Nat, 4 ≤ k → k ≤ 4 → (0 : Int) ≤ (fa0_15 k).toInt ∧ (fa0_15 k).toInt ≤ 9) ∧ (∀ k : Nat, 5 ≤ k → k ≤ 5 → (0 : Int) ≤ (fa0_15 k).toInt ∧ (fa0_15 k).toInt ≤ 3) ∧ (∀ k : Nat, 6 ≤ k → k ≤ 6 → (0 : Int) ≤ (fa0_15 k).toInt ∧ (fa0_15 k).toInt ≤ 6) ∧ (∀ k : Nat, 7 ≤ k → k ≤ 9 → (0 : Int) ≤ (fa0_15 k).toInt ∧ (fa0_15 k).toInt ≤ 8) ∧ (∀ k : Nat, 12 ≤ k → k ≤ 29 → (0 : Int) ≤ (fa0_15 k).toInt ∧ (fa0_15 k).toInt ≤ 20) ∧ (∀ k : Nat, 30 ≤ k → k ≤ 35 → (0 : Int) ≤ (fa0_15 k).toInt ∧ (fa0_15 k).toInt ≤ 8) ∧ (∀ k : Nat, 36 ≤ k → k ≤ 47 → (0 : Int) ≤ (fa0_15 k).toInt ∧ (fa0_15 k).toInt ≤ 999))) (bfa0_23 : (∀ k, (0 : Int) ≤ (fa0_23 k).toInt ∧ (fa0_23 k).toInt ≤ 80)) (bfa0_24 : (∀ k, (0 : Int) ≤ (fa0_24 k).toInt ∧ (fa0_24 k).toInt ≤ 80)) (bfa0_17 : ((∀ k : Nat, 0 ≤ k → k ≤ 8 → (0 : Int) ≤ (fa0_17 k).toInt ∧ (fa0_17 k).toInt ≤ 8) ∧ (∀ k : Nat, 19 ≤ k → k ≤ 19 → (0 : Int) ≤ (fa0_17 k).toInt ∧ (fa0_17 k).toInt ≤ 8) ∧ (∀ k : Nat, 20 ≤ k → k ≤ 20 → (0 : Int) ≤ (fa0_17 k).toInt ∧ (fa0_17 k).toInt ≤ 19))) (bfa0_18 : ((∀ k : Nat, 0 ≤ k → k ≤ 8 → (0 : Int) ≤ (fa0_18 k).toInt ∧ (fa0_18 k).toInt ≤ 8) ∧ (∀ k : Nat, 19 ≤ k → k ≤ 19 → (0 : Int) ≤ (fa0_18 k).toInt ∧ (fa0_18 k).toInt ≤ 8) ∧ (∀ k : Nat, 20 ≤ k → k ≤ 20 → (0 : Int) ≤ (fa0_18 k).toInt ∧ (fa0_18 k).toInt ≤ 19))) (hkm : ∀ (j i0 i : Int32), (0 : Int) ≤ j.toInt → j.toInt ≤ 8 → i0.toInt = 12 + 2 * j.toInt → i.toInt = 13 + 2 * j.toInt → (fa0_15 i0.toNatClampNeg).toInt = (1 : Int32).toInt → (1 : Int) ≤ (fa0_15 i.toNatClampNeg).toInt) : zm l yX8_allIn wsX8_allIn ({ frames := 4, cells := 0, slots := 0, locals := 95 }) [.ref a0, .int a1] dC dI sz [(a0, .inr (8, [Value.int a0_0, a0g_1, a0g_2, a0g_3, a0g_4, a0g_5, a0g_6, a0g_7, a0g_8, a0g_9, a0g_10, Value.int a0_11, a0g_12, a0g_13, Value.int a0_14, Value.ref a0_15, a0g_16, Value.ref a0_17, Value.ref a0_18, a0g_19, a0g_20, a0g_21, a0g_22, Value.ref a0_23, Value.ref a0_24, Value.int a0_25, Value.int a0_26, Value.int a0_27, Value.int a0_28, a0g_29, a0g_30, a0g_31, a0g_32, a0g_33, a0g_34, a0g_35, a0g_36, a0g_37, a0g_38, a0g_39])), (a0_15, .inl (ka0_15, 156, .inl (fa0_15))), (a0_23, .inl (ka0_23, 3, .inl (fa0_23))), (a0_24, .inl (ka0_24, 3, .inl (fa0_24))), (a0_17, .inl (ka0_17, 23, .inl (fa0_17))), (a0_18, .inl (ka0_18, 23, .inl (fa0_18)))] [(ka0_15, .int), (ka0_23, .int), (ka0_24, .int), (ka0_17, .int), (ka0_18, .int)] (fun A _ => True) (fun A => va_Qi (fun (r : Int32) (_ : Unit) => (-2 : Int) ≤ r.toInt ∧ r.toInt ≤ (300 : Int)) (fun (_ : Unit) (t : State) => ∃ na0_0 : Int32, ∃ na0_11 : Int32, ∃ na0_25 : Int32, ∃ na0_26 : Int32, ∃ na0_27 : Int32, ∃ na0_28 : Int32, ∃ nfa0_23 : Nat → Int32, ∃ nfa0_24 : Nat → Int32, ∃ nfa0_18 : Nat → Int32, (∀ k, (0 : Int) ≤ (nfa0_23 k).toInt ∧ (nfa0_23 k).toInt ≤ 80) ∧ (∀ k, (0 : Int) ≤ (nfa0_24 k).toInt ∧ (nfa0_24 k).toInt ≤ 80) ∧ ((∀ k : Nat, 0 ≤ k → k ≤ 8 → (0 : Int) ≤ (nfa0_18 k).toInt ∧ (nfa0_18 k).toInt ≤ 8) ∧ (∀ k : Nat, 19 ≤ k → k ≤ 19 → (0 : Int) ≤ (nfa0_18 k).toInt ∧ (nfa0_18 k).toInt ≤ 8) ∧ (∀ k : Nat, 20 ≤ k → k ≤ 20 → (0 : Int) ≤ (nfa0_18 k).toInt ∧ (nfa0_18 k).toInt ≤ 19)) ∧ ax_B dC dI A [(a0, .inr (8, [Value.int na0_0, a0g_1, a0g_2, a0g_3, a0g_4, a0g_5, a0g_6, a0g_7, a0g_8, a0g_9, a0g_10, Value.int na0_11, a0g_12, a0g_13, Value.int a0_14, Value.ref a0_15, a0g_16, Value.ref a0_17, Value.ref a0_18, a0g_19, a0g_20, a0g_21, a0g_22, Value.ref a0_23, Value.ref a0_24, Value.int na0_25, Value.int na0_26, Value.int na0_27, Value.int na0_28, a0g_29, a0g_30, a0g_31, a0g_32, a0g_33, a0g_34, a0g_35, a0g_36, a0g_37, a0g_38, a0g_39])), (a0_15, .inl (ka0_15, 156, .inl (fa0_15))), (a0_23, .inl (ka0_23, 3, .inl (nfa0_23))), (a0_24, .inl (ka0_24, 3, .inl (nfa0_24))), (a0_17, .inl (ka0_17, 23, .inl (fa0_17))), (a0_18, .inl (ka0_18, 23, .inl (nfa0_18)))] [(ka0_15, .int), (ka0_23, .int), (ka0_24, .int), (ka0_17, .int), (ka0_18, .int)] t) A) := by
  refine zh (cc := cX8_allIn) (maxL := 4) (ret := (some .int)) zn_RX8 rfl (Nat.le_of_ble_eq_true rfl) (fun p e s m below meth c A ls hx hb hml hr hts (hown : s.vm.findClass RX8 = some m.cls) hlocks hA hS hP hK hD hE (hl : lv_has ls 4 [(0, .ref a0), (1, .int a1)]) => ?_)
  refine ai_open (fun K hK0 => ?_)
  refine (hK0 _ _ _).mpr ?_
  refine lv_aload_n hx hb dX8_allIn_0 rfl (lv_at hl 0 rfl) ?_
  refine va_callv (va_runV (As := []) (rest := []) ⟨hx, hb, hml, hown, hts⟩ (c_X8_good l dC dI s.heap.size a0 a0_0 a0g_1 a0g_2 a0g_3 a0g_4 a0g_5 a0g_6 a0g_7 a0g_8 a0g_9 a0g_10 a0g_12 a0g_13 (Value.int a0_14) (Value.ref a0_15) a0g_16 (Value.ref a0_17) (Value.ref a0_18) a0g_19 a0g_20 a0g_21 a0g_22 (Value.ref a0_23) (Value.ref a0_24) (Value.int a0_25) (Value.int a0_26) (Value.int a0_27) (Value.int a0_28) a0g_29 a0g_30 a0g_31 a0g_32 a0g_33 a0g_34 a0g_35 a0g_36 a0g_37 a0g_38 a0g_39 a0_11 ) (cwV 0 hts gX8_allIn_X8_good rfl rfl rfl zd_X8_good ⟨Nat.le_of_ble_eq_true rfl, Nat.le_of_ble_eq_true rfl⟩) ⟨ax_blind (fun _ _ _ _ _ => trivial), zr_8 (zp_K hK) (zp_P1 hP) (q0 := 0) rfl, ax_pre (zp_P1 hP) (zp_K hK) (zp_D1 hD) (fun _ _ => trivial)⟩ rfl rfl hl.1 rfl (lv_room (Nat.le_of_ble_eq_true rfl)) dX8_allIn_1 ⟨Nat.le_of_ble_eq_true rfl, Nat.le_of_ble_eq_true rfl⟩) hS (fun q _ h => zp_F1 hD hS hA q h) (zp_F1 hD hS hA) (fun u t H locs ht hvm hw => zx_2 (fun v1na0_0 v1na0_11 hB hz1 hk1 hS1 => zo1 hB ht hP hD hk1 (zp_F1 hD hS hA) hS1 (fun hP hK1 hD hS => ?_)))
  refine lv_aload_n hx hb dX8_allIn_4 rfl (lv_at hl 0 rfl) ?_
  refine lv_iload_n hx hb dX8_allIn_5 rfl (lv_at hl 1 rfl) ?_
  have hKc := hK.sub (tys' := [(ka0_15, .int)]) [0] rfl
  refine va_calli (va_runV (As := [.int a1]) (rest := []) ⟨hx, hb, hml, hown, hts⟩ (c_X8_isFigure l dC dI H.size a0 a1 (Value.int v1na0_0) a0g_1 a0g_2 a0g_3 a0g_4 a0g_5 a0g_6 a0g_7 a0g_8 a0g_9 a0g_10 (Value.int v1na0_11) a0g_12 a0g_13 a0g_16 (Value.ref a0_17) (Value.ref a0_18) a0g_19 a0g_20 a0g_21 a0g_22 (Value.ref a0_23) (Value.ref a0_24) (Value.int a0_25) (Value.int a0_26) (Value.int a0_27) (Value.int a0_28) a0g_29 a0g_30 a0g_31 a0g_32 a0g_33 a0g_34 a0g_35 a0g_36 a0g_37 a0g_38 a0g_39 a0_14 a0_15 ka0_15 fa0_15 ba0_14_l ba0_14_u bfa0_15) (cwV 1 hts gX8_allIn_X8_isFigure rfl rfl rfl zd_X8_isFigure ⟨Nat.le_of_ble_eq_true rfl, Nat.le_of_ble_eq_true rfl⟩) ⟨ax_blind (fun _ _ _ _ _ => trivial), zr_8 hKc (zp_P2 hP) (q0 := 0) rfl, ax_pre (zp_P2 hP) hKc (zp_D2 hD) (fun _ _ => trivial)⟩ rfl rfl hl.1 rfl (lv_room (Nat.le_of_ble_eq_true rfl)) dX8_allIn_6 ⟨Nat.le_of_ble_eq_true rfl, Nat.le_of_ble_eq_true rfl⟩) hS (fun q _ h => zp_F2 hD hS hA q h) (zp_F2 hD hS hA) (fun r6 u t H locs ht hvm hw hB hz1 hk1 hS1 => zo2 hB ht hP hD hk1 (zp_F2 hD hS hA) hS1 (fun hP hK1 hD hS => ?_))
  rcases hw with hw | hw
  · obtain ⟨hw, h6_0, h6_1⟩ := hw
    subst hw
    have l6k0_a1 : (0 : Int) ≤ a1.toInt := h6_0
    have u6k0_a1 : a1.toInt ≤ (8 : Int) := h6_1
    refine lv_if_ne (tgt := 18) hx hb dX8_allIn_9 (by decide) (fun _ => ?_) (fun c9 => absurd c9 (by decide +kernel))
    refine lv_aload_n hx hb dX8_allIn_18 rfl (lv_at hl 0 rfl) ?_
    refine va_get (D := (dC, dI)) (ci := 8) (v := .ref a0_15) (C := RX8) (T := TX8) (N := 40) hx hb hts zi_X8_allIn_8 hown hK hP 0 rfl rfl 15 (by decide) (hts (.fieldLink RX8 20 "WaxTurnsModel" "\x72" "[I") (zm_X8_allIn_r1 (List.mem_of_getElem? (i := 0) rfl))) (fun _ h9 => h9) rfl dX8_allIn_19 ?_
    refine lv_bipush (v := 12) hx hb dX8_allIn_22 zk_bipush_12 ?_
    refine lv_iconst (v := 2) hx hb dX8_allIn_24 zk_iconst_2 ?_
    refine lv_iload_n hx hb dX8_allIn_25 rfl (lv_at hl 1 rfl) ?_
    refine lv_imul hx hb dX8_allIn_26 ?_
    refine lv_topi (fun x26 ex26 => ?_)
    have qx26 : x26.toInt = (2 : Int32).toInt * a1.toInt ∧ (0 : Int) ≤ x26.toInt ∧ x26.toInt ≤ 16 := ai_mul ex26 ⟨zq12, zq13⟩ ⟨l6k0_a1, u6k0_a1⟩ (by decide) (by decide) zq155
    have wx26 : x26.toInt = 2 * a1.toInt := qx26.1
    refine lv_iadd hx hb dX8_allIn_27 ?_
    refine lv_topi (fun x27 ex27 => ?_)
    have qx27 : x27.toInt = (12 : Int32).toInt + x26.toInt := ai_add ex27 ⟨zq119, zq120⟩ ⟨qx26.2.1, qx26.2.2⟩ (by decide) (by decide)
    have bx27 : (12 : Int) ≤ x27.toInt ∧ x27.toInt ≤ 28 := ⟨by rw [qx27]; exact Int.add_le_add zq119 qx26.2.1, by rw [qx27]; exact Int.add_le_add zq120 qx26.2.2⟩
    have wx27 : x27.toInt = 12 + x26.toInt := qx27
    refine va_iald hx hb hK hP 1 0 rfl rfl (ai_in bx27.1 bx27.2 (by decide) (by decide)) dX8_allIn_28 ?_
    refine lv_topi (fun x28 ex28 => ?_)
    have bx28 : (0 : Int) ≤ x28.toInt ∧ x28.toInt ≤ 20 := by rw [ex28]; exact ai_rd bfa0_15.2.2.2.2.2.2.2.2.1 bx27.1 bx27.2 (by decide) (by decide) (by decide)
    refine lv_iconst (v := 2) hx hb dX8_allIn_29 zk_iconst_2 ?_
    refine lv_icmp_eq (tgt := 36) hx hb dX8_allIn_30 (by decide) (fun c30 => ?_) (fun c30 => ?_)
    · have gc30 := ai_eq c30
      have u30t_x28 : x28.toInt ≤ (2 : Int) := Int.le_trans (Int.le_of_eq gc30) zq13
      have l30t_x28 : (2 : Int) ≤ x28.toInt := Int.le_trans zq12 (Int.le_of_eq gc30.symm)
      refine lv_iconst (v := 1) hx hb dX8_allIn_36 zk_iconst_1 ?_
      refine lv_aload_n hx hb dX8_allIn_37 rfl (lv_at hl 0 rfl) ?_
      refine va_get (D := (dC, dI)) (ci := 8) (v := .ref a0_15) (C := RX8) (T := TX8) (N := 40) hx hb hts zi_X8_allIn_8 hown hK hP 0 rfl rfl 15 (by decide) (hts (.fieldLink RX8 20 "WaxTurnsModel" "\x72" "[I") (zm_X8_allIn_r1 (List.mem_of_getElem? (i := 0) rfl))) (fun _ h9 => h9) rfl dX8_allIn_38 ?_
      refine lv_bipush (v := 12) hx hb dX8_allIn_41 zk_bipush_12 ?_
      refine lv_iconst (v := 2) hx hb dX8_allIn_43 zk_iconst_2 ?_
      refine lv_iload_n hx hb dX8_allIn_44 rfl (lv_at hl 1 rfl) ?_
      refine lv_imul hx hb dX8_allIn_45 ?_
      refine ax_ti x26 ex26.symm ?_
      refine lv_iadd hx hb dX8_allIn_46 ?_
      refine ax_ti x27 ex27.symm ?_
      refine lv_iconst (v := 1) hx hb dX8_allIn_47 zk_iconst_1 ?_
      refine lv_iadd hx hb dX8_allIn_48 ?_
      refine lv_topi (fun x48 ex48 => ?_)
      have qx48 : x48.toInt = x27.toInt + (1 : Int32).toInt := ai_add ex48 ⟨bx27.1, bx27.2⟩ ⟨zq1, zq0⟩ (by decide) (by decide)
      have bx48 : (13 : Int) ≤ x48.toInt ∧ x48.toInt ≤ 29 := ⟨by rw [qx48]; exact Int.add_le_add bx27.1 zq1, by rw [qx48]; exact Int.add_le_add bx27.2 zq0⟩
      have wx48 : x48.toInt = x27.toInt + 1 := qx48
      refine va_iald hx hb hK hP 1 0 rfl rfl (ai_in bx48.1 bx48.2 (by decide) (by decide)) dX8_allIn_49 ?_
      refine lv_topi (fun x49 ex49 => ?_)
      have bx49 : (0 : Int) ≤ x49.toInt ∧ x49.toInt ≤ 20 := by rw [ex49]; exact ai_rd bfa0_15.2.2.2.2.2.2.2.2.1 bx48.1 bx48.2 (by decide) (by decide) (by decide)
      refine lv_ishl hx hb dX8_allIn_50 ?_
      refine lv_topi (fun x50 ex50 => ?_)
      refine lv_iconst (v := 1) hx hb dX8_allIn_51 zk_iconst_1 ?_
      refine lv_isub hx hb dX8_allIn_52 ?_
      refine lv_topi (fun x52 ex52 => ?_)
      refine lv_istore_n (lv' := [(2, .int x52), (0, .ref a0), (1, .int a1)]) hx hb dX8_allIn_53 rfl hl (by decide) rfl (fun ls hl => ?_)
      refine lv_aload_n hx hb dX8_allIn_54 rfl (lv_at hl 1 rfl) ?_
      have hKc := hK.sub (tys' := [(ka0_15, .int), (ka0_23, .int), (ka0_24, .int), (ka0_17, .int), (ka0_18, .int)]) [0, 1, 2, 3, 4] rfl
      refine va_callv (va_runV (As := []) (rest := []) ⟨hx, hb, hml, hown, hts⟩ (c_X8_begin l dC dI H.size a0 (Value.int v1na0_0) a0g_1 a0g_2 a0g_3 a0g_4 a0g_5 a0g_6 a0g_7 a0g_8 a0g_9 a0g_10 (Value.int v1na0_11) a0g_12 a0g_13 (Value.int a0_14) a0g_16 a0g_19 a0g_20 a0g_21 a0g_22 (Value.int a0_26) (Value.int a0_27) (Value.int a0_28) a0g_29 a0g_30 a0g_31 a0g_32 a0g_33 a0g_34 a0g_35 a0g_36 a0g_37 a0g_38 a0g_39 a0_15 a0_17 a0_18 a0_23 a0_24 a0_25 ka0_15 fa0_15 ka0_23 fa0_23 ka0_24 fa0_24 ka0_17 fa0_17 ka0_18 fa0_18 bfa0_15 bfa0_23 bfa0_24 bfa0_17 bfa0_18) (cwV 0 hts gX8_allIn_X8_begin rfl rfl rfl zd_X8_begin ⟨Nat.le_of_ble_eq_true rfl, Nat.le_of_ble_eq_true rfl⟩) ⟨ax_blind (fun _ _ _ _ _ => trivial), zr_8 hKc (zp_P6 hP) (q0 := 0) rfl, ax_pre (zp_P6 hP) hKc (zp_D6 hD) (fun _ _ => trivial)⟩ rfl rfl hl.1 rfl (lv_room (Nat.le_of_ble_eq_true rfl)) dX8_allIn_55 ⟨Nat.le_of_ble_eq_true rfl, Nat.le_of_ble_eq_true rfl⟩) hS (fun q _ h => zp_F6 hD hS hA q h) (zp_F6 hD hS hA) (fun u t H locs ht hvm hw => zx_4 (fun v55na0_25 v55nfa0_23 v55nfa0_24 v55nfa0_18 => zy_3 (fun bv55nfa0_23 bv55nfa0_24 bv55nfa0_18 hB hz1 hk1 hS1 => zo6 hB ht hP hD hk1 (zp_F6 hD hS hA) hS1 (fun hP hK1 hD hS => ?_))))
      refine lv_iconst (v := 0) hx hb dX8_allIn_58 zk_iconst_0 ?_
      refine lv_istore_n (lv' := [(3, .int 0), (2, .int x52), (0, .ref a0), (1, .int a1)]) hx hb dX8_allIn_59 rfl hl (by decide) rfl (fun ls hl => ?_)
      have J60 : ∀ (n : Nat) (j60l3 : Int32) (j60a0_26 : Int32) (j60a0_27 : Int32) (j60a0_28 : Int32) (j60a0_18_a : Nat → Int32) (H : Heap) (locs : List Loc) (ls : Array Slot), (302 : Int) - j60l3.toInt ≤ (n : Int) → (0 : Int) ≤ j60l3.toInt → j60l3.toInt ≤ (301 : Int) → ((∀ k : Nat, 0 ≤ k → k ≤ 8 → (0 : Int) ≤ (j60a0_18_a k).toInt ∧ (j60a0_18_a k).toInt ≤ 8) ∧ (∀ k : Nat, 19 ≤ k → k ≤ 19 → (0 : Int) ≤ (j60a0_18_a k).toInt ∧ (j60a0_18_a k).toInt ≤ 8) ∧ (∀ k : Nat, 20 ≤ k → k ≤ 20 → (0 : Int) ≤ (j60a0_18_a k).toInt ∧ (j60a0_18_a k).toInt ≤ 19)) → va_P (dC, dI) vwCl [(a0, .inr (8, [Value.int v1na0_0, a0g_1, a0g_2, a0g_3, a0g_4, a0g_5, a0g_6, a0g_7, a0g_8, a0g_9, a0g_10, Value.int v1na0_11, a0g_12, a0g_13, Value.int a0_14, Value.ref a0_15, a0g_16, Value.ref a0_17, Value.ref a0_18, a0g_19, a0g_20, a0g_21, a0g_22, Value.ref a0_23, Value.ref a0_24, Value.int v55na0_25, Value.int j60a0_26, Value.int j60a0_27, Value.int j60a0_28, a0g_29, a0g_30, a0g_31, a0g_32, a0g_33, a0g_34, a0g_35, a0g_36, a0g_37, a0g_38, a0g_39])), (a0_15, .inl (ka0_15, 156, .inl (fa0_15))), (a0_23, .inl (ka0_23, 3, .inl (v55nfa0_23))), (a0_24, .inl (ka0_24, 3, .inl (v55nfa0_24))), (a0_17, .inl (ka0_17, 23, .inl (fa0_17))), (a0_18, .inl (ka0_18, 23, .inl (j60a0_18_a)))] H → va_D A [(a0, .inr (8, [Value.int v1na0_0, a0g_1, a0g_2, a0g_3, a0g_4, a0g_5, a0g_6, a0g_7, a0g_8, a0g_9, a0g_10, Value.int v1na0_11, a0g_12, a0g_13, Value.int a0_14, Value.ref a0_15, a0g_16, Value.ref a0_17, Value.ref a0_18, a0g_19, a0g_20, a0g_21, a0g_22, Value.ref a0_23, Value.ref a0_24, Value.int v55na0_25, Value.int j60a0_26, Value.int j60a0_27, Value.int j60a0_28, a0g_29, a0g_30, a0g_31, a0g_32, a0g_33, a0g_34, a0g_35, a0g_36, a0g_37, a0g_38, a0g_39])), (a0_15, .inl (ka0_15, 156, .inl (fa0_15))), (a0_23, .inl (ka0_23, 3, .inl (v55nfa0_23))), (a0_24, .inl (ka0_24, 3, .inl (v55nfa0_24))), (a0_17, .inl (ka0_17, 23, .inl (fa0_17))), (a0_18, .inl (ka0_18, 23, .inl (j60a0_18_a)))] → va_S A s.heap H locs → lv_has ls 4 [(0, .ref a0), (1, .int a1), (2, .int x52), (3, .int j60l3)] → K H locs (F0 m 60 ls []) := by
        intro n
        induction n with
        | zero =>
          intro j60l3 j60a0_26 j60a0_27 j60a0_28 j60a0_18_a H locs ls hm bj60l3_l bj60l3_u bj60a0_18_a hP hD hS hl
          first | exact zg_0 hm bj60l3_u (by decide) | (have h8 := ai_min j60l3; have h9 := ai_max j60l3; exact absurd hm (by omega))
        | succ n ih60 =>
          intro j60l3 j60a0_26 j60a0_27 j60a0_28 j60a0_18_a H locs ls hm bj60l3_l bj60l3_u bj60a0_18_a hP hD hS hl
          refine (hK0 _ _ _).mpr ?_
          have hm60 := hm
          refine lv_iload_n hx hb dX8_allIn_60 rfl (lv_at hl 3 rfl) ?_
          refine lv_sipush (v := 300) hx hb dX8_allIn_61 zk_sipush_300 ?_
          refine lv_icmp_gt (tgt := 96) hx hb dX8_allIn_64 (by decide) (fun c64 => ?_) (fun c64 => ?_)
          · have gc64 := ai_lt c64
            have l64t_j60l3 : (301 : Int) ≤ j60l3.toInt := ai_ltlo gc64 zq84
            refine lv_bipush (v := (-2)) hx hb dX8_allIn_96 zk_bipush_n2 ?_
            exact W.iret (v := (-2)) hx hb hr (fun t ht hW => ⟨⟨(-2), (), rfl, ⟨zq45, (Int.le_trans zq44 zq57)⟩, v1na0_0, v1na0_11, v55na0_25, j60a0_26, j60a0_27, j60a0_28, v55nfa0_23, v55nfa0_24, j60a0_18_a, bv55nfa0_23, bv55nfa0_24, bj60a0_18_a, by rw [ht]; exact hP, va_K.moved hW.alike hK, hD⟩, hS.F ht⟩) hS.2.2 dX8_allIn_98
          · have gc64 := ai_nlt c64
            have u64f_j60l3 : j60l3.toInt ≤ (300 : Int) := Int.le_trans gc64 zq82
            refine lv_aload_n hx hb dX8_allIn_67 rfl (lv_at hl 0 rfl) ?_
            refine va_get (D := (dC, dI)) (ci := 8) (v := .ref a0_18) (C := RX8) (T := TX8) (N := 40) hx hb hts zi_X8_allIn_8 hown hK hP 0 rfl rfl 18 (by decide) (hts (.fieldLink RX8 29 "WaxTurnsModel" "trial" "[I") (zm_X8_allIn_r1 (List.mem_of_getElem? (i := 1) rfl))) (fun _ h9 => h9) rfl dX8_allIn_68 ?_
            refine lv_bipush (v := 9) hx hb dX8_allIn_71 zk_bipush_9 ?_
            refine lv_iload_n hx hb dX8_allIn_73 rfl (lv_at hl 1 rfl) ?_
            refine lv_iadd hx hb dX8_allIn_74 ?_
            refine lv_topi (fun x74 ex74 => ?_)
            have qx74 : x74.toInt = (9 : Int32).toInt + a1.toInt := ai_add ex74 ⟨zq2, zq3⟩ ⟨l6k0_a1, u6k0_a1⟩ (by decide) (by decide)
            have bx74 : (9 : Int) ≤ x74.toInt ∧ x74.toInt ≤ 17 := ⟨by rw [qx74]; exact Int.add_le_add zq2 l6k0_a1, by rw [qx74]; exact Int.add_le_add zq3 u6k0_a1⟩
            have wx74 : x74.toInt = 9 + a1.toInt := qx74
            refine va_iald hx hb hK hP 5 4 rfl rfl (ai_in bx74.1 bx74.2 (by decide) (by decide)) dX8_allIn_75 ?_
            refine lv_topi (fun x75 ex75 => ?_)
            refine lv_iload_n hx hb dX8_allIn_76 rfl (lv_at hl 2 rfl) ?_
            refine lv_icmp_ne (tgt := 82) hx hb dX8_allIn_77 (by decide) (fun c77 => ?_) (fun c77 => ?_)
            · have gc77 := ai_ne c77
              refine lv_aload_n hx hb dX8_allIn_82 rfl (lv_at hl 0 rfl) ?_
              refine lv_aload_n hx hb dX8_allIn_83 rfl (lv_at hl 0 rfl) ?_
              refine va_get (D := (dC, dI)) (ci := 8) (v := .ref a0_18) (C := RX8) (T := TX8) (N := 40) hx hb hts zi_X8_allIn_8 hown hK hP 0 rfl rfl 18 (by decide) (hts (.fieldLink RX8 29 "WaxTurnsModel" "trial" "[I") (zm_X8_allIn_r1 (List.mem_of_getElem? (i := 1) rfl))) (fun _ h9 => h9) rfl dX8_allIn_84 ?_
              refine zc_cutc (wc := [(a0, .inr (8, [Value.int v1na0_0, a0g_1, a0g_2, a0g_3, a0g_4, a0g_5, a0g_6, a0g_7, a0g_8, a0g_9, a0g_10, Value.int v1na0_11, a0g_12, a0g_13, Value.int a0_14, Value.ref a0_15, a0g_16, Value.ref a0_17, Value.ref a0_18, a0g_19, a0g_20, a0g_21, a0g_22, Value.ref a0_23, Value.ref a0_24, Value.int v55na0_25, Value.int j60a0_26, Value.int j60a0_27, Value.int j60a0_28, a0g_29, a0g_30, a0g_31, a0g_32, a0g_33, a0g_34, a0g_35, a0g_36, a0g_37, a0g_38, a0g_39])), (a0_18, .inl (ka0_18, 23, .inl (j60a0_18_a))), (a0_15, .inl (ka0_15, 156, .inl (fa0_15))), (a0_24, .inl (ka0_24, 3, .inl (v55nfa0_24))), (a0_23, .inl (ka0_23, 3, .inl (v55nfa0_23)))]) hP hD hS hA [0, 5, 1, 3, 2] (by decide +kernel) rfl (fun hPc hDc hFc hCc => ?_)
              have hKc := hK.sub (tys' := [(ka0_18, .int), (ka0_15, .int), (ka0_24, .int), (ka0_23, .int)]) [4, 0, 2, 1] rfl
              refine va_callv (va_runV (As := [.ref a0_18]) (rest := []) ⟨hx, hb, hml, hown, hts⟩ (c_X8_minuteOn l dC dI H.size a0 a0_18 (Value.int v1na0_0) a0g_1 a0g_2 a0g_3 a0g_4 a0g_5 a0g_6 a0g_7 a0g_8 a0g_9 a0g_10 (Value.int v1na0_11) a0g_12 a0g_13 (Value.int a0_14) a0g_16 (Value.ref a0_17) (Value.ref a0_18) a0g_19 a0g_20 a0g_21 a0g_22 a0g_29 a0g_30 a0g_31 a0g_32 a0g_33 a0g_34 a0g_35 a0g_36 a0g_37 a0g_38 a0g_39 a0_15 a0_23 a0_24 v55na0_25 j60a0_26 j60a0_27 j60a0_28 ka0_18 j60a0_18_a ka0_15 fa0_15 ka0_24 v55nfa0_24 ka0_23 v55nfa0_23 bj60a0_18_a bfa0_15 bv55nfa0_24 bv55nfa0_23 hkm) (cwV 1 hts gX8_allIn_X8_minuteOn rfl rfl rfl zd_X8_minuteOn ⟨Nat.le_of_ble_eq_true rfl, Nat.le_of_ble_eq_true rfl⟩) ⟨ax_blind (fun _ _ _ _ _ => trivial), zr_8 hKc hPc (q0 := 0) rfl, ax_pre hPc hKc hDc (fun _ _ => trivial)⟩ rfl rfl hl.1 rfl (lv_room (Nat.le_of_ble_eq_true rfl)) dX8_allIn_87 ⟨Nat.le_of_ble_eq_true rfl, Nat.le_of_ble_eq_true rfl⟩) hS (fun q _ h => hFc q h) hFc (fun u t H locs ht hvm hw => zx_4 (fun v87na0_26 v87na0_27 v87na0_28 v87nfa1 => zy_1 (fun bv87nfa1 hB hz1 hk1 hS1 => zo hB ht hS1 (fun hP1 hK1 hD1 hS => ?_))))
              refine zc_backc (w := [(a0, .inr (8, [Value.int v1na0_0, a0g_1, a0g_2, a0g_3, a0g_4, a0g_5, a0g_6, a0g_7, a0g_8, a0g_9, a0g_10, Value.int v1na0_11, a0g_12, a0g_13, Value.int a0_14, Value.ref a0_15, a0g_16, Value.ref a0_17, Value.ref a0_18, a0g_19, a0g_20, a0g_21, a0g_22, Value.ref a0_23, Value.ref a0_24, Value.int v55na0_25, Value.int v87na0_26, Value.int v87na0_27, Value.int v87na0_28, a0g_29, a0g_30, a0g_31, a0g_32, a0g_33, a0g_34, a0g_35, a0g_36, a0g_37, a0g_38, a0g_39])), (a0_15, .inl (ka0_15, 156, .inl (fa0_15))), (a0_23, .inl (ka0_23, 3, .inl (v55nfa0_23))), (a0_24, .inl (ka0_24, 3, .inl (v55nfa0_24))), (a0_17, .inl (ka0_17, 23, .inl (fa0_17))), (a0_18, .inl (ka0_18, 23, .inl (v87nfa1)))]) hP hD hCc hk1 hFc hP1 hD1 [.inr 0, .inr 2, .inr 4, .inr 3, .inl 4, .inr 1] (by decide +kernel) rfl (fun hP hD => ?_)
              obtain ⟨x90, ex90⟩ : ∃ y : Int32, y = j60l3 + Int32.ofInt 1 := ⟨_, rfl⟩
              have qx90 : x90.toInt = j60l3.toInt + 1 := ai_inc ex90 (by decide) (by decide) u64f_j60l3 (by decide)
              have bx90 : (1 : Int) ≤ x90.toInt ∧ x90.toInt ≤ 301 := ⟨by rw [qx90]; exact Int.add_le_add bj60l3_l (Int.le_refl _), by rw [qx90]; exact Int.add_le_add u64f_j60l3 (Int.le_refl _)⟩
              refine lv_iinc (v := x90) (lv' := [(3, .int x90), (0, .ref a0), (1, .int a1), (2, .int x52)]) hx hb dX8_allIn_90 hl (k := 3) rfl ex90.symm (by decide) rfl (fun ls hl => ?_)
              refine lv_goto (tgt := 60) hx hb dX8_allIn_93 (by decide) ?_
              exact (hK0 _ _ _).mp (ih60 x90 v87na0_26 v87na0_27 v87na0_28 v87nfa1 _ _ _ (by first | exact zg_s hm60 qx90 | (have h0 := qx90; omega)) (Int.le_trans zq4 bx90.1) bx90.2 bv87nfa1 hP hD hS (lv_sub hl [1, 2, 3, 0] rfl))
            · have gc77 := ai_eq c77
              refine lv_iload_n hx hb dX8_allIn_80 rfl (lv_at hl 3 rfl) ?_
              exact W.iret (v := j60l3) hx hb hr (fun t ht hW => ⟨⟨j60l3, (), rfl, ⟨(Int.le_trans zq75 bj60l3_l), u64f_j60l3⟩, v1na0_0, v1na0_11, v55na0_25, j60a0_26, j60a0_27, j60a0_28, v55nfa0_23, v55nfa0_24, j60a0_18_a, bv55nfa0_23, bv55nfa0_24, bj60a0_18_a, by rw [ht]; exact hP, va_K.moved hW.alike hK, hD⟩, hS.F ht⟩) hS.2.2 dX8_allIn_81
      exact (hK0 _ _ _).mp (J60 302 0 a0_26 a0_27 a0_28 v55nfa0_18 _ _ _ (by first | decide +kernel | (have h1 : (0 : Int) ≤ (0 : Int32).toInt := zq5; have h2 : (0 : Int32).toInt ≤ (0 : Int) := zq6; omega)) zq5 (Int.le_trans zq6 zq172) bv55nfa0_18 hP hD hS (lv_sub hl [2, 3, 1, 0] rfl))
    · have gc30 := ai_ne c30
      refine lv_bipush (v := (-2)) hx hb dX8_allIn_33 zk_bipush_n2 ?_
      exact W.iret (v := (-2)) hx hb hr (fun t ht hW => ⟨⟨(-2), (), rfl, ⟨zq45, (Int.le_trans zq44 zq57)⟩, v1na0_0, v1na0_11, a0_25, a0_26, a0_27, a0_28, fa0_23, fa0_24, fa0_18, bfa0_23, bfa0_24, bfa0_18, by rw [ht]; exact hP, va_K.moved hW.alike hK, hD⟩, hS.F ht⟩) hS.2.2 dX8_allIn_35
  · subst hw
    refine lv_if_ne (tgt := 18) hx hb dX8_allIn_9 (by decide) (fun c9 => absurd (by decide +kernel) c9) (fun _ => ?_)
    refine lv_aload_n hx hb dX8_allIn_12 rfl (lv_at hl 0 rfl) ?_
    refine lv_iconst (v := 1) hx hb dX8_allIn_13 zk_iconst_1 ?_
    refine va_calli (va_runV (As := [.int 1]) (rest := []) ⟨hx, hb, hml, hown, hts⟩ (c_X8_no l dC dI H.size a0 1 (Value.int v1na0_0) a0g_1 a0g_2 a0g_3 a0g_4 a0g_5 a0g_6 a0g_7 a0g_8 a0g_9 a0g_10 a0g_12 a0g_13 (Value.int a0_14) (Value.ref a0_15) a0g_16 (Value.ref a0_17) (Value.ref a0_18) a0g_19 a0g_20 a0g_21 a0g_22 (Value.ref a0_23) (Value.ref a0_24) (Value.int a0_25) (Value.int a0_26) (Value.int a0_27) (Value.int a0_28) a0g_29 a0g_30 a0g_31 a0g_32 a0g_33 a0g_34 a0g_35 a0g_36 a0g_37 a0g_38 a0g_39 v1na0_11 ) (cwV 1 hts gX8_allIn_X8_no rfl rfl rfl zd_X8_no ⟨Nat.le_of_ble_eq_true rfl, Nat.le_of_ble_eq_true rfl⟩) ⟨ax_blind (fun _ _ _ _ _ => trivial), zr_8 (zp_K hK) (zp_P1 hP) (q0 := 0) rfl, ax_pre (zp_P1 hP) (zp_K hK) (zp_D1 hD) (fun _ _ => trivial)⟩ rfl rfl hl.1 rfl (lv_room (Nat.le_of_ble_eq_true rfl)) dX8_allIn_14 ⟨Nat.le_of_ble_eq_true rfl, Nat.le_of_ble_eq_true rfl⟩) hS (fun q _ h => zp_F1 hD hS hA q h) (zp_F1 hD hS hA) (fun r14 u t H locs ht hvm hw => zx_1 (fun v14na0_11 hB hz1 hk1 hS1 => zo1 hB ht hP hD hk1 (zp_F1 hD hS hA) hS1 (fun hP hK1 hD hS => ?_)))
    have hw : r14 = (-1) := hw
    have hw := hw.symm
    subst hw
    exact W.iret (v := (-1)) hx hb hr (fun t ht hW => ⟨⟨(-1), (), rfl, ⟨(Int.le_trans zq76 zq70), (Int.le_trans zq71 zq85)⟩, v1na0_0, v14na0_11, a0_25, a0_26, a0_27, a0_28, fa0_23, fa0_24, fa0_18, bfa0_23, bfa0_24, bfa0_18, by rw [ht]; exact hP, va_K.moved hW.alike hK, hD⟩, hS.F ht⟩) hS.2.2 dX8_allIn_17

set_option maxHeartbeats 4000000 in
set_option maxRecDepth 100000 in
theorem c_X8_meets (l : Launch) (dC : Nat → ClassId) (dI : Nat → Nat → Nat) (sz : Nat) (a0 : Nat) (a1 : Int32) (a0_0 : Int32) (a0g_1 a0g_2 a0g_3 a0g_4 a0g_5 a0g_6 a0g_7 a0g_8 a0g_9 a0g_10 a0g_12 a0g_13 a0g_16 a0g_19 a0g_20 a0g_21 a0g_22 a0g_29 a0g_30 a0g_31 a0g_32 a0g_33 a0g_34 a0g_35 a0g_36 a0g_37 a0g_38 a0g_39 : Value) (a0_11 : Int32) (a0_14 : Int32) (a0_15 : Nat) (a0_17 : Nat) (a0_18 : Nat) (a0_23 : Nat) (a0_24 : Nat) (a0_25 : Int32) (a0_26 : Int32) (a0_27 : Int32) (a0_28 : Int32) (ka0_15 : ClassId) (fa0_15 : Nat → Int32) (ka0_23 : ClassId) (fa0_23 : Nat → Int32) (ka0_24 : ClassId) (fa0_24 : Nat → Int32) (ka0_17 : ClassId) (fa0_17 : Nat → Int32) (ka0_18 : ClassId) (fa0_18 : Nat → Int32) (ba0_14_l : (1 : Int) ≤ a0_14.toInt) (ba0_14_u : a0_14.toInt ≤ (1 : Int)) (bfa0_15 : ((∀ k : Nat, 0 ≤ k → k ≤ 0 → (2 : Int) ≤ (fa0_15 k).toInt ∧ (fa0_15 k).toInt ≤ 9) ∧ (∀ k : Nat, 1 ≤ k → k ≤ 1 → (1 : Int) ≤ (fa0_15 k).toInt ∧ (fa0_15 k).toInt ≤ 20) ∧ (∀ k : Nat, 2 ≤ k → k ≤ 2 → (0 : Int) ≤ (fa0_15 k).toInt ∧ (fa0_15 k).toInt ≤ 8) ∧ (∀ k : Nat, 3 ≤ k → k ≤ 3 → (0 : Int) ≤ (fa0_15 k).toInt ∧ (fa0_15 k).toInt ≤ 100) ∧ (∀ k : Nat, 4 ≤ k → k ≤ 4 → (0 : Int) ≤ (fa0_15 k).toInt ∧ (fa0_15 k).toInt ≤ 9) ∧ (∀ k : Nat, 5 ≤ k → k ≤ 5 → (0 : Int) ≤ (fa0_15 k).toInt ∧ (fa0_15 k).toInt ≤ 3) ∧ (∀ k : Nat, 6 ≤ k → k ≤ 6 → (0 : Int) ≤ (fa0_15 k).toInt ∧ (fa0_15 k).toInt ≤ 6) ∧ (∀ k : Nat, 7 ≤ k → k ≤ 9 → (0 : Int) ≤ (fa0_15 k).toInt ∧ (fa0_15 k).toInt ≤ 8) ∧ (∀ k : Nat, 12 ≤ k → k ≤ 29 → (0 : Int) ≤ (fa0_15 k).toInt ∧ (fa0_15 k).toInt ≤ 20) ∧ (∀ k : Nat, 30 ≤ k → k ≤ 35 → (0 : Int) ≤ (fa0_15 k).toInt ∧ (fa0_15 k).toInt ≤ 8) ∧ (∀ k : Nat, 36 ≤ k → k ≤ 47 → (0 : Int) ≤ (fa0_15 k).toInt ∧ (fa0_15 k).toInt ≤ 999))) (bfa0_23 : (∀ k, (0 : Int) ≤ (fa0_23 k).toInt ∧ (fa0_23 k).toInt ≤ 80)) (bfa0_24 : (∀ k, (0 : Int) ≤ (fa0_24 k).toInt ∧ (fa0_24 k).toInt ≤ 80)) (bfa0_17 : ((∀ k : Nat, 0 ≤ k → k ≤ 8 → (0 : Int) ≤ (fa0_17 k).toInt ∧ (fa0_17 k).toInt ≤ 8) ∧ (∀ k : Nat, 19 ≤ k → k ≤ 19 → (0 : Int) ≤ (fa0_17 k).toInt ∧ (fa0_17 k).toInt ≤ 8) ∧ (∀ k : Nat, 20 ≤ k → k ≤ 20 → (0 : Int) ≤ (fa0_17 k).toInt ∧ (fa0_17 k).toInt ≤ 19))) (bfa0_18 : ((∀ k : Nat, 0 ≤ k → k ≤ 8 → (0 : Int) ≤ (fa0_18 k).toInt ∧ (fa0_18 k).toInt ≤ 8) ∧ (∀ k : Nat, 19 ≤ k → k ≤ 19 → (0 : Int) ≤ (fa0_18 k).toInt ∧ (fa0_18 k).toInt ≤ 8) ∧ (∀ k : Nat, 20 ≤ k → k ≤ 20 → (0 : Int) ≤ (fa0_18 k).toInt ∧ (fa0_18 k).toInt ≤ 19))) (hkm : ∀ (j i0 i : Int32), (0 : Int) ≤ j.toInt → j.toInt ≤ 8 → i0.toInt = 12 + 2 * j.toInt → i.toInt = 13 + 2 * j.toInt → (fa0_15 i0.toNatClampNeg).toInt = (1 : Int32).toInt → (1 : Int) ≤ (fa0_15 i.toNatClampNeg).toInt) : zm l yX8_meets wsX8_meets ({ frames := 4, cells := 0, slots := 0, locals := 95 }) [.ref a0, .int a1] dC dI sz [(a0, .inr (8, [Value.int a0_0, a0g_1, a0g_2, a0g_3, a0g_4, a0g_5, a0g_6, a0g_7, a0g_8, a0g_9, a0g_10, Value.int a0_11, a0g_12, a0g_13, Value.int a0_14, Value.ref a0_15, a0g_16, Value.ref a0_17, Value.ref a0_18, a0g_19, a0g_20, a0g_21, a0g_22, Value.ref a0_23, Value.ref a0_24, Value.int a0_25, Value.int a0_26, Value.int a0_27, Value.int a0_28, a0g_29, a0g_30, a0g_31, a0g_32, a0g_33, a0g_34, a0g_35, a0g_36, a0g_37, a0g_38, a0g_39])), (a0_15, .inl (ka0_15, 156, .inl (fa0_15))), (a0_23, .inl (ka0_23, 3, .inl (fa0_23))), (a0_24, .inl (ka0_24, 3, .inl (fa0_24))), (a0_17, .inl (ka0_17, 23, .inl (fa0_17))), (a0_18, .inl (ka0_18, 23, .inl (fa0_18)))] [(ka0_15, .int), (ka0_23, .int), (ka0_24, .int), (ka0_17, .int), (ka0_18, .int)] (fun A _ => True) (fun A => va_Qi (fun (r : Int32) (_ : Unit) => (-2 : Int) ≤ r.toInt ∧ r.toInt ≤ (300 : Int)) (fun (_ : Unit) (t : State) => ∃ na0_0 : Int32, ∃ na0_11 : Int32, ∃ na0_25 : Int32, ∃ na0_26 : Int32, ∃ na0_27 : Int32, ∃ na0_28 : Int32, ∃ nfa0_23 : Nat → Int32, ∃ nfa0_24 : Nat → Int32, ∃ nfa0_18 : Nat → Int32, (∀ k, (0 : Int) ≤ (nfa0_23 k).toInt ∧ (nfa0_23 k).toInt ≤ 80) ∧ (∀ k, (0 : Int) ≤ (nfa0_24 k).toInt ∧ (nfa0_24 k).toInt ≤ 80) ∧ ((∀ k : Nat, 0 ≤ k → k ≤ 8 → (0 : Int) ≤ (nfa0_18 k).toInt ∧ (nfa0_18 k).toInt ≤ 8) ∧ (∀ k : Nat, 19 ≤ k → k ≤ 19 → (0 : Int) ≤ (nfa0_18 k).toInt ∧ (nfa0_18 k).toInt ≤ 8) ∧ (∀ k : Nat, 20 ≤ k → k ≤ 20 → (0 : Int) ≤ (nfa0_18 k).toInt ∧ (nfa0_18 k).toInt ≤ 19)) ∧ ax_B dC dI A [(a0, .inr (8, [Value.int na0_0, a0g_1, a0g_2, a0g_3, a0g_4, a0g_5, a0g_6, a0g_7, a0g_8, a0g_9, a0g_10, Value.int na0_11, a0g_12, a0g_13, Value.int a0_14, Value.ref a0_15, a0g_16, Value.ref a0_17, Value.ref a0_18, a0g_19, a0g_20, a0g_21, a0g_22, Value.ref a0_23, Value.ref a0_24, Value.int na0_25, Value.int na0_26, Value.int na0_27, Value.int na0_28, a0g_29, a0g_30, a0g_31, a0g_32, a0g_33, a0g_34, a0g_35, a0g_36, a0g_37, a0g_38, a0g_39])), (a0_15, .inl (ka0_15, 156, .inl (fa0_15))), (a0_23, .inl (ka0_23, 3, .inl (nfa0_23))), (a0_24, .inl (ka0_24, 3, .inl (nfa0_24))), (a0_17, .inl (ka0_17, 23, .inl (fa0_17))), (a0_18, .inl (ka0_18, 23, .inl (nfa0_18)))] [(ka0_15, .int), (ka0_23, .int), (ka0_24, .int), (ka0_17, .int), (ka0_18, .int)] t) A) := by
  refine zh (cc := cX8_meets) (maxL := 4) (ret := (some .int)) zn_RX8 rfl (Nat.le_of_ble_eq_true rfl) (fun p e s m below meth c A ls hx hb hml hr hts (hown : s.vm.findClass RX8 = some m.cls) hlocks hA hS hP hK hD hE (hl : lv_has ls 4 [(0, .ref a0), (1, .int a1)]) => ?_)
  refine ai_open (fun K hK0 => ?_)
  refine (hK0 _ _ _).mpr ?_
  refine lv_aload_n hx hb dX8_meets_0 rfl (lv_at hl 0 rfl) ?_
  refine va_callv (va_runV (As := []) (rest := []) ⟨hx, hb, hml, hown, hts⟩ (c_X8_good l dC dI s.heap.size a0 a0_0 a0g_1 a0g_2 a0g_3 a0g_4 a0g_5 a0g_6 a0g_7 a0g_8 a0g_9 a0g_10 a0g_12 a0g_13 (Value.int a0_14) (Value.ref a0_15) a0g_16 (Value.ref a0_17) (Value.ref a0_18) a0g_19 a0g_20 a0g_21 a0g_22 (Value.ref a0_23) (Value.ref a0_24) (Value.int a0_25) (Value.int a0_26) (Value.int a0_27) (Value.int a0_28) a0g_29 a0g_30 a0g_31 a0g_32 a0g_33 a0g_34 a0g_35 a0g_36 a0g_37 a0g_38 a0g_39 a0_11 ) (cwV 0 hts gX8_meets_X8_good rfl rfl rfl zd_X8_good ⟨Nat.le_of_ble_eq_true rfl, Nat.le_of_ble_eq_true rfl⟩) ⟨ax_blind (fun _ _ _ _ _ => trivial), zr_8 (zp_K hK) (zp_P1 hP) (q0 := 0) rfl, ax_pre (zp_P1 hP) (zp_K hK) (zp_D1 hD) (fun _ _ => trivial)⟩ rfl rfl hl.1 rfl (lv_room (Nat.le_of_ble_eq_true rfl)) dX8_meets_1 ⟨Nat.le_of_ble_eq_true rfl, Nat.le_of_ble_eq_true rfl⟩) hS (fun q _ h => zp_F1 hD hS hA q h) (zp_F1 hD hS hA) (fun u t H locs ht hvm hw => zx_2 (fun v1na0_0 v1na0_11 hB hz1 hk1 hS1 => zo1 hB ht hP hD hk1 (zp_F1 hD hS hA) hS1 (fun hP hK1 hD hS => ?_)))
  refine lv_aload_n hx hb dX8_meets_4 rfl (lv_at hl 0 rfl) ?_
  refine lv_iload_n hx hb dX8_meets_5 rfl (lv_at hl 1 rfl) ?_
  have hKc := hK.sub (tys' := [(ka0_15, .int)]) [0] rfl
  refine va_calli (va_runV (As := [.int a1]) (rest := []) ⟨hx, hb, hml, hown, hts⟩ (c_X8_isWatcher l dC dI H.size a0 a1 (Value.int v1na0_0) a0g_1 a0g_2 a0g_3 a0g_4 a0g_5 a0g_6 a0g_7 a0g_8 a0g_9 a0g_10 (Value.int v1na0_11) a0g_12 a0g_13 a0g_16 (Value.ref a0_17) (Value.ref a0_18) a0g_19 a0g_20 a0g_21 a0g_22 (Value.ref a0_23) (Value.ref a0_24) (Value.int a0_25) (Value.int a0_26) (Value.int a0_27) (Value.int a0_28) a0g_29 a0g_30 a0g_31 a0g_32 a0g_33 a0g_34 a0g_35 a0g_36 a0g_37 a0g_38 a0g_39 a0_14 a0_15 ka0_15 fa0_15 ba0_14_l ba0_14_u bfa0_15) (cwV 1 hts gX8_meets_X8_isWatcher rfl rfl rfl zd_X8_isWatcher ⟨Nat.le_of_ble_eq_true rfl, Nat.le_of_ble_eq_true rfl⟩) ⟨ax_blind (fun _ _ _ _ _ => trivial), zr_8 hKc (zp_P2 hP) (q0 := 0) rfl, ax_pre (zp_P2 hP) hKc (zp_D2 hD) (fun _ _ => trivial)⟩ rfl rfl hl.1 rfl (lv_room (Nat.le_of_ble_eq_true rfl)) dX8_meets_6 ⟨Nat.le_of_ble_eq_true rfl, Nat.le_of_ble_eq_true rfl⟩) hS (fun q _ h => zp_F2 hD hS hA q h) (zp_F2 hD hS hA) (fun r6 u t H locs ht hvm hw hB hz1 hk1 hS1 => zo2 hB ht hP hD hk1 (zp_F2 hD hS hA) hS1 (fun hP hK1 hD hS => ?_))
  rcases hw with hw | hw
  · obtain ⟨hw, h6_0, h6_1⟩ := hw
    subst hw
    have l6k0_a1 : (0 : Int) ≤ a1.toInt := h6_0
    have u6k0_a1 : a1.toInt ≤ (2 : Int) := h6_1
    refine lv_if_ne (tgt := 18) hx hb dX8_meets_9 (by decide) (fun _ => ?_) (fun c9 => absurd c9 (by decide +kernel))
    refine lv_aload_n hx hb dX8_meets_18 rfl (lv_at hl 0 rfl) ?_
    have hKc := hK.sub (tys' := [(ka0_15, .int), (ka0_23, .int), (ka0_24, .int), (ka0_17, .int), (ka0_18, .int)]) [0, 1, 2, 3, 4] rfl
    refine va_callv (va_runV (As := []) (rest := []) ⟨hx, hb, hml, hown, hts⟩ (c_X8_begin l dC dI H.size a0 (Value.int v1na0_0) a0g_1 a0g_2 a0g_3 a0g_4 a0g_5 a0g_6 a0g_7 a0g_8 a0g_9 a0g_10 (Value.int v1na0_11) a0g_12 a0g_13 (Value.int a0_14) a0g_16 a0g_19 a0g_20 a0g_21 a0g_22 (Value.int a0_26) (Value.int a0_27) (Value.int a0_28) a0g_29 a0g_30 a0g_31 a0g_32 a0g_33 a0g_34 a0g_35 a0g_36 a0g_37 a0g_38 a0g_39 a0_15 a0_17 a0_18 a0_23 a0_24 a0_25 ka0_15 fa0_15 ka0_23 fa0_23 ka0_24 fa0_24 ka0_17 fa0_17 ka0_18 fa0_18 bfa0_15 bfa0_23 bfa0_24 bfa0_17 bfa0_18) (cwV 0 hts gX8_meets_X8_begin rfl rfl rfl zd_X8_begin ⟨Nat.le_of_ble_eq_true rfl, Nat.le_of_ble_eq_true rfl⟩) ⟨ax_blind (fun _ _ _ _ _ => trivial), zr_8 hKc (zp_P6 hP) (q0 := 0) rfl, ax_pre (zp_P6 hP) hKc (zp_D6 hD) (fun _ _ => trivial)⟩ rfl rfl hl.1 rfl (lv_room (Nat.le_of_ble_eq_true rfl)) dX8_meets_19 ⟨Nat.le_of_ble_eq_true rfl, Nat.le_of_ble_eq_true rfl⟩) hS (fun q _ h => zp_F6 hD hS hA q h) (zp_F6 hD hS hA) (fun u t H locs ht hvm hw => zx_4 (fun v19na0_25 v19nfa0_23 v19nfa0_24 v19nfa0_18 => zy_3 (fun bv19nfa0_23 bv19nfa0_24 bv19nfa0_18 hB hz1 hk1 hS1 => zo6 hB ht hP hD hk1 (zp_F6 hD hS hA) hS1 (fun hP hK1 hD hS => ?_))))
    refine lv_iconst (v := 1) hx hb dX8_meets_22 zk_iconst_1 ?_
    refine lv_istore_n (lv' := [(2, .int 1), (0, .ref a0), (1, .int a1)]) hx hb dX8_meets_23 rfl hl (by decide) rfl (fun ls hl => ?_)
    have J24 : ∀ (n : Nat) (j24l2 : Int32) (j24a0_26 : Int32) (j24a0_27 : Int32) (j24a0_28 : Int32) (j24a0_18_a : Nat → Int32) (H : Heap) (locs : List Loc) (ls : Array Slot), (302 : Int) - j24l2.toInt ≤ (n : Int) → (1 : Int) ≤ j24l2.toInt → j24l2.toInt ≤ (301 : Int) → ((∀ k : Nat, 0 ≤ k → k ≤ 8 → (0 : Int) ≤ (j24a0_18_a k).toInt ∧ (j24a0_18_a k).toInt ≤ 8) ∧ (∀ k : Nat, 19 ≤ k → k ≤ 19 → (0 : Int) ≤ (j24a0_18_a k).toInt ∧ (j24a0_18_a k).toInt ≤ 8) ∧ (∀ k : Nat, 20 ≤ k → k ≤ 20 → (0 : Int) ≤ (j24a0_18_a k).toInt ∧ (j24a0_18_a k).toInt ≤ 19)) → va_P (dC, dI) vwCl [(a0, .inr (8, [Value.int v1na0_0, a0g_1, a0g_2, a0g_3, a0g_4, a0g_5, a0g_6, a0g_7, a0g_8, a0g_9, a0g_10, Value.int v1na0_11, a0g_12, a0g_13, Value.int a0_14, Value.ref a0_15, a0g_16, Value.ref a0_17, Value.ref a0_18, a0g_19, a0g_20, a0g_21, a0g_22, Value.ref a0_23, Value.ref a0_24, Value.int v19na0_25, Value.int j24a0_26, Value.int j24a0_27, Value.int j24a0_28, a0g_29, a0g_30, a0g_31, a0g_32, a0g_33, a0g_34, a0g_35, a0g_36, a0g_37, a0g_38, a0g_39])), (a0_15, .inl (ka0_15, 156, .inl (fa0_15))), (a0_23, .inl (ka0_23, 3, .inl (v19nfa0_23))), (a0_24, .inl (ka0_24, 3, .inl (v19nfa0_24))), (a0_17, .inl (ka0_17, 23, .inl (fa0_17))), (a0_18, .inl (ka0_18, 23, .inl (j24a0_18_a)))] H → va_D A [(a0, .inr (8, [Value.int v1na0_0, a0g_1, a0g_2, a0g_3, a0g_4, a0g_5, a0g_6, a0g_7, a0g_8, a0g_9, a0g_10, Value.int v1na0_11, a0g_12, a0g_13, Value.int a0_14, Value.ref a0_15, a0g_16, Value.ref a0_17, Value.ref a0_18, a0g_19, a0g_20, a0g_21, a0g_22, Value.ref a0_23, Value.ref a0_24, Value.int v19na0_25, Value.int j24a0_26, Value.int j24a0_27, Value.int j24a0_28, a0g_29, a0g_30, a0g_31, a0g_32, a0g_33, a0g_34, a0g_35, a0g_36, a0g_37, a0g_38, a0g_39])), (a0_15, .inl (ka0_15, 156, .inl (fa0_15))), (a0_23, .inl (ka0_23, 3, .inl (v19nfa0_23))), (a0_24, .inl (ka0_24, 3, .inl (v19nfa0_24))), (a0_17, .inl (ka0_17, 23, .inl (fa0_17))), (a0_18, .inl (ka0_18, 23, .inl (j24a0_18_a)))] → va_S A s.heap H locs → lv_has ls 4 [(0, .ref a0), (1, .int a1), (2, .int j24l2)] → K H locs (F0 m 24 ls []) := by
      intro n
      induction n with
      | zero =>
        intro j24l2 j24a0_26 j24a0_27 j24a0_28 j24a0_18_a H locs ls hm bj24l2_l bj24l2_u bj24a0_18_a hP hD hS hl
        first | exact zg_0 hm bj24l2_u (by decide) | (have h8 := ai_min j24l2; have h9 := ai_max j24l2; exact absurd hm (by omega))
      | succ n ih24 =>
        intro j24l2 j24a0_26 j24a0_27 j24a0_28 j24a0_18_a H locs ls hm bj24l2_l bj24l2_u bj24a0_18_a hP hD hS hl
        refine (hK0 _ _ _).mpr ?_
        have hm24 := hm
        refine lv_iload_n hx hb dX8_meets_24 rfl (lv_at hl 2 rfl) ?_
        refine lv_sipush (v := 300) hx hb dX8_meets_25 zk_sipush_300 ?_
        refine lv_icmp_gt (tgt := 68) hx hb dX8_meets_28 (by decide) (fun c28 => ?_) (fun c28 => ?_)
        · have gc28 := ai_lt c28
          have l28t_j24l2 : (301 : Int) ≤ j24l2.toInt := ai_ltlo gc28 zq84
          refine lv_bipush (v := (-2)) hx hb dX8_meets_68 zk_bipush_n2 ?_
          exact W.iret (v := (-2)) hx hb hr (fun t ht hW => ⟨⟨(-2), (), rfl, ⟨zq45, (Int.le_trans zq44 zq57)⟩, v1na0_0, v1na0_11, v19na0_25, j24a0_26, j24a0_27, j24a0_28, v19nfa0_23, v19nfa0_24, j24a0_18_a, bv19nfa0_23, bv19nfa0_24, bj24a0_18_a, by rw [ht]; exact hP, va_K.moved hW.alike hK, hD⟩, hS.F ht⟩) hS.2.2 dX8_meets_70
        · have gc28 := ai_nlt c28
          have u28f_j24l2 : j24l2.toInt ≤ (300 : Int) := Int.le_trans gc28 zq82
          refine lv_aload_n hx hb dX8_meets_31 rfl (lv_at hl 0 rfl) ?_
          refine lv_iload_n hx hb dX8_meets_32 rfl (lv_at hl 1 rfl) ?_
          refine lv_aload_n hx hb dX8_meets_33 rfl (lv_at hl 0 rfl) ?_
          refine va_get (D := (dC, dI)) (ci := 8) (v := .ref a0_18) (C := RX8) (T := TX8) (N := 40) hx hb hts zi_X8_meets_8 hown hK hP 0 rfl rfl 18 (by decide) (hts (.fieldLink RX8 29 "WaxTurnsModel" "trial" "[I") (zm_X8_meets_r1 (List.mem_of_getElem? (i := 0) rfl))) (fun _ h9 => h9) rfl dX8_meets_34 ?_
          refine lv_bipush (v := 21) hx hb dX8_meets_37 zk_bipush_21 ?_
          refine va_iald hx hb hK hP 5 4 rfl rfl (by unfold vp_in; decide +kernel) dX8_meets_39 ?_
          refine lv_topi (fun x39 ex39 => ?_)
          refine zc_cutc (wc := [(a0, .inr (8, [Value.int v1na0_0, a0g_1, a0g_2, a0g_3, a0g_4, a0g_5, a0g_6, a0g_7, a0g_8, a0g_9, a0g_10, Value.int v1na0_11, a0g_12, a0g_13, Value.int a0_14, Value.ref a0_15, a0g_16, Value.ref a0_17, Value.ref a0_18, a0g_19, a0g_20, a0g_21, a0g_22, Value.ref a0_23, Value.ref a0_24, Value.int v19na0_25, Value.int j24a0_26, Value.int j24a0_27, Value.int j24a0_28, a0g_29, a0g_30, a0g_31, a0g_32, a0g_33, a0g_34, a0g_35, a0g_36, a0g_37, a0g_38, a0g_39])), (a0_24, .inl (ka0_24, 3, .inl (v19nfa0_24))), (a0_23, .inl (ka0_23, 3, .inl (v19nfa0_23)))]) hP hD hS hA [0, 3, 2] (by decide +kernel) rfl (fun hPc hDc hFc hCc => ?_)
          have hKc := hK.sub (tys' := [(ka0_24, .int), (ka0_23, .int)]) [2, 1] rfl
          refine va_calli (va_runV (As := [.int a1, .int x39]) (rest := []) ⟨hx, hb, hml, hown, hts⟩ (c_X8_watcherAt l dC dI H.size a0 a1 x39 (Value.int v1na0_0) a0g_1 a0g_2 a0g_3 a0g_4 a0g_5 a0g_6 a0g_7 a0g_8 a0g_9 a0g_10 (Value.int v1na0_11) a0g_12 a0g_13 (Value.int a0_14) (Value.ref a0_15) a0g_16 (Value.ref a0_17) (Value.ref a0_18) a0g_19 a0g_20 a0g_21 a0g_22 (Value.int v19na0_25) (Value.int j24a0_26) (Value.int j24a0_27) (Value.int j24a0_28) a0g_29 a0g_30 a0g_31 a0g_32 a0g_33 a0g_34 a0g_35 a0g_36 a0g_37 a0g_38 a0g_39 a0_23 a0_24 ka0_24 v19nfa0_24 ka0_23 v19nfa0_23 l6k0_a1 u6k0_a1 bv19nfa0_24 bv19nfa0_23) (cwV 2 hts gX8_meets_X8_watcherAt rfl rfl rfl zd_X8_watcherAt ⟨Nat.le_of_ble_eq_true rfl, Nat.le_of_ble_eq_true rfl⟩) ⟨ax_blind (fun _ _ _ _ _ => trivial), zr_8 hKc hPc (q0 := 0) rfl, ax_pre hPc hKc hDc (fun _ _ => trivial)⟩ rfl rfl hl.1 rfl (lv_room (Nat.le_of_ble_eq_true rfl)) dX8_meets_40 ⟨Nat.le_of_ble_eq_true rfl, Nat.le_of_ble_eq_true rfl⟩) hS (fun q _ h => hFc q h) hFc (fun r40 u t H locs ht hvm hw hB hz1 hk1 hS1 => zo hB ht hS1 (fun hP1 hK1 hD1 hS => ?_))
          refine zc_backc (w := [(a0, .inr (8, [Value.int v1na0_0, a0g_1, a0g_2, a0g_3, a0g_4, a0g_5, a0g_6, a0g_7, a0g_8, a0g_9, a0g_10, Value.int v1na0_11, a0g_12, a0g_13, Value.int a0_14, Value.ref a0_15, a0g_16, Value.ref a0_17, Value.ref a0_18, a0g_19, a0g_20, a0g_21, a0g_22, Value.ref a0_23, Value.ref a0_24, Value.int v19na0_25, Value.int j24a0_26, Value.int j24a0_27, Value.int j24a0_28, a0g_29, a0g_30, a0g_31, a0g_32, a0g_33, a0g_34, a0g_35, a0g_36, a0g_37, a0g_38, a0g_39])), (a0_15, .inl (ka0_15, 156, .inl (fa0_15))), (a0_23, .inl (ka0_23, 3, .inl (v19nfa0_23))), (a0_24, .inl (ka0_24, 3, .inl (v19nfa0_24))), (a0_17, .inl (ka0_17, 23, .inl (fa0_17))), (a0_18, .inl (ka0_18, 23, .inl (j24a0_18_a)))]) hP hD hCc hk1 hFc hP1 hD1 [.inr 0, .inl 1, .inr 2, .inr 1, .inl 4, .inl 5] (by decide +kernel) rfl (fun hP hD => ?_)
          refine lv_istore_n (lv' := [(3, .int r40), (0, .ref a0), (1, .int a1), (2, .int j24l2)]) hx hb dX8_meets_43 rfl hl (by decide) rfl (fun ls hl => ?_)
          refine lv_aload_n hx hb dX8_meets_44 rfl (lv_at hl 1 rfl) ?_
          refine lv_aload_n hx hb dX8_meets_45 rfl (lv_at hl 1 rfl) ?_
          refine va_get (D := (dC, dI)) (ci := 8) (v := .ref a0_18) (C := RX8) (T := TX8) (N := 40) hx hb hts zi_X8_meets_8 hown hK hP 0 rfl rfl 18 (by decide) (hts (.fieldLink RX8 29 "WaxTurnsModel" "trial" "[I") (zm_X8_meets_r1 (List.mem_of_getElem? (i := 0) rfl))) (fun _ h9 => h9) rfl dX8_meets_46 ?_
          refine zc_cutc (wc := [(a0, .inr (8, [Value.int v1na0_0, a0g_1, a0g_2, a0g_3, a0g_4, a0g_5, a0g_6, a0g_7, a0g_8, a0g_9, a0g_10, Value.int v1na0_11, a0g_12, a0g_13, Value.int a0_14, Value.ref a0_15, a0g_16, Value.ref a0_17, Value.ref a0_18, a0g_19, a0g_20, a0g_21, a0g_22, Value.ref a0_23, Value.ref a0_24, Value.int v19na0_25, Value.int j24a0_26, Value.int j24a0_27, Value.int j24a0_28, a0g_29, a0g_30, a0g_31, a0g_32, a0g_33, a0g_34, a0g_35, a0g_36, a0g_37, a0g_38, a0g_39])), (a0_18, .inl (ka0_18, 23, .inl (j24a0_18_a))), (a0_15, .inl (ka0_15, 156, .inl (fa0_15))), (a0_24, .inl (ka0_24, 3, .inl (v19nfa0_24))), (a0_23, .inl (ka0_23, 3, .inl (v19nfa0_23)))]) hP hD hS hA [0, 5, 1, 3, 2] (by decide +kernel) rfl (fun hPc hDc hFc hCc => ?_)
          have hKc := hK.sub (tys' := [(ka0_18, .int), (ka0_15, .int), (ka0_24, .int), (ka0_23, .int)]) [4, 0, 2, 1] rfl
          refine va_callv (va_runV (As := [.ref a0_18]) (rest := []) ⟨hx, hb, hml, hown, hts⟩ (c_X8_minuteOn l dC dI H.size a0 a0_18 (Value.int v1na0_0) a0g_1 a0g_2 a0g_3 a0g_4 a0g_5 a0g_6 a0g_7 a0g_8 a0g_9 a0g_10 (Value.int v1na0_11) a0g_12 a0g_13 (Value.int a0_14) a0g_16 (Value.ref a0_17) (Value.ref a0_18) a0g_19 a0g_20 a0g_21 a0g_22 a0g_29 a0g_30 a0g_31 a0g_32 a0g_33 a0g_34 a0g_35 a0g_36 a0g_37 a0g_38 a0g_39 a0_15 a0_23 a0_24 v19na0_25 j24a0_26 j24a0_27 j24a0_28 ka0_18 j24a0_18_a ka0_15 fa0_15 ka0_24 v19nfa0_24 ka0_23 v19nfa0_23 bj24a0_18_a bfa0_15 bv19nfa0_24 bv19nfa0_23 hkm) (cwV 1 hts gX8_meets_X8_minuteOn rfl rfl rfl zd_X8_minuteOn ⟨Nat.le_of_ble_eq_true rfl, Nat.le_of_ble_eq_true rfl⟩) ⟨ax_blind (fun _ _ _ _ _ => trivial), zr_8 hKc hPc (q0 := 0) rfl, ax_pre hPc hKc hDc (fun _ _ => trivial)⟩ rfl rfl hl.1 rfl (lv_room (Nat.le_of_ble_eq_true rfl)) dX8_meets_49 ⟨Nat.le_of_ble_eq_true rfl, Nat.le_of_ble_eq_true rfl⟩) hS (fun q _ h => hFc q h) hFc (fun u t H locs ht hvm hw => zx_4 (fun v49na0_26 v49na0_27 v49na0_28 v49nfa1 => zy_1 (fun bv49nfa1 hB hz1 hk1 hS1 => zo hB ht hS1 (fun hP1 hK1 hD1 hS => ?_))))
          refine zc_backc (w := [(a0, .inr (8, [Value.int v1na0_0, a0g_1, a0g_2, a0g_3, a0g_4, a0g_5, a0g_6, a0g_7, a0g_8, a0g_9, a0g_10, Value.int v1na0_11, a0g_12, a0g_13, Value.int a0_14, Value.ref a0_15, a0g_16, Value.ref a0_17, Value.ref a0_18, a0g_19, a0g_20, a0g_21, a0g_22, Value.ref a0_23, Value.ref a0_24, Value.int v19na0_25, Value.int v49na0_26, Value.int v49na0_27, Value.int v49na0_28, a0g_29, a0g_30, a0g_31, a0g_32, a0g_33, a0g_34, a0g_35, a0g_36, a0g_37, a0g_38, a0g_39])), (a0_15, .inl (ka0_15, 156, .inl (fa0_15))), (a0_23, .inl (ka0_23, 3, .inl (v19nfa0_23))), (a0_24, .inl (ka0_24, 3, .inl (v19nfa0_24))), (a0_17, .inl (ka0_17, 23, .inl (fa0_17))), (a0_18, .inl (ka0_18, 23, .inl (v49nfa1)))]) hP hD hCc hk1 hFc hP1 hD1 [.inr 0, .inr 2, .inr 4, .inr 3, .inl 4, .inr 1] (by decide +kernel) rfl (fun hP hD => ?_)
          refine lv_aload_n hx hb dX8_meets_52 rfl (lv_at hl 1 rfl) ?_
          refine va_get (D := (dC, dI)) (ci := 8) (v := .int v49na0_27) (C := RX8) (T := TX8) (N := 40) hx hb hts zi_X8_meets_8 hown hK hP 0 rfl rfl 27 (by decide) (hts (.fieldLink RX8 261 "WaxTurnsModel" "livedAt" "I") (zm_X8_meets_r1 (List.mem_of_getElem? (i := 1) rfl))) (fun _ h9 => h9) rfl dX8_meets_53 ?_
          refine lv_iload_n hx hb dX8_meets_56 rfl (lv_at hl 0 rfl) ?_
          refine lv_icmp_ne (tgt := 62) hx hb dX8_meets_57 (by decide) (fun c57 => ?_) (fun c57 => ?_)
          · have gc57 := ai_ne c57
            obtain ⟨x62, ex62⟩ : ∃ y : Int32, y = j24l2 + Int32.ofInt 1 := ⟨_, rfl⟩
            have qx62 : x62.toInt = j24l2.toInt + 1 := ai_inc ex62 (by decide) (by decide) u28f_j24l2 (by decide)
            have bx62 : (2 : Int) ≤ x62.toInt ∧ x62.toInt ≤ 301 := ⟨by rw [qx62]; exact Int.add_le_add bj24l2_l (Int.le_refl _), by rw [qx62]; exact Int.add_le_add u28f_j24l2 (Int.le_refl _)⟩
            refine lv_iinc (v := x62) (lv' := [(2, .int x62), (3, .int r40), (0, .ref a0), (1, .int a1)]) hx hb dX8_meets_62 hl (k := 3) rfl ex62.symm (by decide) rfl (fun ls hl => ?_)
            refine lv_goto (tgt := 24) hx hb dX8_meets_65 (by decide) ?_
            exact (hK0 _ _ _).mp (ih24 x62 v49na0_26 v49na0_27 v49na0_28 v49nfa1 _ _ _ (by first | exact zg_s hm24 qx62 | (have h0 := qx62; omega)) (Int.le_trans zq54 bx62.1) bx62.2 bv49nfa1 hP hD hS (lv_sub hl [2, 3, 0] rfl))
          · have gc57 := ai_eq c57
            refine lv_iload_n hx hb dX8_meets_60 rfl (lv_at hl 3 rfl) ?_
            exact W.iret (v := j24l2) hx hb hr (fun t ht hW => ⟨⟨j24l2, (), rfl, ⟨(Int.le_trans zq59 bj24l2_l), u28f_j24l2⟩, v1na0_0, v1na0_11, v19na0_25, v49na0_26, v49na0_27, v49na0_28, v19nfa0_23, v19nfa0_24, v49nfa1, bv19nfa0_23, bv19nfa0_24, bv49nfa1, by rw [ht]; exact hP, va_K.moved hW.alike hK, hD⟩, hS.F ht⟩) hS.2.2 dX8_meets_61
    exact (hK0 _ _ _).mp (J24 301 1 a0_26 a0_27 a0_28 v19nfa0_18 _ _ _ (by first | decide +kernel | (have h1 : (1 : Int) ≤ (1 : Int32).toInt := zq1; have h2 : (1 : Int32).toInt ≤ (1 : Int) := zq0; omega)) zq1 (Int.le_trans zq0 zq86) bv19nfa0_18 hP hD hS (lv_sub hl [1, 2, 0] rfl))
  · subst hw
    refine lv_if_ne (tgt := 18) hx hb dX8_meets_9 (by decide) (fun c9 => absurd (by decide +kernel) c9) (fun _ => ?_)
    refine lv_aload_n hx hb dX8_meets_12 rfl (lv_at hl 0 rfl) ?_
    refine lv_iconst (v := 1) hx hb dX8_meets_13 zk_iconst_1 ?_
    refine va_calli (va_runV (As := [.int 1]) (rest := []) ⟨hx, hb, hml, hown, hts⟩ (c_X8_no l dC dI H.size a0 1 (Value.int v1na0_0) a0g_1 a0g_2 a0g_3 a0g_4 a0g_5 a0g_6 a0g_7 a0g_8 a0g_9 a0g_10 a0g_12 a0g_13 (Value.int a0_14) (Value.ref a0_15) a0g_16 (Value.ref a0_17) (Value.ref a0_18) a0g_19 a0g_20 a0g_21 a0g_22 (Value.ref a0_23) (Value.ref a0_24) (Value.int a0_25) (Value.int a0_26) (Value.int a0_27) (Value.int a0_28) a0g_29 a0g_30 a0g_31 a0g_32 a0g_33 a0g_34 a0g_35 a0g_36 a0g_37 a0g_38 a0g_39 v1na0_11 ) (cwV 1 hts gX8_meets_X8_no rfl rfl rfl zd_X8_no ⟨Nat.le_of_ble_eq_true rfl, Nat.le_of_ble_eq_true rfl⟩) ⟨ax_blind (fun _ _ _ _ _ => trivial), zr_8 (zp_K hK) (zp_P1 hP) (q0 := 0) rfl, ax_pre (zp_P1 hP) (zp_K hK) (zp_D1 hD) (fun _ _ => trivial)⟩ rfl rfl hl.1 rfl (lv_room (Nat.le_of_ble_eq_true rfl)) dX8_meets_14 ⟨Nat.le_of_ble_eq_true rfl, Nat.le_of_ble_eq_true rfl⟩) hS (fun q _ h => zp_F1 hD hS hA q h) (zp_F1 hD hS hA) (fun r14 u t H locs ht hvm hw => zx_1 (fun v14na0_11 hB hz1 hk1 hS1 => zo1 hB ht hP hD hk1 (zp_F1 hD hS hA) hS1 (fun hP hK1 hD hS => ?_)))
    have hw : r14 = (-1) := hw
    have hw := hw.symm
    subst hw
    exact W.iret (v := (-1)) hx hb hr (fun t ht hW => ⟨⟨(-1), (), rfl, ⟨(Int.le_trans zq76 zq70), (Int.le_trans zq71 zq85)⟩, v1na0_0, v14na0_11, a0_25, a0_26, a0_27, a0_28, fa0_23, fa0_24, fa0_18, bfa0_23, bfa0_24, bfa0_18, by rw [ht]; exact hP, va_K.moved hW.alike hK, hD⟩, hS.F ht⟩) hS.2.2 dX8_meets_17

set_option maxHeartbeats 4000000 in
set_option maxRecDepth 100000 in
theorem c_X8_crowd (l : Launch) (dC : Nat → ClassId) (dI : Nat → Nat → Nat) (sz : Nat) (a0 : Nat) (a1 : Int32) (a0_0 : Int32) (a0g_1 a0g_2 a0g_3 a0g_4 a0g_5 a0g_6 a0g_7 a0g_8 a0g_9 a0g_10 a0g_12 a0g_13 a0g_16 a0g_19 a0g_20 a0g_21 a0g_22 a0g_29 a0g_30 a0g_31 a0g_32 a0g_33 a0g_34 a0g_35 a0g_36 a0g_37 a0g_38 a0g_39 : Value) (a0_11 : Int32) (a0_14 : Int32) (a0_15 : Nat) (a0_17 : Nat) (a0_18 : Nat) (a0_23 : Nat) (a0_24 : Nat) (a0_25 : Int32) (a0_26 : Int32) (a0_27 : Int32) (a0_28 : Int32) (ka0_15 : ClassId) (fa0_15 : Nat → Int32) (ka0_23 : ClassId) (fa0_23 : Nat → Int32) (ka0_24 : ClassId) (fa0_24 : Nat → Int32) (ka0_17 : ClassId) (fa0_17 : Nat → Int32) (ka0_18 : ClassId) (fa0_18 : Nat → Int32) (ba0_14_l : (1 : Int) ≤ a0_14.toInt) (ba0_14_u : a0_14.toInt ≤ (1 : Int)) (bfa0_15 : ((∀ k : Nat, 0 ≤ k → k ≤ 0 → (2 : Int) ≤ (fa0_15 k).toInt ∧ (fa0_15 k).toInt ≤ 9) ∧ (∀ k : Nat, 1 ≤ k → k ≤ 1 → (1 : Int) ≤ (fa0_15 k).toInt ∧ (fa0_15 k).toInt ≤ 20) ∧ (∀ k : Nat, 2 ≤ k → k ≤ 2 → (0 : Int) ≤ (fa0_15 k).toInt ∧ (fa0_15 k).toInt ≤ 8) ∧ (∀ k : Nat, 3 ≤ k → k ≤ 3 → (0 : Int) ≤ (fa0_15 k).toInt ∧ (fa0_15 k).toInt ≤ 100) ∧ (∀ k : Nat, 4 ≤ k → k ≤ 4 → (0 : Int) ≤ (fa0_15 k).toInt ∧ (fa0_15 k).toInt ≤ 9) ∧ (∀ k : Nat, 5 ≤ k → k ≤ 5 → (0 : Int) ≤ (fa0_15 k).toInt ∧ (fa0_15 k).toInt ≤ 3) ∧ (∀ k : Nat, 6 ≤ k → k ≤ 6 → (0 : Int) ≤ (fa0_15 k).toInt ∧ (fa0_15 k).toInt ≤ 6) ∧ (∀ k : Nat, 7 ≤ k → k ≤ 9 → (0 : Int) ≤ (fa0_15 k).toInt ∧ (fa0_15 k).toInt ≤ 8) ∧ (∀ k : Nat, 12 ≤ k → k ≤ 29 → (0 : Int) ≤ (fa0_15 k).toInt ∧ (fa0_15 k).toInt ≤ 20) ∧ (∀ k : Nat, 30 ≤ k → k ≤ 35 → (0 : Int) ≤ (fa0_15 k).toInt ∧ (fa0_15 k).toInt ≤ 8) ∧ (∀ k : Nat, 36 ≤ k → k ≤ 47 → (0 : Int) ≤ (fa0_15 k).toInt ∧ (fa0_15 k).toInt ≤ 999))) (bfa0_23 : (∀ k, (0 : Int) ≤ (fa0_23 k).toInt ∧ (fa0_23 k).toInt ≤ 80)) (bfa0_24 : (∀ k, (0 : Int) ≤ (fa0_24 k).toInt ∧ (fa0_24 k).toInt ≤ 80)) (bfa0_17 : ((∀ k : Nat, 0 ≤ k → k ≤ 8 → (0 : Int) ≤ (fa0_17 k).toInt ∧ (fa0_17 k).toInt ≤ 8) ∧ (∀ k : Nat, 19 ≤ k → k ≤ 19 → (0 : Int) ≤ (fa0_17 k).toInt ∧ (fa0_17 k).toInt ≤ 8) ∧ (∀ k : Nat, 20 ≤ k → k ≤ 20 → (0 : Int) ≤ (fa0_17 k).toInt ∧ (fa0_17 k).toInt ≤ 19))) (bfa0_18 : ((∀ k : Nat, 0 ≤ k → k ≤ 8 → (0 : Int) ≤ (fa0_18 k).toInt ∧ (fa0_18 k).toInt ≤ 8) ∧ (∀ k : Nat, 19 ≤ k → k ≤ 19 → (0 : Int) ≤ (fa0_18 k).toInt ∧ (fa0_18 k).toInt ≤ 8) ∧ (∀ k : Nat, 20 ≤ k → k ≤ 20 → (0 : Int) ≤ (fa0_18 k).toInt ∧ (fa0_18 k).toInt ≤ 19))) (hkm : ∀ (j i0 i : Int32), (0 : Int) ≤ j.toInt → j.toInt ≤ 8 → i0.toInt = 12 + 2 * j.toInt → i.toInt = 13 + 2 * j.toInt → (fa0_15 i0.toNatClampNeg).toInt = (1 : Int32).toInt → (1 : Int) ≤ (fa0_15 i.toNatClampNeg).toInt) : zm l yX8_crowd wsX8_crowd ({ frames := 5, cells := 0, slots := 0, locals := 117 }) [.ref a0, .int a1] dC dI sz [(a0, .inr (8, [Value.int a0_0, a0g_1, a0g_2, a0g_3, a0g_4, a0g_5, a0g_6, a0g_7, a0g_8, a0g_9, a0g_10, Value.int a0_11, a0g_12, a0g_13, Value.int a0_14, Value.ref a0_15, a0g_16, Value.ref a0_17, Value.ref a0_18, a0g_19, a0g_20, a0g_21, a0g_22, Value.ref a0_23, Value.ref a0_24, Value.int a0_25, Value.int a0_26, Value.int a0_27, Value.int a0_28, a0g_29, a0g_30, a0g_31, a0g_32, a0g_33, a0g_34, a0g_35, a0g_36, a0g_37, a0g_38, a0g_39])), (a0_15, .inl (ka0_15, 156, .inl (fa0_15))), (a0_23, .inl (ka0_23, 3, .inl (fa0_23))), (a0_24, .inl (ka0_24, 3, .inl (fa0_24))), (a0_17, .inl (ka0_17, 23, .inl (fa0_17))), (a0_18, .inl (ka0_18, 23, .inl (fa0_18)))] [(ka0_15, .int), (ka0_23, .int), (ka0_24, .int), (ka0_17, .int), (ka0_18, .int)] (fun A _ => True) (fun A => va_Qi (fun (r : Int32) (_ : Unit) => (-1 : Int) ≤ r.toInt ∧ r.toInt ≤ (8 : Int)) (fun (_ : Unit) (t : State) => ∃ na0_0 : Int32, ∃ na0_11 : Int32, ∃ na0_25 : Int32, ∃ na0_26 : Int32, ∃ na0_27 : Int32, ∃ na0_28 : Int32, ∃ nfa0_23 : Nat → Int32, ∃ nfa0_24 : Nat → Int32, ∃ nfa0_18 : Nat → Int32, (∀ k, (0 : Int) ≤ (nfa0_23 k).toInt ∧ (nfa0_23 k).toInt ≤ 80) ∧ (∀ k, (0 : Int) ≤ (nfa0_24 k).toInt ∧ (nfa0_24 k).toInt ≤ 80) ∧ ((∀ k : Nat, 0 ≤ k → k ≤ 8 → (0 : Int) ≤ (nfa0_18 k).toInt ∧ (nfa0_18 k).toInt ≤ 8) ∧ (∀ k : Nat, 19 ≤ k → k ≤ 19 → (0 : Int) ≤ (nfa0_18 k).toInt ∧ (nfa0_18 k).toInt ≤ 8) ∧ (∀ k : Nat, 20 ≤ k → k ≤ 20 → (0 : Int) ≤ (nfa0_18 k).toInt ∧ (nfa0_18 k).toInt ≤ 19)) ∧ ax_B dC dI A [(a0, .inr (8, [Value.int na0_0, a0g_1, a0g_2, a0g_3, a0g_4, a0g_5, a0g_6, a0g_7, a0g_8, a0g_9, a0g_10, Value.int na0_11, a0g_12, a0g_13, Value.int a0_14, Value.ref a0_15, a0g_16, Value.ref a0_17, Value.ref a0_18, a0g_19, a0g_20, a0g_21, a0g_22, Value.ref a0_23, Value.ref a0_24, Value.int na0_25, Value.int na0_26, Value.int na0_27, Value.int na0_28, a0g_29, a0g_30, a0g_31, a0g_32, a0g_33, a0g_34, a0g_35, a0g_36, a0g_37, a0g_38, a0g_39])), (a0_15, .inl (ka0_15, 156, .inl (fa0_15))), (a0_23, .inl (ka0_23, 3, .inl (nfa0_23))), (a0_24, .inl (ka0_24, 3, .inl (nfa0_24))), (a0_17, .inl (ka0_17, 23, .inl (fa0_17))), (a0_18, .inl (ka0_18, 23, .inl (nfa0_18)))] [(ka0_15, .int), (ka0_23, .int), (ka0_24, .int), (ka0_17, .int), (ka0_18, .int)] t) A) := by
  refine zh (cc := cX8_crowd) (maxL := 8) (ret := (some .int)) zn_RX8 rfl (Nat.le_of_ble_eq_true rfl) (fun p e s m below meth c A ls hx hb hml hr hts (hown : s.vm.findClass RX8 = some m.cls) hlocks hA hS hP hK hD hE (hl : lv_has ls 8 [(0, .ref a0), (1, .int a1)]) => ?_)
  refine ai_open (fun K hK0 => ?_)
  refine (hK0 _ _ _).mpr ?_
  refine lv_aload_n hx hb dX8_crowd_0 rfl (lv_at hl 0 rfl) ?_
  refine va_callv (va_runV (As := []) (rest := []) ⟨hx, hb, hml, hown, hts⟩ (c_X8_good l dC dI s.heap.size a0 a0_0 a0g_1 a0g_2 a0g_3 a0g_4 a0g_5 a0g_6 a0g_7 a0g_8 a0g_9 a0g_10 a0g_12 a0g_13 (Value.int a0_14) (Value.ref a0_15) a0g_16 (Value.ref a0_17) (Value.ref a0_18) a0g_19 a0g_20 a0g_21 a0g_22 (Value.ref a0_23) (Value.ref a0_24) (Value.int a0_25) (Value.int a0_26) (Value.int a0_27) (Value.int a0_28) a0g_29 a0g_30 a0g_31 a0g_32 a0g_33 a0g_34 a0g_35 a0g_36 a0g_37 a0g_38 a0g_39 a0_11 ) (cwV 0 hts gX8_crowd_X8_good rfl rfl rfl zd_X8_good ⟨Nat.le_of_ble_eq_true rfl, Nat.le_of_ble_eq_true rfl⟩) ⟨ax_blind (fun _ _ _ _ _ => trivial), zr_8 (zp_K hK) (zp_P1 hP) (q0 := 0) rfl, ax_pre (zp_P1 hP) (zp_K hK) (zp_D1 hD) (fun _ _ => trivial)⟩ rfl rfl hl.1 rfl (lv_room (Nat.le_of_ble_eq_true rfl)) dX8_crowd_1 ⟨Nat.le_of_ble_eq_true rfl, Nat.le_of_ble_eq_true rfl⟩) hS (fun q _ h => zp_F1 hD hS hA q h) (zp_F1 hD hS hA) (fun u t H locs ht hvm hw => zx_2 (fun v1na0_0 v1na0_11 hB hz1 hk1 hS1 => zo1 hB ht hP hD hk1 (zp_F1 hD hS hA) hS1 (fun hP hK1 hD hS => ?_)))
  refine lv_aload_n hx hb dX8_crowd_4 rfl (lv_at hl 0 rfl) ?_
  refine lv_aload_n hx hb dX8_crowd_5 rfl (lv_at hl 0 rfl) ?_
  refine va_get (D := (dC, dI)) (ci := 8) (v := .int a0_14) (C := RX8) (T := TX8) (N := 40) hx hb hts zi_X8_crowd_8 hown hK hP 0 rfl rfl 14 (by decide) (hts (.fieldLink RX8 173 "WaxTurnsModel" "hasGallery" "Z") (zm_X8_crowd_r1 (List.mem_of_getElem? (i := 0) rfl))) (fun _ h9 => h9) rfl dX8_crowd_6 ?_
  refine lv_iconst (v := 0) hx hb dX8_crowd_9 zk_iconst_0 ?_
  refine lv_iload_n hx hb dX8_crowd_10 rfl (lv_at hl 1 rfl) ?_
  refine va_calli (va_runV (As := [.int a0_14, .int 0, .int a1]) (rest := []) ⟨hx, hb, hml, hown, hts⟩ (c_X8_aheadWhy l dC dI H.size a0 a0_14 0 a1 (Value.int v1na0_0) a0g_1 a0g_2 a0g_3 a0g_4 a0g_5 a0g_6 a0g_7 a0g_8 a0g_9 a0g_10 (Value.int v1na0_11) a0g_12 a0g_13 (Value.int a0_14) (Value.ref a0_15) a0g_16 (Value.ref a0_17) (Value.ref a0_18) a0g_19 a0g_20 a0g_21 a0g_22 (Value.ref a0_23) (Value.ref a0_24) (Value.int a0_25) (Value.int a0_26) (Value.int a0_27) (Value.int a0_28) a0g_29 a0g_30 a0g_31 a0g_32 a0g_33 a0g_34 a0g_35 a0g_36 a0g_37 a0g_38 a0g_39 (Int.le_trans zq4 ba0_14_l) ba0_14_u zq5 (Int.le_trans zq6 zq4)) (cwV 3 hts gX8_crowd_X8_aheadWhy rfl rfl rfl zd_X8_aheadWhy ⟨Nat.le_of_ble_eq_true rfl, Nat.le_of_ble_eq_true rfl⟩) ⟨ax_blind (fun _ _ _ _ _ => trivial), zr_8 (zp_K hK) (zp_P1 hP) (q0 := 0) rfl, ax_pre (zp_P1 hP) (zp_K hK) (zp_D1 hD) (fun _ _ => trivial)⟩ rfl rfl hl.1 rfl (lv_room (Nat.le_of_ble_eq_true rfl)) dX8_crowd_11 ⟨Nat.le_of_ble_eq_true rfl, Nat.le_of_ble_eq_true rfl⟩) hS (fun q _ h => zp_F1 hD hS hA q h) (zp_F1 hD hS hA) (fun r11 u t H locs ht hvm hw hB hz1 hk1 hS1 => zo1 hB ht hP hD hk1 (zp_F1 hD hS hA) hS1 (fun hP hK1 hD hS => ?_))
  rcases hw with hw | hw | hw
  · obtain ⟨hw, h11_0, h11_1⟩ := hw
    subst hw
    have l11k0_a0_14 : (1 : Int) ≤ a0_14.toInt := ba0_14_l
    have u11k0_a0_14 : a0_14.toInt ≤ (1 : Int) := ba0_14_u
    refine lv_istore_n (lv' := [(2, .int 2), (0, .ref a0), (1, .int a1)]) hx hb dX8_crowd_14 rfl hl (by decide) rfl (fun ls hl => ?_)
    refine lv_iload_n hx hb dX8_crowd_15 rfl (lv_at hl 0 rfl) ?_
    refine lv_if_eq (tgt := 25) hx hb dX8_crowd_16 (by decide) (fun c16 => absurd c16 (by decide +kernel)) (fun _ => ?_)
    refine lv_aload_n hx hb dX8_crowd_19 rfl (lv_at hl 1 rfl) ?_
    refine lv_iload_n hx hb dX8_crowd_20 rfl (lv_at hl 0 rfl) ?_
    refine va_calli (va_runV (As := [.int 2]) (rest := []) ⟨hx, hb, hml, hown, hts⟩ (c_X8_no l dC dI H.size a0 2 (Value.int v1na0_0) a0g_1 a0g_2 a0g_3 a0g_4 a0g_5 a0g_6 a0g_7 a0g_8 a0g_9 a0g_10 a0g_12 a0g_13 (Value.int a0_14) (Value.ref a0_15) a0g_16 (Value.ref a0_17) (Value.ref a0_18) a0g_19 a0g_20 a0g_21 a0g_22 (Value.ref a0_23) (Value.ref a0_24) (Value.int a0_25) (Value.int a0_26) (Value.int a0_27) (Value.int a0_28) a0g_29 a0g_30 a0g_31 a0g_32 a0g_33 a0g_34 a0g_35 a0g_36 a0g_37 a0g_38 a0g_39 v1na0_11 ) (cwV 1 hts gX8_crowd_X8_no rfl rfl rfl zd_X8_no ⟨Nat.le_of_ble_eq_true rfl, Nat.le_of_ble_eq_true rfl⟩) ⟨ax_blind (fun _ _ _ _ _ => trivial), zr_8 (zp_K hK) (zp_P1 hP) (q0 := 0) rfl, ax_pre (zp_P1 hP) (zp_K hK) (zp_D1 hD) (fun _ _ => trivial)⟩ rfl rfl hl.1 rfl (lv_room (Nat.le_of_ble_eq_true rfl)) dX8_crowd_21 ⟨Nat.le_of_ble_eq_true rfl, Nat.le_of_ble_eq_true rfl⟩) hS (fun q _ h => zp_F1 hD hS hA q h) (zp_F1 hD hS hA) (fun r21 u t H locs ht hvm hw => zx_1 (fun v21na0_11 hB hz1 hk1 hS1 => zo1 hB ht hP hD hk1 (zp_F1 hD hS hA) hS1 (fun hP hK1 hD hS => ?_)))
    have hw : r21 = (-1) := hw
    have hw := hw.symm
    subst hw
    exact W.iret (v := (-1)) hx hb hr (fun t ht hW => ⟨⟨(-1), (), rfl, ⟨zq70, (Int.le_trans zq71 zq72)⟩, v1na0_0, v21na0_11, a0_25, a0_26, a0_27, a0_28, fa0_23, fa0_24, fa0_18, bfa0_23, bfa0_24, bfa0_18, by rw [ht]; exact hP, va_K.moved hW.alike hK, hD⟩, hS.F ht⟩) hS.2.2 dX8_crowd_24
  · obtain ⟨hw, h11_0, h11_1⟩ := hw
    subst hw
    have l11k1_a0_14 : (1 : Int) ≤ a0_14.toInt := ba0_14_l
    have u11k1_a0_14 : a0_14.toInt ≤ (0 : Int) := h11_1
    exact absurd (Int.le_trans l11k1_a0_14 u11k1_a0_14) (by decide)
  · obtain ⟨hw, h11_0, h11_1, h11_2, h11_3⟩ := hw
    subst hw
    have l11k2_a0_14 : (1 : Int) ≤ a0_14.toInt := ba0_14_l
    have u11k2_a0_14 : a0_14.toInt ≤ (1 : Int) := ba0_14_u
    have l11k2_a1 : (0 : Int) ≤ a1.toInt := h11_2
    have u11k2_a1 : a1.toInt ≤ (300 : Int) := h11_3
    refine lv_istore_n (lv' := [(2, .int 0), (0, .ref a0), (1, .int a1)]) hx hb dX8_crowd_14 rfl hl (by decide) rfl (fun ls hl => ?_)
    refine lv_iload_n hx hb dX8_crowd_15 rfl (lv_at hl 0 rfl) ?_
    refine lv_if_eq (tgt := 25) hx hb dX8_crowd_16 (by decide) (fun _ => ?_) (fun c16 => absurd (by decide +kernel) c16)
    refine lv_aload_n hx hb dX8_crowd_25 rfl (lv_at hl 1 rfl) ?_
    refine lv_iload_n hx hb dX8_crowd_26 rfl (lv_at hl 2 rfl) ?_
    have hKc := hK.sub (tys' := [(ka0_15, .int), (ka0_23, .int), (ka0_24, .int), (ka0_17, .int), (ka0_18, .int)]) [0, 1, 2, 3, 4] rfl
    refine va_callv (va_runV (As := [.int a1]) (rest := []) ⟨hx, hb, hml, hown, hts⟩ (c_X8_minutesOn l dC dI H.size a0 a1 (Value.int v1na0_0) a0g_1 a0g_2 a0g_3 a0g_4 a0g_5 a0g_6 a0g_7 a0g_8 a0g_9 a0g_10 (Value.int v1na0_11) a0g_12 a0g_13 (Value.int a0_14) a0g_16 a0g_19 a0g_20 a0g_21 a0g_22 a0g_29 a0g_30 a0g_31 a0g_32 a0g_33 a0g_34 a0g_35 a0g_36 a0g_37 a0g_38 a0g_39 a0_15 a0_17 a0_18 a0_23 a0_24 a0_25 a0_26 a0_27 a0_28 ka0_15 fa0_15 ka0_23 fa0_23 ka0_24 fa0_24 ka0_17 fa0_17 ka0_18 fa0_18 bfa0_15 bfa0_23 bfa0_24 bfa0_17 bfa0_18 hkm) (cwV 1 hts gX8_crowd_X8_minutesOn rfl rfl rfl zd_X8_minutesOn ⟨Nat.le_of_ble_eq_true rfl, Nat.le_of_ble_eq_true rfl⟩) ⟨ax_blind (fun _ _ _ _ _ => trivial), zr_8 hKc (zp_P6 hP) (q0 := 0) rfl, ax_pre (zp_P6 hP) hKc (zp_D6 hD) (fun _ _ => trivial)⟩ rfl rfl hl.1 rfl (lv_room (Nat.le_of_ble_eq_true rfl)) dX8_crowd_27 ⟨Nat.le_of_ble_eq_true rfl, Nat.le_of_ble_eq_true rfl⟩) hS (fun q _ h => zp_F6 hD hS hA q h) (zp_F6 hD hS hA) (fun u t H locs ht hvm hw => zx_7 (fun v27na0_25 v27na0_26 v27na0_27 v27na0_28 v27nfa0_23 v27nfa0_24 v27nfa0_18 => zy_3 (fun bv27nfa0_23 bv27nfa0_24 bv27nfa0_18 hB hz1 hk1 hS1 => zo6 hB ht hP hD hk1 (zp_F6 hD hS hA) hS1 (fun hP hK1 hD hS => ?_))))
    refine lv_iconst (v := 0) hx hb dX8_crowd_30 zk_iconst_0 ?_
    refine lv_istore_n (lv' := [(3, .int 0), (2, .int 0), (0, .ref a0), (1, .int a1)]) hx hb dX8_crowd_31 rfl hl (by decide) rfl (fun ls hl => ?_)
    refine lv_iconst (v := (-1)) hx hb dX8_crowd_32 zk_iconst_n1 ?_
    refine lv_istore (lv' := [(4, .int (-1)), (3, .int 0), (2, .int 0), (0, .ref a0), (1, .int a1)]) hx hb dX8_crowd_33 hl (by decide) rfl (fun ls hl => ?_)
    refine lv_iconst (v := 0) hx hb dX8_crowd_35 zk_iconst_0 ?_
    refine lv_istore (lv' := [(5, .int 0), (4, .int (-1)), (3, .int 0), (2, .int 0), (0, .ref a0), (1, .int a1)]) hx hb dX8_crowd_36 hl (by decide) rfl (fun ls hl => ?_)
    have J38 : ∀ (n : Nat) (j38l5 : Int32) (j38l4 : Int32) (j38l3 : Int32) (H : Heap) (locs : List Loc) (ls : Array Slot), (10 : Int) - j38l5.toInt ≤ (n : Int) → (0 : Int) ≤ j38l5.toInt → j38l5.toInt ≤ (9 : Int) → (-1 : Int) ≤ j38l4.toInt → (0 : Int) ≤ j38l3.toInt → j38l3.toInt ≤ (8 : Int) → va_P (dC, dI) vwCl [(a0, .inr (8, [Value.int v1na0_0, a0g_1, a0g_2, a0g_3, a0g_4, a0g_5, a0g_6, a0g_7, a0g_8, a0g_9, a0g_10, Value.int v1na0_11, a0g_12, a0g_13, Value.int a0_14, Value.ref a0_15, a0g_16, Value.ref a0_17, Value.ref a0_18, a0g_19, a0g_20, a0g_21, a0g_22, Value.ref a0_23, Value.ref a0_24, Value.int v27na0_25, Value.int v27na0_26, Value.int v27na0_27, Value.int v27na0_28, a0g_29, a0g_30, a0g_31, a0g_32, a0g_33, a0g_34, a0g_35, a0g_36, a0g_37, a0g_38, a0g_39])), (a0_15, .inl (ka0_15, 156, .inl (fa0_15))), (a0_23, .inl (ka0_23, 3, .inl (v27nfa0_23))), (a0_24, .inl (ka0_24, 3, .inl (v27nfa0_24))), (a0_17, .inl (ka0_17, 23, .inl (fa0_17))), (a0_18, .inl (ka0_18, 23, .inl (v27nfa0_18)))] H → va_D A [(a0, .inr (8, [Value.int v1na0_0, a0g_1, a0g_2, a0g_3, a0g_4, a0g_5, a0g_6, a0g_7, a0g_8, a0g_9, a0g_10, Value.int v1na0_11, a0g_12, a0g_13, Value.int a0_14, Value.ref a0_15, a0g_16, Value.ref a0_17, Value.ref a0_18, a0g_19, a0g_20, a0g_21, a0g_22, Value.ref a0_23, Value.ref a0_24, Value.int v27na0_25, Value.int v27na0_26, Value.int v27na0_27, Value.int v27na0_28, a0g_29, a0g_30, a0g_31, a0g_32, a0g_33, a0g_34, a0g_35, a0g_36, a0g_37, a0g_38, a0g_39])), (a0_15, .inl (ka0_15, 156, .inl (fa0_15))), (a0_23, .inl (ka0_23, 3, .inl (v27nfa0_23))), (a0_24, .inl (ka0_24, 3, .inl (v27nfa0_24))), (a0_17, .inl (ka0_17, 23, .inl (fa0_17))), (a0_18, .inl (ka0_18, 23, .inl (v27nfa0_18)))] → va_S A s.heap H locs → lv_has ls 8 [(0, .ref a0), (3, .int j38l3), (4, .int j38l4), (5, .int j38l5)] → K H locs (F0 m 38 ls []) := by
      intro n
      induction n with
      | zero =>
        intro j38l5 j38l4 j38l3 H locs ls hm bj38l5_l bj38l5_u bj38l4_l bj38l3_l bj38l3_u hP hD hS hl
        first | exact zg_0 hm bj38l5_u (by decide) | (have h8 := ai_min j38l5; have h9 := ai_max j38l5; exact absurd hm (by omega))
      | succ n ih38 =>
        intro j38l5 j38l4 j38l3 H locs ls hm bj38l5_l bj38l5_u bj38l4_l bj38l3_l bj38l3_u hP hD hS hl
        refine (hK0 _ _ _).mpr ?_
        have hm38 := hm
        refine lv_iload hx hb dX8_crowd_38 (lv_at hl 3 rfl) ?_
        refine lv_aload_n hx hb dX8_crowd_40 rfl (lv_at hl 0 rfl) ?_
        refine va_get (D := (dC, dI)) (ci := 8) (v := .ref a0_15) (C := RX8) (T := TX8) (N := 40) hx hb hts zi_X8_crowd_8 hown hK hP 0 rfl rfl 15 (by decide) (hts (.fieldLink RX8 20 "WaxTurnsModel" "\x72" "[I") (zm_X8_crowd_r1 (List.mem_of_getElem? (i := 1) rfl))) (fun _ h9 => h9) rfl dX8_crowd_41 ?_
        refine lv_iconst (v := 0) hx hb dX8_crowd_44 zk_iconst_0 ?_
        refine va_iald hx hb hK hP 1 0 rfl rfl (by unfold vp_in; decide +kernel) dX8_crowd_45 ?_
        refine lv_topi (fun x45 ex45 => ?_)
        have bx45 : (2 : Int) ≤ x45.toInt ∧ x45.toInt ≤ 9 := by rw [ex45]; exact ai_rd bfa0_15.1 zq5 zq6 (by decide) (by decide) (by decide)
        refine lv_icmp_ge (tgt := 132) hx hb dX8_crowd_46 (by decide) (fun c46 => ?_) (fun c46 => ?_)
        · have gc46 := ai_le c46
          have u46t_x45 : x45.toInt ≤ (9 : Int) := bx45.2
          have l46t_j38l5 : (2 : Int) ≤ j38l5.toInt := Int.le_trans bx45.1 gc46
          refine lv_iload_n hx hb dX8_crowd_132 rfl (lv_at hl 1 rfl) ?_
          exact W.iret (v := j38l3) hx hb hr (fun t ht hW => ⟨⟨j38l3, (), rfl, ⟨(Int.le_trans zq69 bj38l3_l), bj38l3_u⟩, v1na0_0, v1na0_11, v27na0_25, v27na0_26, v27na0_27, v27na0_28, v27nfa0_23, v27nfa0_24, v27nfa0_18, bv27nfa0_23, bv27nfa0_24, bv27nfa0_18, by rw [ht]; exact hP, va_K.moved hW.alike hK, hD⟩, hS.F ht⟩) hS.2.2 dX8_crowd_133
        · have gc46 := ai_nle c46
          have u46f_j38l5 : j38l5.toInt ≤ (8 : Int) := ai_lthi gc46 bx45.2
          have l46f_x45 : (2 : Int) ≤ x45.toInt := bx45.1
          refine lv_iconst (v := 0) hx hb dX8_crowd_49 zk_iconst_0 ?_
          refine lv_istore (lv' := [(6, .int 0), (0, .ref a0), (3, .int j38l3), (4, .int j38l4), (5, .int j38l5)]) hx hb dX8_crowd_50 hl (by decide) rfl (fun ls hl => ?_)
          refine lv_iconst (v := 0) hx hb dX8_crowd_52 zk_iconst_0 ?_
          refine lv_istore (lv' := [(7, .int 0), (6, .int 0), (0, .ref a0), (3, .int j38l3), (4, .int j38l4), (5, .int j38l5)]) hx hb dX8_crowd_53 hl (by decide) rfl (fun ls hl => ?_)
          have J55 : ∀ (n : Nat) (j55l7 : Int32) (j55l6 : Int32) (H : Heap) (locs : List Loc) (ls : Array Slot), (10 : Int) - j55l7.toInt ≤ (n : Int) → (0 : Int) ≤ j55l7.toInt → j55l7.toInt ≤ (9 : Int) → va_P (dC, dI) vwCl [(a0, .inr (8, [Value.int v1na0_0, a0g_1, a0g_2, a0g_3, a0g_4, a0g_5, a0g_6, a0g_7, a0g_8, a0g_9, a0g_10, Value.int v1na0_11, a0g_12, a0g_13, Value.int a0_14, Value.ref a0_15, a0g_16, Value.ref a0_17, Value.ref a0_18, a0g_19, a0g_20, a0g_21, a0g_22, Value.ref a0_23, Value.ref a0_24, Value.int v27na0_25, Value.int v27na0_26, Value.int v27na0_27, Value.int v27na0_28, a0g_29, a0g_30, a0g_31, a0g_32, a0g_33, a0g_34, a0g_35, a0g_36, a0g_37, a0g_38, a0g_39])), (a0_15, .inl (ka0_15, 156, .inl (fa0_15))), (a0_23, .inl (ka0_23, 3, .inl (v27nfa0_23))), (a0_24, .inl (ka0_24, 3, .inl (v27nfa0_24))), (a0_17, .inl (ka0_17, 23, .inl (fa0_17))), (a0_18, .inl (ka0_18, 23, .inl (v27nfa0_18)))] H → va_D A [(a0, .inr (8, [Value.int v1na0_0, a0g_1, a0g_2, a0g_3, a0g_4, a0g_5, a0g_6, a0g_7, a0g_8, a0g_9, a0g_10, Value.int v1na0_11, a0g_12, a0g_13, Value.int a0_14, Value.ref a0_15, a0g_16, Value.ref a0_17, Value.ref a0_18, a0g_19, a0g_20, a0g_21, a0g_22, Value.ref a0_23, Value.ref a0_24, Value.int v27na0_25, Value.int v27na0_26, Value.int v27na0_27, Value.int v27na0_28, a0g_29, a0g_30, a0g_31, a0g_32, a0g_33, a0g_34, a0g_35, a0g_36, a0g_37, a0g_38, a0g_39])), (a0_15, .inl (ka0_15, 156, .inl (fa0_15))), (a0_23, .inl (ka0_23, 3, .inl (v27nfa0_23))), (a0_24, .inl (ka0_24, 3, .inl (v27nfa0_24))), (a0_17, .inl (ka0_17, 23, .inl (fa0_17))), (a0_18, .inl (ka0_18, 23, .inl (v27nfa0_18)))] → va_S A s.heap H locs → lv_has ls 8 [(0, .ref a0), (3, .int j38l3), (4, .int j38l4), (5, .int j38l5), (6, .int j55l6), (7, .int j55l7)] → K H locs (F0 m 55 ls []) := by
            intro n
            induction n with
            | zero =>
              intro j55l7 j55l6 H locs ls hm bj55l7_l bj55l7_u hP hD hS hl
              first | exact zg_0 hm bj55l7_u (by decide) | (have h8 := ai_min j55l7; have h9 := ai_max j55l7; exact absurd hm (by omega))
            | succ n ih55 =>
              intro j55l7 j55l6 H locs ls hm bj55l7_l bj55l7_u hP hD hS hl
              refine (hK0 _ _ _).mpr ?_
              have hm55 := hm
              refine lv_iload hx hb dX8_crowd_55 (lv_at hl 5 rfl) ?_
              refine lv_aload_n hx hb dX8_crowd_57 rfl (lv_at hl 0 rfl) ?_
              refine va_get (D := (dC, dI)) (ci := 8) (v := .ref a0_15) (C := RX8) (T := TX8) (N := 40) hx hb hts zi_X8_crowd_8 hown hK hP 0 rfl rfl 15 (by decide) (hts (.fieldLink RX8 20 "WaxTurnsModel" "\x72" "[I") (zm_X8_crowd_r1 (List.mem_of_getElem? (i := 1) rfl))) (fun _ h9 => h9) rfl dX8_crowd_58 ?_
              refine lv_iconst (v := 0) hx hb dX8_crowd_61 zk_iconst_0 ?_
              refine va_iald hx hb hK hP 1 0 rfl rfl (by unfold vp_in; decide +kernel) dX8_crowd_62 ?_
              refine lv_topi (fun x62 ex62 => ?_)
              have bx62 : (2 : Int) ≤ x62.toInt ∧ x62.toInt ≤ 9 := by rw [ex62]; exact ai_rd bfa0_15.1 zq5 zq6 (by decide) (by decide) (by decide)
              refine lv_icmp_ge (tgt := 109) hx hb dX8_crowd_63 (by decide) (fun c63 => ?_) (fun c63 => ?_)
              · have gc63 := ai_le c63
                have u63t_x62 : x62.toInt ≤ (9 : Int) := bx62.2
                have l63t_j55l7 : (2 : Int) ≤ j55l7.toInt := Int.le_trans bx62.1 gc63
                refine lv_iload hx hb dX8_crowd_109 (lv_at hl 4 rfl) ?_
                refine lv_iload hx hb dX8_crowd_111 (lv_at hl 2 rfl) ?_
                have J126 : ∀ (j126l4 : Int32) (j126l3 : Int32) (H : Heap) (locs : List Loc) (ls : Array Slot), (-1 : Int) ≤ j126l4.toInt → (0 : Int) ≤ j126l3.toInt → j126l3.toInt ≤ (8 : Int) → va_P (dC, dI) vwCl [(a0, .inr (8, [Value.int v1na0_0, a0g_1, a0g_2, a0g_3, a0g_4, a0g_5, a0g_6, a0g_7, a0g_8, a0g_9, a0g_10, Value.int v1na0_11, a0g_12, a0g_13, Value.int a0_14, Value.ref a0_15, a0g_16, Value.ref a0_17, Value.ref a0_18, a0g_19, a0g_20, a0g_21, a0g_22, Value.ref a0_23, Value.ref a0_24, Value.int v27na0_25, Value.int v27na0_26, Value.int v27na0_27, Value.int v27na0_28, a0g_29, a0g_30, a0g_31, a0g_32, a0g_33, a0g_34, a0g_35, a0g_36, a0g_37, a0g_38, a0g_39])), (a0_15, .inl (ka0_15, 156, .inl (fa0_15))), (a0_23, .inl (ka0_23, 3, .inl (v27nfa0_23))), (a0_24, .inl (ka0_24, 3, .inl (v27nfa0_24))), (a0_17, .inl (ka0_17, 23, .inl (fa0_17))), (a0_18, .inl (ka0_18, 23, .inl (v27nfa0_18)))] H → va_D A [(a0, .inr (8, [Value.int v1na0_0, a0g_1, a0g_2, a0g_3, a0g_4, a0g_5, a0g_6, a0g_7, a0g_8, a0g_9, a0g_10, Value.int v1na0_11, a0g_12, a0g_13, Value.int a0_14, Value.ref a0_15, a0g_16, Value.ref a0_17, Value.ref a0_18, a0g_19, a0g_20, a0g_21, a0g_22, Value.ref a0_23, Value.ref a0_24, Value.int v27na0_25, Value.int v27na0_26, Value.int v27na0_27, Value.int v27na0_28, a0g_29, a0g_30, a0g_31, a0g_32, a0g_33, a0g_34, a0g_35, a0g_36, a0g_37, a0g_38, a0g_39])), (a0_15, .inl (ka0_15, 156, .inl (fa0_15))), (a0_23, .inl (ka0_23, 3, .inl (v27nfa0_23))), (a0_24, .inl (ka0_24, 3, .inl (v27nfa0_24))), (a0_17, .inl (ka0_17, 23, .inl (fa0_17))), (a0_18, .inl (ka0_18, 23, .inl (v27nfa0_18)))] → va_S A s.heap H locs → lv_has ls 8 [(0, .ref a0), (3, .int j126l3), (4, .int j126l4), (5, .int j38l5)] → K H locs (F0 m 126 ls []) := by
                  intro j126l4 j126l3 H locs ls  bj126l4_l bj126l3_l bj126l3_u hP hD hS hl
                  refine (hK0 _ _ _).mpr ?_
                  obtain ⟨x126, ex126⟩ : ∃ y : Int32, y = j38l5 + Int32.ofInt 1 := ⟨_, rfl⟩
                  have qx126 : x126.toInt = j38l5.toInt + 1 := ai_inc ex126 (by decide) (by decide) u46f_j38l5 (by decide)
                  have bx126 : (1 : Int) ≤ x126.toInt ∧ x126.toInt ≤ 9 := ⟨by rw [qx126]; exact Int.add_le_add bj38l5_l (Int.le_refl _), by rw [qx126]; exact Int.add_le_add u46f_j38l5 (Int.le_refl _)⟩
                  refine lv_iinc (v := x126) (lv' := [(5, .int x126), (0, .ref a0), (3, .int j126l3), (4, .int j126l4)]) hx hb dX8_crowd_126 hl (k := 3) rfl ex126.symm (by decide) rfl (fun ls hl => ?_)
                  refine lv_goto (tgt := 38) hx hb dX8_crowd_129 (by decide) ?_
                  exact (hK0 _ _ _).mp (ih38 x126 j126l4 j126l3 _ _ _ (by first | exact zg_s hm38 qx126 | (have h0 := qx126; omega)) (Int.le_trans zq4 bx126.1) bx126.2 bj126l4_l bj126l3_l bj126l3_u hP hD hS (lv_sub hl [1, 2, 3, 0] rfl))
                refine lv_icmp_gt (tgt := 119) hx hb dX8_crowd_113 (by decide) (fun c113 => ?_) (fun c113 => ?_)
                · have gc113 := ai_lt c113
                  have u113t_j38l4 : j38l4.toInt ≤ (2147483646 : Int) := ai_lthi gc113 (ai_max j55l6)
                  have l113t_j55l6 : (0 : Int) ≤ j55l6.toInt := ai_ltlo gc113 bj38l4_l
                  refine lv_iload hx hb dX8_crowd_119 (lv_at hl 3 rfl) ?_
                  refine lv_istore_n (lv' := [(3, .int j38l5), (0, .ref a0), (4, .int j38l4), (5, .int j38l5), (6, .int j55l6), (7, .int j55l7)]) hx hb dX8_crowd_121 rfl hl (by decide) rfl (fun ls hl => ?_)
                  refine lv_iload hx hb dX8_crowd_122 (lv_at hl 4 rfl) ?_
                  refine lv_istore (lv' := [(4, .int j55l6), (3, .int j38l5), (0, .ref a0), (5, .int j38l5), (6, .int j55l6), (7, .int j55l7)]) hx hb dX8_crowd_124 hl (by decide) rfl (fun ls hl => ?_)
                  exact (hK0 _ _ _).mp (J126 j55l6 j38l5 _ _ _  (Int.le_trans zq69 l113t_j55l6) bj38l5_l u46f_j38l5 hP hD hS (lv_sub hl [2, 1, 0, 3] rfl))
                · have gc113 := ai_nlt c113
                  refine lv_goto (tgt := 126) hx hb dX8_crowd_116 (by decide) ?_
                  exact (hK0 _ _ _).mp (J126 j38l4 j38l3 _ _ _  bj38l4_l bj38l3_l bj38l3_u hP hD hS (lv_sub hl [0, 1, 2, 3] rfl))
              · have gc63 := ai_nle c63
                have u63f_j55l7 : j55l7.toInt ≤ (8 : Int) := ai_lthi gc63 bx62.2
                have l63f_x62 : (2 : Int) ≤ x62.toInt := bx62.1
                refine lv_iload hx hb dX8_crowd_66 (lv_at hl 4 rfl) ?_
                refine lv_aload_n hx hb dX8_crowd_68 rfl (lv_at hl 0 rfl) ?_
                refine va_get (D := (dC, dI)) (ci := 8) (v := .ref a0_18) (C := RX8) (T := TX8) (N := 40) hx hb hts zi_X8_crowd_8 hown hK hP 0 rfl rfl 18 (by decide) (hts (.fieldLink RX8 29 "WaxTurnsModel" "trial" "[I") (zm_X8_crowd_r1 (List.mem_of_getElem? (i := 2) rfl))) (fun _ h9 => h9) rfl dX8_crowd_69 ?_
                refine lv_iload hx hb dX8_crowd_72 (lv_at hl 5 rfl) ?_
                refine va_iald hx hb hK hP 5 4 rfl rfl (ai_in bj55l7_l u63f_j55l7 (by decide) (by decide)) dX8_crowd_74 ?_
                refine lv_topi (fun x74 ex74 => ?_)
                have bx74 : (0 : Int) ≤ x74.toInt ∧ x74.toInt ≤ 8 := by rw [ex74]; exact ai_rd bv27nfa0_18.1 bj55l7_l u63f_j55l7 (by decide) (by decide) (by decide)
                refine lv_iload hx hb dX8_crowd_75 (lv_at hl 3 rfl) ?_
                have J100 : ∀ (j100s0 : Int32) (H : Heap) (locs : List Loc) (ls : Array Slot), (0 : Int) ≤ j100s0.toInt → j100s0.toInt ≤ (1 : Int) → va_P (dC, dI) vwCl [(a0, .inr (8, [Value.int v1na0_0, a0g_1, a0g_2, a0g_3, a0g_4, a0g_5, a0g_6, a0g_7, a0g_8, a0g_9, a0g_10, Value.int v1na0_11, a0g_12, a0g_13, Value.int a0_14, Value.ref a0_15, a0g_16, Value.ref a0_17, Value.ref a0_18, a0g_19, a0g_20, a0g_21, a0g_22, Value.ref a0_23, Value.ref a0_24, Value.int v27na0_25, Value.int v27na0_26, Value.int v27na0_27, Value.int v27na0_28, a0g_29, a0g_30, a0g_31, a0g_32, a0g_33, a0g_34, a0g_35, a0g_36, a0g_37, a0g_38, a0g_39])), (a0_15, .inl (ka0_15, 156, .inl (fa0_15))), (a0_23, .inl (ka0_23, 3, .inl (v27nfa0_23))), (a0_24, .inl (ka0_24, 3, .inl (v27nfa0_24))), (a0_17, .inl (ka0_17, 23, .inl (fa0_17))), (a0_18, .inl (ka0_18, 23, .inl (v27nfa0_18)))] H → va_D A [(a0, .inr (8, [Value.int v1na0_0, a0g_1, a0g_2, a0g_3, a0g_4, a0g_5, a0g_6, a0g_7, a0g_8, a0g_9, a0g_10, Value.int v1na0_11, a0g_12, a0g_13, Value.int a0_14, Value.ref a0_15, a0g_16, Value.ref a0_17, Value.ref a0_18, a0g_19, a0g_20, a0g_21, a0g_22, Value.ref a0_23, Value.ref a0_24, Value.int v27na0_25, Value.int v27na0_26, Value.int v27na0_27, Value.int v27na0_28, a0g_29, a0g_30, a0g_31, a0g_32, a0g_33, a0g_34, a0g_35, a0g_36, a0g_37, a0g_38, a0g_39])), (a0_15, .inl (ka0_15, 156, .inl (fa0_15))), (a0_23, .inl (ka0_23, 3, .inl (v27nfa0_23))), (a0_24, .inl (ka0_24, 3, .inl (v27nfa0_24))), (a0_17, .inl (ka0_17, 23, .inl (fa0_17))), (a0_18, .inl (ka0_18, 23, .inl (v27nfa0_18)))] → va_S A s.heap H locs → lv_has ls 8 [(0, .ref a0), (3, .int j38l3), (4, .int j38l4), (5, .int j38l5), (7, .int j55l7)] → K H locs (F0 m 100 ls [.int j100s0, .int j55l6]) := by
                  intro j100s0 H locs ls  bj100s0_l bj100s0_u hP hD hS hl
                  refine (hK0 _ _ _).mpr ?_
                  refine lv_iadd hx hb dX8_crowd_100 ?_
                  refine lv_topi (fun x100 ex100 => ?_)
                  refine lv_istore (lv' := [(6, .int x100), (0, .ref a0), (3, .int j38l3), (4, .int j38l4), (5, .int j38l5), (7, .int j55l7)]) hx hb dX8_crowd_101 hl (by decide) rfl (fun ls hl => ?_)
                  obtain ⟨x103, ex103⟩ : ∃ y : Int32, y = j55l7 + Int32.ofInt 1 := ⟨_, rfl⟩
                  have qx103 : x103.toInt = j55l7.toInt + 1 := ai_inc ex103 (by decide) (by decide) u63f_j55l7 (by decide)
                  have bx103 : (1 : Int) ≤ x103.toInt ∧ x103.toInt ≤ 9 := ⟨by rw [qx103]; exact Int.add_le_add bj55l7_l (Int.le_refl _), by rw [qx103]; exact Int.add_le_add u63f_j55l7 (Int.le_refl _)⟩
                  refine lv_iinc (v := x103) (lv' := [(7, .int x103), (6, .int x100), (0, .ref a0), (3, .int j38l3), (4, .int j38l4), (5, .int j38l5)]) hx hb dX8_crowd_103 hl (k := 5) rfl ex103.symm (by decide) rfl (fun ls hl => ?_)
                  refine lv_goto (tgt := 55) hx hb dX8_crowd_106 (by decide) ?_
                  exact (hK0 _ _ _).mp (ih55 x103 x100 _ _ _ (by first | exact zg_s hm55 qx103 | (have h0 := qx103; omega)) (Int.le_trans zq4 bx103.1) bx103.2 hP hD hS (lv_sub hl [2, 3, 4, 5, 1, 0] rfl))
                have J99 : ∀ (H : Heap) (locs : List Loc) (ls : Array Slot), va_P (dC, dI) vwCl [(a0, .inr (8, [Value.int v1na0_0, a0g_1, a0g_2, a0g_3, a0g_4, a0g_5, a0g_6, a0g_7, a0g_8, a0g_9, a0g_10, Value.int v1na0_11, a0g_12, a0g_13, Value.int a0_14, Value.ref a0_15, a0g_16, Value.ref a0_17, Value.ref a0_18, a0g_19, a0g_20, a0g_21, a0g_22, Value.ref a0_23, Value.ref a0_24, Value.int v27na0_25, Value.int v27na0_26, Value.int v27na0_27, Value.int v27na0_28, a0g_29, a0g_30, a0g_31, a0g_32, a0g_33, a0g_34, a0g_35, a0g_36, a0g_37, a0g_38, a0g_39])), (a0_15, .inl (ka0_15, 156, .inl (fa0_15))), (a0_23, .inl (ka0_23, 3, .inl (v27nfa0_23))), (a0_24, .inl (ka0_24, 3, .inl (v27nfa0_24))), (a0_17, .inl (ka0_17, 23, .inl (fa0_17))), (a0_18, .inl (ka0_18, 23, .inl (v27nfa0_18)))] H → va_D A [(a0, .inr (8, [Value.int v1na0_0, a0g_1, a0g_2, a0g_3, a0g_4, a0g_5, a0g_6, a0g_7, a0g_8, a0g_9, a0g_10, Value.int v1na0_11, a0g_12, a0g_13, Value.int a0_14, Value.ref a0_15, a0g_16, Value.ref a0_17, Value.ref a0_18, a0g_19, a0g_20, a0g_21, a0g_22, Value.ref a0_23, Value.ref a0_24, Value.int v27na0_25, Value.int v27na0_26, Value.int v27na0_27, Value.int v27na0_28, a0g_29, a0g_30, a0g_31, a0g_32, a0g_33, a0g_34, a0g_35, a0g_36, a0g_37, a0g_38, a0g_39])), (a0_15, .inl (ka0_15, 156, .inl (fa0_15))), (a0_23, .inl (ka0_23, 3, .inl (v27nfa0_23))), (a0_24, .inl (ka0_24, 3, .inl (v27nfa0_24))), (a0_17, .inl (ka0_17, 23, .inl (fa0_17))), (a0_18, .inl (ka0_18, 23, .inl (v27nfa0_18)))] → va_S A s.heap H locs → lv_has ls 8 [(0, .ref a0), (3, .int j38l3), (4, .int j38l4), (5, .int j38l5), (7, .int j55l7)] → K H locs (F0 m 99 ls [.int j55l6]) := by
                  intro  H locs ls   hP hD hS hl
                  refine (hK0 _ _ _).mpr ?_
                  refine lv_iconst (v := 0) hx hb dX8_crowd_99 zk_iconst_0 ?_
                  exact (hK0 _ _ _).mp (J100 0 _ _ _  zq5 (Int.le_trans zq6 zq4) hP hD hS (lv_sub hl [0, 1, 2, 3, 4] rfl))
                refine lv_icmp_ne (tgt := 99) hx hb dX8_crowd_77 (by decide) (fun c77 => ?_) (fun c77 => ?_)
                · have gc77 := ai_ne c77
                  exact (hK0 _ _ _).mp (J99  _ _ _   hP hD hS (lv_sub hl [0, 1, 2, 3, 5] rfl))
                · have gc77 := ai_eq c77
                  have u77f_x74 : x74.toInt ≤ (8 : Int) := bx74.2
                  have l77f_x74 : (0 : Int) ≤ x74.toInt := bx74.1
                  have u77f_j38l5 : j38l5.toInt ≤ (8 : Int) := u46f_j38l5
                  have l77f_j38l5 : (0 : Int) ≤ j38l5.toInt := bj38l5_l
                  refine lv_aload_n hx hb dX8_crowd_80 rfl (lv_at hl 0 rfl) ?_
                  refine va_get (D := (dC, dI)) (ci := 8) (v := .ref a0_18) (C := RX8) (T := TX8) (N := 40) hx hb hts zi_X8_crowd_8 hown hK hP 0 rfl rfl 18 (by decide) (hts (.fieldLink RX8 29 "WaxTurnsModel" "trial" "[I") (zm_X8_crowd_r1 (List.mem_of_getElem? (i := 2) rfl))) (fun _ h9 => h9) rfl dX8_crowd_81 ?_
                  refine lv_bipush (v := 18) hx hb dX8_crowd_84 zk_bipush_18 ?_
                  refine va_iald hx hb hK hP 5 4 rfl rfl (by unfold vp_in; decide +kernel) dX8_crowd_86 ?_
                  refine lv_topi (fun x86 ex86 => ?_)
                  refine lv_iload hx hb dX8_crowd_87 (lv_at hl 5 rfl) ?_
                  refine va_calli (va_runS (As := [.int x86, .int j55l7]) (rest := [.int j55l6]) ⟨hx, hb, hml, hown, hts⟩ (c_X8_hasBit l dC dI H.size x86 j55l7 ) (va_cwS 2 hts gX8_crowd_X8_hasBit rfl rfl rfl zd_X8_hasBit.2 ⟨Nat.le_of_ble_eq_true rfl, Nat.le_of_ble_eq_true rfl⟩) ⟨ax_blind (fun _ _ _ _ _ => trivial), ax_pre (zp_P0 hP) (zp_K hK) (zp_D0 hD) (fun _ _ => trivial)⟩ rfl rfl hl.1 rfl (lv_room (Nat.le_of_ble_eq_true rfl)) dX8_crowd_89 ⟨Nat.le_of_ble_eq_true rfl, Nat.le_of_ble_eq_true rfl⟩) hS (fun q _ h => zp_F0 hD hS hA q h) (zp_F0 hD hS hA) (fun r89 u t H locs ht hvm hw hB hz1 hk1 hS1 => zo0 hB ht hP hD hk1 (zp_F0 hD hS hA) hS1 (fun hP hK1 hD hS => ?_))
                  rcases hw with hw | hw
                  · subst hw
                    refine lv_if_ne (tgt := 99) hx hb dX8_crowd_92 (by decide) (fun _ => ?_) (fun c92 => absurd c92 (by decide +kernel))
                    exact (hK0 _ _ _).mp (J99  _ _ _   hP hD hS (lv_sub hl [0, 1, 2, 3, 5] rfl))
                  · subst hw
                    refine lv_if_ne (tgt := 99) hx hb dX8_crowd_92 (by decide) (fun c92 => absurd (by decide +kernel) c92) (fun _ => ?_)
                    refine lv_iconst (v := 1) hx hb dX8_crowd_95 zk_iconst_1 ?_
                    refine lv_goto (tgt := 100) hx hb dX8_crowd_96 (by decide) ?_
                    exact (hK0 _ _ _).mp (J100 1 _ _ _  (Int.le_trans zq4 zq1) zq0 hP hD hS (lv_sub hl [0, 1, 2, 3, 5] rfl))
          exact (hK0 _ _ _).mp (J55 10 0 0 _ _ _ (by first | decide +kernel | (have h1 : (0 : Int) ≤ (0 : Int32).toInt := zq5; have h2 : (0 : Int32).toInt ≤ (0 : Int) := zq6; omega)) zq5 (Int.le_trans zq6 zq7) hP hD hS (lv_sub hl [2, 3, 4, 5, 1, 0] rfl))
    exact (hK0 _ _ _).mp (J38 10 0 (-1) 0 _ _ _ (by first | decide +kernel | (have h1 : (0 : Int) ≤ (0 : Int32).toInt := zq5; have h2 : (0 : Int32).toInt ≤ (0 : Int) := zq6; omega)) zq5 (Int.le_trans zq6 zq7) zq70 zq5 (Int.le_trans zq6 zq20) hP hD hS (lv_sub hl [4, 2, 1, 0] rfl))
end P240_04_safe
