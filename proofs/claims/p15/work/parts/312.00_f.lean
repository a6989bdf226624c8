set_option maxHeartbeats 4000000 in
set_option maxRecDepth 100000 in
theorem f_X8_good (l : Launch) (dC : Nat → ClassId) (dI : Nat → Nat → Nat) (sz : Nat) (a0 : Nat) (a0_0 : Int32) (a0g_1 a0g_2 a0g_3 a0g_4 a0g_5 a0g_6 a0g_7 a0g_8 a0g_9 a0g_10 a0g_12 a0g_13 a0g_14 a0g_15 a0g_16 a0g_17 a0g_18 a0g_19 a0g_20 a0g_21 a0g_22 a0g_23 a0g_24 a0g_25 a0g_26 a0g_27 a0g_28 a0g_29 a0g_30 a0g_31 a0g_32 a0g_33 a0g_34 a0g_35 a0g_36 a0g_37 a0g_38 a0g_39 : Value) (a0_11 : Int32)  : zm l yX8_good wsX8_good ({ frames := 0, cells := 0, slots := 0, locals := 0 }) [.ref a0] dC dI sz [(a0, .inr (8, [Value.int a0_0, a0g_1, a0g_2, a0g_3, a0g_4, a0g_5, a0g_6, a0g_7, a0g_8, a0g_9, a0g_10, Value.int a0_11, a0g_12, a0g_13, a0g_14, a0g_15, a0g_16, a0g_17, a0g_18, a0g_19, a0g_20, a0g_21, a0g_22, a0g_23, a0g_24, a0g_25, a0g_26, a0g_27, a0g_28, a0g_29, a0g_30, a0g_31, a0g_32, a0g_33, a0g_34, a0g_35, a0g_36, a0g_37, a0g_38, a0g_39]))] [] (fun A _ => True) (fun A => va_Qv (fun (_ : Unit) => True) (fun (_ : Unit) (t : State) => ∃ na0_0 : Int32, ∃ na0_11 : Int32, (Ff_X8_good = (na0_0.toInt, na0_11.toInt)) ∧ ax_B dC dI A [(a0, .inr (8, [Value.int na0_0, a0g_1, a0g_2, a0g_3, a0g_4, a0g_5, a0g_6, a0g_7, a0g_8, a0g_9, a0g_10, Value.int na0_11, a0g_12, a0g_13, a0g_14, a0g_15, a0g_16, a0g_17, a0g_18, a0g_19, a0g_20, a0g_21, a0g_22, a0g_23, a0g_24, a0g_25, a0g_26, a0g_27, a0g_28, a0g_29, a0g_30, a0g_31, a0g_32, a0g_33, a0g_34, a0g_35, a0g_36, a0g_37, a0g_38, a0g_39]))] [] t) A) := by
  refine zh (cc := cX8_good) (maxL := 1) (ret := none) zn_RX8 rfl (Nat.le_of_ble_eq_true rfl) (fun p e s m below meth c A ls hx hb hml hr hts (hown : s.vm.findClass RX8 = some m.cls) hlocks hA hS hP hK hD hE (hl : lv_has ls 1 [(0, .ref a0)]) => ?_)
  generalize hFX : Ff_X8_good = FX at ⊢
  have hF0 := hFX.symm.trans (Ff_X8_good.eq_1)
  refine lv_aload_n hx hb dX8_good_0 rfl (lv_at hl 0 rfl) ?_
  refine lv_iconst (v := 0) hx hb dX8_good_1 zk_iconst_0 ?_
  refine va_put (D := (dC, dI)) (ci := 8) (v := .int 0) (ty := .int) (C := RX8) (T := TX8) (N := 40) hx hb hts zi_X8_good_8 tyX8 tyX8_ok nmX8 hown hK hP hD hS 0 rfl rfl 0 (by decide) (hts (.fieldLink RX8 59 "WaxTurnsModel" "thrown" "I") (List.mem_cons_of_mem _ (List.mem_append_left _ (List.mem_of_getElem? (i := 0) rfl)))) (fun _ h9 => h9) rfl (tyX8_ok 0 (by decide)) rfl rfl (Nat.le_of_ble_eq_true rfl) dX8_good_2 (fun H locs hP hD hS => ?_)
  refine zs_0 (y := (a0, .inr (8, [Value.int 0, a0g_1, a0g_2, a0g_3, a0g_4, a0g_5, a0g_6, a0g_7, a0g_8, a0g_9, a0g_10, Value.int a0_11, a0g_12, a0g_13, a0g_14, a0g_15, a0g_16, a0g_17, a0g_18, a0g_19, a0g_20, a0g_21, a0g_22, a0g_23, a0g_24, a0g_25, a0g_26, a0g_27, a0g_28, a0g_29, a0g_30, a0g_31, a0g_32, a0g_33, a0g_34, a0g_35, a0g_36, a0g_37, a0g_38, a0g_39]))) hP hD rfl (fun hP hD => ?_)
  refine lv_aload_n hx hb dX8_good_5 rfl (lv_at hl 0 rfl) ?_
  refine lv_iconst (v := 0) hx hb dX8_good_6 zk_iconst_0 ?_
  refine va_put (D := (dC, dI)) (ci := 8) (v := .int 0) (ty := .int) (C := RX8) (T := TX8) (N := 40) hx hb hts zi_X8_good_8 tyX8 tyX8_ok nmX8 hown hK hP hD hS 0 rfl rfl 11 (by decide) (hts (.fieldLink RX8 62 "WaxTurnsModel" "trouble" "I") (List.mem_cons_of_mem _ (List.mem_append_left _ (List.mem_of_getElem? (i := 1) rfl)))) (fun _ h9 => h9) rfl (tyX8_ok 11 (by decide)) rfl rfl (Nat.le_of_ble_eq_true rfl) dX8_good_7 (fun H locs hP hD hS => ?_)
  refine zs_0 (y := (a0, .inr (8, [Value.int 0, a0g_1, a0g_2, a0g_3, a0g_4, a0g_5, a0g_6, a0g_7, a0g_8, a0g_9, a0g_10, Value.int 0, a0g_12, a0g_13, a0g_14, a0g_15, a0g_16, a0g_17, a0g_18, a0g_19, a0g_20, a0g_21, a0g_22, a0g_23, a0g_24, a0g_25, a0g_26, a0g_27, a0g_28, a0g_29, a0g_30, a0g_31, a0g_32, a0g_33, a0g_34, a0g_35, a0g_36, a0g_37, a0g_38, a0g_39]))) hP hD rfl (fun hP hD => ?_)
  have hFe : FX = (0, 0) := hF0
  exact W.vret hx hb hr (fun t ht hW => ⟨⟨(), rfl, trivial, 0, 0, hFe, by rw [ht]; exact hP, va_K.moved hW.alike hK, hD⟩, hS.F ht⟩) hS.2.2 dX8_good_10

set_option maxHeartbeats 4000000 in
set_option maxRecDepth 100000 in
theorem f_X8_no (l : Launch) (dC : Nat → ClassId) (dI : Nat → Nat → Nat) (sz : Nat) (a0 : Nat) (a1 : Int32) (a0g_0 a0g_1 a0g_2 a0g_3 a0g_4 a0g_5 a0g_6 a0g_7 a0g_8 a0g_9 a0g_10 a0g_12 a0g_13 a0g_14 a0g_15 a0g_16 a0g_17 a0g_18 a0g_19 a0g_20 a0g_21 a0g_22 a0g_23 a0g_24 a0g_25 a0g_26 a0g_27 a0g_28 a0g_29 a0g_30 a0g_31 a0g_32 a0g_33 a0g_34 a0g_35 a0g_36 a0g_37 a0g_38 a0g_39 : Value) (a0_11 : Int32)  : zm l yX8_no wsX8_no ({ frames := 0, cells := 0, slots := 0, locals := 0 }) [.ref a0, .int a1] dC dI sz [(a0, .inr (8, [a0g_0, a0g_1, a0g_2, a0g_3, a0g_4, a0g_5, a0g_6, a0g_7, a0g_8, a0g_9, a0g_10, Value.int a0_11, a0g_12, a0g_13, a0g_14, a0g_15, a0g_16, a0g_17, a0g_18, a0g_19, a0g_20, a0g_21, a0g_22, a0g_23, a0g_24, a0g_25, a0g_26, a0g_27, a0g_28, a0g_29, a0g_30, a0g_31, a0g_32, a0g_33, a0g_34, a0g_35, a0g_36, a0g_37, a0g_38, a0g_39]))] [] (fun A _ => True) (fun A => va_Qi (fun (r : Int32) (_ : Unit) => (r = (-1)) ∧ r.toInt = (Ff_X8_no a1.toInt).1) (fun (_ : Unit) (t : State) => ∃ na0_11 : Int32, ((Ff_X8_no a1.toInt).2 = na0_11.toInt) ∧ ax_B dC dI A [(a0, .inr (8, [a0g_0, a0g_1, a0g_2, a0g_3, a0g_4, a0g_5, a0g_6, a0g_7, a0g_8, a0g_9, a0g_10, Value.int na0_11, a0g_12, a0g_13, a0g_14, a0g_15, a0g_16, a0g_17, a0g_18, a0g_19, a0g_20, a0g_21, a0g_22, a0g_23, a0g_24, a0g_25, a0g_26, a0g_27, a0g_28, a0g_29, a0g_30, a0g_31, a0g_32, a0g_33, a0g_34, a0g_35, a0g_36, a0g_37, a0g_38, a0g_39]))] [] t) A) := by
  refine zh (cc := cX8_no) (maxL := 2) (ret := (some .int)) zn_RX8 rfl (Nat.le_of_ble_eq_true rfl) (fun p e s m below meth c A ls hx hb hml hr hts (hown : s.vm.findClass RX8 = some m.cls) hlocks hA hS hP hK hD hE (hl : lv_has ls 2 [(0, .ref a0), (1, .int a1)]) => ?_)
  generalize hFX : Ff_X8_no a1.toInt = FX at ⊢
  have hF0 := hFX.symm.trans (Ff_X8_no.eq_1 a1.toInt)
  refine lv_aload_n hx hb dX8_no_0 rfl (lv_at hl 0 rfl) ?_
  refine lv_iload_n hx hb dX8_no_1 rfl (lv_at hl 1 rfl) ?_
  refine va_put (D := (dC, dI)) (ci := 8) (v := .int a1) (ty := .int) (C := RX8) (T := TX8) (N := 40) hx hb hts zi_X8_no_8 tyX8 tyX8_ok nmX8 hown hK hP hD hS 0 rfl rfl 11 (by decide) (hts (.fieldLink RX8 62 "WaxTurnsModel" "trouble" "I") (List.mem_cons_of_mem _ (List.mem_append_left _ (List.mem_of_getElem? (i := 0) rfl)))) (fun _ h9 => h9) rfl (tyX8_ok 11 (by decide)) rfl rfl (Nat.le_of_ble_eq_true rfl) dX8_no_2 (fun H locs hP hD hS => ?_)
  refine zs_0 (y := (a0, .inr (8, [a0g_0, a0g_1, a0g_2, a0g_3, a0g_4, a0g_5, a0g_6, a0g_7, a0g_8, a0g_9, a0g_10, Value.int a1, a0g_12, a0g_13, a0g_14, a0g_15, a0g_16, a0g_17, a0g_18, a0g_19, a0g_20, a0g_21, a0g_22, a0g_23, a0g_24, a0g_25, a0g_26, a0g_27, a0g_28, a0g_29, a0g_30, a0g_31, a0g_32, a0g_33, a0g_34, a0g_35, a0g_36, a0g_37, a0g_38, a0g_39]))) hP hD rfl (fun hP hD => ?_)
  refine lv_iconst (v := (-1)) hx hb dX8_no_5 zk_iconst_n1 ?_
  have hFe : FX = ((-1), a1.toInt) := hF0
  exact W.iret (v := (-1)) hx hb hr (fun t ht hW => ⟨⟨(-1), (), rfl, ⟨rfl, (congrArg Prod.fst hFe).symm⟩, a1, (congrArg Prod.snd hFe), by rw [ht]; exact hP, va_K.moved hW.alike hK, hD⟩, hS.F ht⟩) hS.2.2 dX8_no_6

set_option maxHeartbeats 4000000 in
set_option maxRecDepth 100000 in
theorem f_X8_isNot (l : Launch) (dC : Nat → ClassId) (dI : Nat → Nat → Nat) (sz : Nat) (a0 : Nat) (a1 : Int32) (a0g_0 a0g_1 a0g_2 a0g_3 a0g_4 a0g_5 a0g_6 a0g_7 a0g_8 a0g_9 a0g_10 a0g_12 a0g_13 a0g_14 a0g_15 a0g_16 a0g_17 a0g_18 a0g_19 a0g_20 a0g_21 a0g_22 a0g_23 a0g_24 a0g_25 a0g_26 a0g_27 a0g_28 a0g_29 a0g_30 a0g_31 a0g_32 a0g_33 a0g_34 a0g_35 a0g_36 a0g_37 a0g_38 a0g_39 : Value) (a0_11 : Int32)  : zm l yX8_isNot wsX8_isNot ({ frames := 0, cells := 0, slots := 0, locals := 0 }) [.ref a0, .int a1] dC dI sz [(a0, .inr (8, [a0g_0, a0g_1, a0g_2, a0g_3, a0g_4, a0g_5, a0g_6, a0g_7, a0g_8, a0g_9, a0g_10, Value.int a0_11, a0g_12, a0g_13, a0g_14, a0g_15, a0g_16, a0g_17, a0g_18, a0g_19, a0g_20, a0g_21, a0g_22, a0g_23, a0g_24, a0g_25, a0g_26, a0g_27, a0g_28, a0g_29, a0g_30, a0g_31, a0g_32, a0g_33, a0g_34, a0g_35, a0g_36, a0g_37, a0g_38, a0g_39]))] [] (fun A _ => True) (fun A => va_Qi (fun (r : Int32) (_ : Unit) => (r = 0) ∧ r.toInt = (Ff_X8_isNot a1.toInt).1) (fun (_ : Unit) (t : State) => ∃ na0_11 : Int32, ((Ff_X8_isNot a1.toInt).2 = na0_11.toInt) ∧ ax_B dC dI A [(a0, .inr (8, [a0g_0, a0g_1, a0g_2, a0g_3, a0g_4, a0g_5, a0g_6, a0g_7, a0g_8, a0g_9, a0g_10, Value.int na0_11, a0g_12, a0g_13, a0g_14, a0g_15, a0g_16, a0g_17, a0g_18, a0g_19, a0g_20, a0g_21, a0g_22, a0g_23, a0g_24, a0g_25, a0g_26, a0g_27, a0g_28, a0g_29, a0g_30, a0g_31, a0g_32, a0g_33, a0g_34, a0g_35, a0g_36, a0g_37, a0g_38, a0g_39]))] [] t) A) := by
  refine zh (cc := cX8_isNot) (maxL := 2) (ret := (some .boolean)) zn_RX8 rfl (Nat.le_of_ble_eq_true rfl) (fun p e s m below meth c A ls hx hb hml hr hts (hown : s.vm.findClass RX8 = some m.cls) hlocks hA hS hP hK hD hE (hl : lv_has ls 2 [(0, .ref a0), (1, .int a1)]) => ?_)
  generalize hFX : Ff_X8_isNot a1.toInt = FX at ⊢
  have hF0 := hFX.symm.trans (Ff_X8_isNot.eq_1 a1.toInt)
  refine lv_aload_n hx hb dX8_isNot_0 rfl (lv_at hl 0 rfl) ?_
  refine lv_iload_n hx hb dX8_isNot_1 rfl (lv_at hl 1 rfl) ?_
  refine va_put (D := (dC, dI)) (ci := 8) (v := .int a1) (ty := .int) (C := RX8) (T := TX8) (N := 40) hx hb hts zi_X8_isNot_8 tyX8 tyX8_ok nmX8 hown hK hP hD hS 0 rfl rfl 11 (by decide) (hts (.fieldLink RX8 62 "WaxTurnsModel" "trouble" "I") (List.mem_cons_of_mem _ (List.mem_append_left _ (List.mem_of_getElem? (i := 0) rfl)))) (fun _ h9 => h9) rfl (tyX8_ok 11 (by decide)) rfl rfl (Nat.le_of_ble_eq_true rfl) dX8_isNot_2 (fun H locs hP hD hS => ?_)
  refine zs_0 (y := (a0, .inr (8, [a0g_0, a0g_1, a0g_2, a0g_3, a0g_4, a0g_5, a0g_6, a0g_7, a0g_8, a0g_9, a0g_10, Value.int a1, a0g_12, a0g_13, a0g_14, a0g_15, a0g_16, a0g_17, a0g_18, a0g_19, a0g_20, a0g_21, a0g_22, a0g_23, a0g_24, a0g_25, a0g_26, a0g_27, a0g_28, a0g_29, a0g_30, a0g_31, a0g_32, a0g_33, a0g_34, a0g_35, a0g_36, a0g_37, a0g_38, a0g_39]))) hP hD rfl (fun hP hD => ?_)
  refine lv_iconst (v := 0) hx hb dX8_isNot_5 zk_iconst_0 ?_
  have hFe : FX = (0, a1.toInt) := hF0
  exact W.zret (v := 0) hx hb hr rfl (fun t ht hW => ⟨⟨0, (), rfl, ⟨rfl, (congrArg Prod.fst hFe).symm⟩, a1, (congrArg Prod.snd hFe), by rw [ht]; exact hP, va_K.moved hW.alike hK, hD⟩, hS.F ht⟩) hS.2.2 dX8_isNot_6

set_option maxHeartbeats 4000000 in
set_option maxRecDepth 100000 in
theorem f_X8_in (l : Launch) (dC : Nat → ClassId) (dI : Nat → Nat → Nat) (sz : Nat) (a1 : Int32) (a2 : Int32) (a3 : Int32)  : zm l yX8_in wsX8_in ({ frames := 0, cells := 0, slots := 0, locals := 0 }) [.int a1, .int a2, .int a3] dC dI sz [] [] (fun A _ => True) (fun A => va_Qi (fun (r : Int32) (_ : Unit) => ((r = 1 ∧ a2.toInt ≤ a1.toInt ∧ a1.toInt ≤ a3.toInt) ∨ (r = 0 ∧ (a1.toInt < a2.toInt ∨ a3.toInt < a1.toInt))) ∧ r.toInt = Ff_X8_in a1.toInt a2.toInt a3.toInt) (fun (_ : Unit) (t : State) => ax_B dC dI A [] [] t) A) := by
  refine zh (cc := cX8_in) (maxL := 3) (ret := (some .boolean)) zn_RX8 rfl (Nat.le_of_ble_eq_true rfl) (fun p e s m below meth c A ls hx hb hml hr hts (hown : s.vm.findClass RX8 = some m.cls) hlocks hA hS hP hK hD hE (hl : lv_has ls 3 [(0, .int a1), (1, .int a2), (2, .int a3)]) => ?_)
  generalize hFX : Ff_X8_in a1.toInt a2.toInt a3.toInt = FX at ⊢
  have hF0 := hFX.symm.trans (Ff_X8_in.eq_1 a1.toInt a2.toInt a3.toInt)
  refine lv_iload_n hx hb dX8_in_0 rfl (lv_at hl 0 rfl) ?_
  refine lv_iload_n hx hb dX8_in_1 rfl (lv_at hl 1 rfl) ?_
  refine lv_icmp_lt (tgt := 14) hx hb dX8_in_2 (by decide) (fun c2 => ?_) (fun c2 => ?_)
  · have gc2 := ai_lt c2
    have u2t_a1 : a1.toInt ≤ (2147483646 : Int) := ai_lthi gc2 (ai_max a2)
    have l2t_a2 : (-2147483647 : Int) ≤ a2.toInt := ai_ltlo gc2 (ai_min a1)
    have hF0 := hF0.trans (if_pos (show a1.toInt < a2.toInt from gc2))
    refine lv_iconst (v := 0) hx hb dX8_in_14 zk_iconst_0 ?_
    have hFe : FX = 0 := hF0
    exact W.zret (v := 0) hx hb hr rfl (fun t ht hW => ⟨⟨0, (), rfl, ⟨(Or.inr ⟨rfl, Or.inl gc2⟩), hFe.symm⟩, by rw [ht]; exact hP, va_K.moved hW.alike hK, hD⟩, hS.F ht⟩) hS.2.2 dX8_in_15
  · have gc2 := ai_nlt c2
    have hF0 := hF0.trans (if_neg (show ¬ (a1.toInt < a2.toInt) from Int.not_lt.mpr gc2))
    refine lv_iload_n hx hb dX8_in_5 rfl (lv_at hl 0 rfl) ?_
    refine lv_iload_n hx hb dX8_in_6 rfl (lv_at hl 2 rfl) ?_
    refine lv_icmp_gt (tgt := 14) hx hb dX8_in_7 (by decide) (fun c7 => ?_) (fun c7 => ?_)
    · have gc7 := ai_lt c7
      have u7t_a3 : a3.toInt ≤ (2147483646 : Int) := ai_lthi gc7 (ai_max a1)
      have l7t_a1 : (-2147483647 : Int) ≤ a1.toInt := ai_ltlo gc7 (ai_min a3)
      have hF0 := hF0.trans (if_pos (show a3.toInt < a1.toInt from gc7))
      refine lv_iconst (v := 0) hx hb dX8_in_14 zk_iconst_0 ?_
      have hFe : FX = 0 := hF0
      exact W.zret (v := 0) hx hb hr rfl (fun t ht hW => ⟨⟨0, (), rfl, ⟨(Or.inr ⟨rfl, Or.inr gc7⟩), hFe.symm⟩, by rw [ht]; exact hP, va_K.moved hW.alike hK, hD⟩, hS.F ht⟩) hS.2.2 dX8_in_15
    · have gc7 := ai_nlt c7
      have hF0 := hF0.trans (if_neg (show ¬ (a3.toInt < a1.toInt) from Int.not_lt.mpr gc7))
      refine lv_iconst (v := 1) hx hb dX8_in_10 zk_iconst_1 ?_
      refine lv_goto (tgt := 15) hx hb dX8_in_11 (by decide) ?_
      have hFe : FX = 1 := hF0
      exact W.zret (v := 1) hx hb hr rfl (fun t ht hW => ⟨⟨1, (), rfl, ⟨(Or.inl ⟨rfl, gc2, gc7⟩), hFe.symm⟩, by rw [ht]; exact hP, va_K.moved hW.alike hK, hD⟩, hS.F ht⟩) hS.2.2 dX8_in_15

set_option maxHeartbeats 4000000 in
set_option maxRecDepth 100000 in
theorem f_X8_isSmall (l : Launch) (dC : Nat → ClassId) (dI : Nat → Nat → Nat) (sz : Nat) (a1 : Int32)  : zm l yX8_isSmall wsX8_isSmall ({ frames := 0, cells := 0, slots := 0, locals := 0 }) [.int a1] dC dI sz [] [] (fun A _ => True) (fun A => va_Qi (fun (r : Int32) (_ : Unit) => ((r = 1 ∧ (97 : Int) ≤ a1.toInt ∧ a1.toInt ≤ (122 : Int)) ∨ (r = 0)) ∧ r.toInt = Ff_X8_isSmall a1.toInt) (fun (_ : Unit) (t : State) => ax_B dC dI A [] [] t) A) := by
  refine zh (cc := cX8_isSmall) (maxL := 1) (ret := (some .boolean)) zn_RX8 rfl (Nat.le_of_ble_eq_true rfl) (fun p e s m below meth c A ls hx hb hml hr hts (hown : s.vm.findClass RX8 = some m.cls) hlocks hA hS hP hK hD hE (hl : lv_has ls 1 [(0, .int a1)]) => ?_)
  generalize hFX : Ff_X8_isSmall a1.toInt = FX at ⊢
  have hF0 := hFX.symm.trans (Ff_X8_isSmall.eq_1 a1.toInt)
  refine lv_iload_n hx hb dX8_isSmall_0 rfl (lv_at hl 0 rfl) ?_
  refine lv_bipush (v := 97) hx hb dX8_isSmall_1 zk_bipush_97 ?_
  refine lv_icmp_lt (tgt := 16) hx hb dX8_isSmall_3 (by decide) (fun c3 => ?_) (fun c3 => ?_)
  · have gc3 := ai_lt c3
    have u3t_a1 : a1.toInt ≤ (96 : Int) := ai_lthi gc3 zq136
    have hF0 := hF0.trans (if_pos (show a1.toInt < 97 from gc3))
    refine lv_iconst (v := 0) hx hb dX8_isSmall_16 zk_iconst_0 ?_
    have hFe : FX = 0 := hF0
    exact W.zret (v := 0) hx hb hr rfl (fun t ht hW => ⟨⟨0, (), rfl, ⟨(Or.inr (rfl)), hFe.symm⟩, by rw [ht]; exact hP, va_K.moved hW.alike hK, hD⟩, hS.F ht⟩) hS.2.2 dX8_isSmall_17
  · have gc3 := ai_nlt c3
    have l3f_a1 : (97 : Int) ≤ a1.toInt := Int.le_trans zq137 gc3
    have hF0 := hF0.trans (if_neg (show ¬ (a1.toInt < 97) from Int.not_lt.mpr gc3))
    refine lv_iload_n hx hb dX8_isSmall_6 rfl (lv_at hl 0 rfl) ?_
    refine lv_bipush (v := 122) hx hb dX8_isSmall_7 zk_bipush_122 ?_
    refine lv_icmp_gt (tgt := 16) hx hb dX8_isSmall_9 (by decide) (fun c9 => ?_) (fun c9 => ?_)
    · have gc9 := ai_lt c9
      have l9t_a1 : (123 : Int) ≤ a1.toInt := ai_ltlo gc9 zq138
      have hF0 := hF0.trans (if_pos (show 122 < a1.toInt from gc9))
      refine lv_iconst (v := 0) hx hb dX8_isSmall_16 zk_iconst_0 ?_
      have hFe : FX = 0 := hF0
      exact W.zret (v := 0) hx hb hr rfl (fun t ht hW => ⟨⟨0, (), rfl, ⟨(Or.inr (rfl)), hFe.symm⟩, by rw [ht]; exact hP, va_K.moved hW.alike hK, hD⟩, hS.F ht⟩) hS.2.2 dX8_isSmall_17
    · have gc9 := ai_nlt c9
      have u9f_a1 : a1.toInt ≤ (122 : Int) := Int.le_trans gc9 zq139
      have hF0 := hF0.trans (if_neg (show ¬ (122 < a1.toInt) from Int.not_lt.mpr gc9))
      refine lv_iconst (v := 1) hx hb dX8_isSmall_12 zk_iconst_1 ?_
      refine lv_goto (tgt := 17) hx hb dX8_isSmall_13 (by decide) ?_
      have hFe : FX = 1 := hF0
      exact W.zret (v := 1) hx hb hr rfl (fun t ht hW => ⟨⟨1, (), rfl, ⟨(Or.inl ⟨rfl, l3f_a1, u9f_a1⟩), hFe.symm⟩, by rw [ht]; exact hP, va_K.moved hW.alike hK, hD⟩, hS.F ht⟩) hS.2.2 dX8_isSmall_17

set_option maxHeartbeats 4000000 in
set_option maxRecDepth 100000 in
theorem f_X8_isDigit (l : Launch) (dC : Nat → ClassId) (dI : Nat → Nat → Nat) (sz : Nat) (a1 : Int32)  : zm l yX8_isDigit wsX8_isDigit ({ frames := 0, cells := 0, slots := 0, locals := 0 }) [.int a1] dC dI sz [] [] (fun A _ => True) (fun A => va_Qi (fun (r : Int32) (_ : Unit) => ((r = 1 ∧ (48 : Int) ≤ a1.toInt ∧ a1.toInt ≤ (57 : Int)) ∨ (r = 0)) ∧ r.toInt = Ff_X8_isDigit a1.toInt) (fun (_ : Unit) (t : State) => ax_B dC dI A [] [] t) A) := by
  refine zh (cc := cX8_isDigit) (maxL := 1) (ret := (some .boolean)) zn_RX8 rfl (Nat.le_of_ble_eq_true rfl) (fun p e s m below meth c A ls hx hb hml hr hts (hown : s.vm.findClass RX8 = some m.cls) hlocks hA hS hP hK hD hE (hl : lv_has ls 1 [(0, .int a1)]) => ?_)
  generalize hFX : Ff_X8_isDigit a1.toInt = FX at ⊢
  have hF0 := hFX.symm.trans (Ff_X8_isDigit.eq_1 a1.toInt)
  refine lv_iload_n hx hb dX8_isDigit_0 rfl (lv_at hl 0 rfl) ?_
  refine lv_bipush (v := 48) hx hb dX8_isDigit_1 zk_bipush_48 ?_
  refine lv_icmp_lt (tgt := 16) hx hb dX8_isDigit_3 (by decide) (fun c3 => ?_) (fun c3 => ?_)
  · have gc3 := ai_lt c3
    have u3t_a1 : a1.toInt ≤ (47 : Int) := ai_lthi gc3 zq141
    have hF0 := hF0.trans (if_pos (show a1.toInt < 48 from gc3))
    refine lv_iconst (v := 0) hx hb dX8_isDigit_16 zk_iconst_0 ?_
    have hFe : FX = 0 := hF0
    exact W.zret (v := 0) hx hb hr rfl (fun t ht hW => ⟨⟨0, (), rfl, ⟨(Or.inr (rfl)), hFe.symm⟩, by rw [ht]; exact hP, va_K.moved hW.alike hK, hD⟩, hS.F ht⟩) hS.2.2 dX8_isDigit_17
  · have gc3 := ai_nlt c3
    have l3f_a1 : (48 : Int) ≤ a1.toInt := Int.le_trans zq142 gc3
    have hF0 := hF0.trans (if_neg (show ¬ (a1.toInt < 48) from Int.not_lt.mpr gc3))
    refine lv_iload_n hx hb dX8_isDigit_6 rfl (lv_at hl 0 rfl) ?_
    refine lv_bipush (v := 57) hx hb dX8_isDigit_7 zk_bipush_57 ?_
    refine lv_icmp_gt (tgt := 16) hx hb dX8_isDigit_9 (by decide) (fun c9 => ?_) (fun c9 => ?_)
    · have gc9 := ai_lt c9
      have l9t_a1 : (58 : Int) ≤ a1.toInt := ai_ltlo gc9 zq143
      have hF0 := hF0.trans (if_pos (show 57 < a1.toInt from gc9))
      refine lv_iconst (v := 0) hx hb dX8_isDigit_16 zk_iconst_0 ?_
      have hFe : FX = 0 := hF0
      exact W.zret (v := 0) hx hb hr rfl (fun t ht hW => ⟨⟨0, (), rfl, ⟨(Or.inr (rfl)), hFe.symm⟩, by rw [ht]; exact hP, va_K.moved hW.alike hK, hD⟩, hS.F ht⟩) hS.2.2 dX8_isDigit_17
    · have gc9 := ai_nlt c9
      have u9f_a1 : a1.toInt ≤ (57 : Int) := Int.le_trans gc9 zq144
      have hF0 := hF0.trans (if_neg (show ¬ (57 < a1.toInt) from Int.not_lt.mpr gc9))
      refine lv_iconst (v := 1) hx hb dX8_isDigit_12 zk_iconst_1 ?_
      refine lv_goto (tgt := 17) hx hb dX8_isDigit_13 (by decide) ?_
      have hFe : FX = 1 := hF0
      exact W.zret (v := 1) hx hb hr rfl (fun t ht hW => ⟨⟨1, (), rfl, ⟨(Or.inl ⟨rfl, l3f_a1, u9f_a1⟩), hFe.symm⟩, by rw [ht]; exact hP, va_K.moved hW.alike hK, hD⟩, hS.F ht⟩) hS.2.2 dX8_isDigit_17

set_option maxHeartbeats 4000000 in
set_option maxRecDepth 100000 in
theorem f_X8_see (l : Launch) (dC : Nat → ClassId) (dI : Nat → Nat → Nat) (sz : Nat) (a0 : Nat) (a1 : Int32) (a0g_0 a0g_2 a0g_4 a0g_5 a0g_6 a0g_7 a0g_8 a0g_9 a0g_10 a0g_11 a0g_12 a0g_13 a0g_14 a0g_15 a0g_16 a0g_17 a0g_18 a0g_19 a0g_20 a0g_21 a0g_22 a0g_23 a0g_24 a0g_25 a0g_26 a0g_27 a0g_28 a0g_29 a0g_30 a0g_31 a0g_32 a0g_33 a0g_34 a0g_35 a0g_36 a0g_37 a0g_38 a0g_39 : Value) (a0_1 : Nat) (a0_3 : Int32) (ka0_1 : ClassId) (fa0_1 : Nat → Int32) (ba1_l : (0 : Int) ≤ a1.toInt) (ba1_u : a1.toInt ≤ (900 : Int)) (ba0_3_l : (0 : Int) ≤ a0_3.toInt) (ba0_3_u : a0_3.toInt ≤ (900 : Int)) : zm l yX8_see wsX8_see ({ frames := 0, cells := 0, slots := 0, locals := 0 }) [.ref a0, .int a1] dC dI sz [(a0, .inr (8, [a0g_0, Value.ref a0_1, a0g_2, Value.int a0_3, a0g_4, a0g_5, a0g_6, a0g_7, a0g_8, a0g_9, a0g_10, a0g_11, a0g_12, a0g_13, a0g_14, a0g_15, a0g_16, a0g_17, a0g_18, a0g_19, a0g_20, a0g_21, a0g_22, a0g_23, a0g_24, a0g_25, a0g_26, a0g_27, a0g_28, a0g_29, a0g_30, a0g_31, a0g_32, a0g_33, a0g_34, a0g_35, a0g_36, a0g_37, a0g_38, a0g_39])), (a0_1, .inl (ka0_1, 900, .inl (fa0_1)))] [(ka0_1, .int)] (fun A _ => True) (fun A => va_Qi (fun (r : Int32) (_ : Unit) => ((r = (-1) ∧ a0_3.toInt ≤ a1.toInt) ∨ (a1.toInt < a0_3.toInt)) ∧ r.toInt = Ff_X8_see a1.toInt a0_3.toInt (fl_A fa0_1)) (fun (_ : Unit) (t : State) => ax_B dC dI A [(a0, .inr (8, [a0g_0, Value.ref a0_1, a0g_2, Value.int a0_3, a0g_4, a0g_5, a0g_6, a0g_7, a0g_8, a0g_9, a0g_10, a0g_11, a0g_12, a0g_13, a0g_14, a0g_15, a0g_16, a0g_17, a0g_18, a0g_19, a0g_20, a0g_21, a0g_22, a0g_23, a0g_24, a0g_25, a0g_26, a0g_27, a0g_28, a0g_29, a0g_30, a0g_31, a0g_32, a0g_33, a0g_34, a0g_35, a0g_36, a0g_37, a0g_38, a0g_39])), (a0_1, .inl (ka0_1, 900, .inl (fa0_1)))] [(ka0_1, .int)] t) A) := by
  refine zh (cc := cX8_see) (maxL := 2) (ret := (some .int)) zn_RX8 rfl (Nat.le_of_ble_eq_true rfl) (fun p e s m below meth c A ls hx hb hml hr hts (hown : s.vm.findClass RX8 = some m.cls) hlocks hA hS hP hK hD hE (hl : lv_has ls 2 [(0, .ref a0), (1, .int a1)]) => ?_)
  generalize hFX : Ff_X8_see a1.toInt a0_3.toInt (fl_A fa0_1) = FX at ⊢
  have hF0 := hFX.symm.trans (Ff_X8_see.eq_1 a1.toInt a0_3.toInt (fl_A fa0_1))
  refine lv_iload_n hx hb dX8_see_0 rfl (lv_at hl 1 rfl) ?_
  refine lv_aload_n hx hb dX8_see_1 rfl (lv_at hl 0 rfl) ?_
  refine va_get (D := (dC, dI)) (ci := 8) (v := .int a0_3) (C := RX8) (T := TX8) (N := 40) hx hb hts zi_X8_see_8 hown hK hP 0 rfl rfl 3 (by decide) (hts (.fieldLink RX8 68 "WaxTurnsModel" "size" "I") (List.mem_cons_of_mem _ (List.mem_append_left _ (List.mem_of_getElem? (i := 0) rfl)))) (fun _ h9 => h9) rfl dX8_see_2 ?_
  refine lv_icmp_ge (tgt := 17) hx hb dX8_see_5 (by decide) (fun c5 => ?_) (fun c5 => ?_)
  · have gc5 := ai_le c5
    have u5t_a0_3 : a0_3.toInt ≤ (900 : Int) := ba0_3_u
    have l5t_a1 : (0 : Int) ≤ a1.toInt := ba1_l
    have hF0 := hF0.trans (if_pos (show a0_3.toInt ≤ a1.toInt from gc5))
    refine lv_iconst (v := (-1)) hx hb dX8_see_17 zk_iconst_n1 ?_
    have hFe : FX = (-1) := hF0
    exact W.iret (v := (-1)) hx hb hr (fun t ht hW => ⟨⟨(-1), (), rfl, ⟨(Or.inl ⟨rfl, by omega⟩), hFe.symm⟩, by rw [ht]; exact hP, va_K.moved hW.alike hK, hD⟩, hS.F ht⟩) hS.2.2 dX8_see_18
  · have gc5 := ai_nle c5
    have u5f_a1 : a1.toInt ≤ (899 : Int) := ai_lthi gc5 ba0_3_u
    have l5f_a0_3 : (1 : Int) ≤ a0_3.toInt := ai_ltlo gc5 ba1_l
    have hF0 := hF0.trans (if_neg (show ¬ (a0_3.toInt ≤ a1.toInt) from Int.not_le.mpr gc5))
    refine lv_aload_n hx hb dX8_see_8 rfl (lv_at hl 0 rfl) ?_
    refine va_get (D := (dC, dI)) (ci := 8) (v := .ref a0_1) (C := RX8) (T := TX8) (N := 40) hx hb hts zi_X8_see_8 hown hK hP 0 rfl rfl 1 (by decide) (hts (.fieldLink RX8 7 "WaxTurnsModel" "tape" "[I") (List.mem_cons_of_mem _ (List.mem_append_left _ (List.mem_of_getElem? (i := 1) rfl)))) (fun _ h9 => h9) rfl dX8_see_9 ?_
    refine lv_iload_n hx hb dX8_see_12 rfl (lv_at hl 1 rfl) ?_
    refine va_iald hx hb hK hP 1 0 rfl rfl (ai_in ba1_l u5f_a1 (by decide) (by decide)) dX8_see_13 ?_
    refine lv_topi (fun x13 ex13 => ?_)
    have fqx13 := congrArg Int32.toInt ex13
    have hF0 := hF0.trans (fl_lt_eq (show x13.toInt = (fl_A fa0_1) (a1.toInt.toNat) from fqx13))
    refine lv_goto (tgt := 18) hx hb dX8_see_14 (by decide) ?_
    have hFe : FX = x13.toInt := hF0
    exact W.iret (v := x13) hx hb hr (fun t ht hW => ⟨⟨x13, (), rfl, ⟨(Or.inr (by omega)), hFe.symm⟩, by rw [ht]; exact hP, va_K.moved hW.alike hK, hD⟩, hS.F ht⟩) hS.2.2 dX8_see_18

set_option maxHeartbeats 4000000 in
set_option maxRecDepth 100000 in
theorem f_X8_next (l : Launch) (dC : Nat → ClassId) (dI : Nat → Nat → Nat) (sz : Nat) (a0 : Nat) (a0g_0 a0g_2 a0g_9 a0g_10 a0g_11 a0g_13 a0g_14 a0g_15 a0g_16 a0g_17 a0g_18 a0g_19 a0g_20 a0g_21 a0g_22 a0g_23 a0g_24 a0g_25 a0g_26 a0g_27 a0g_28 a0g_29 a0g_30 a0g_31 a0g_32 a0g_33 a0g_34 a0g_35 a0g_36 a0g_37 a0g_38 a0g_39 : Value) (a0_1 : Nat) (a0_3 : Int32) (a0_4 : Int32) (a0_5 : Int32) (a0_6 : Int32) (a0_7 : Int32) (a0_8 : Int32) (a0_12 : Nat) (ka0_1 : ClassId) (fa0_1 : Nat → Int32) (ka0_12 : ClassId) (fa0_12 : Nat → Int32) (ba0_3_l : (0 : Int) ≤ a0_3.toInt) (ba0_3_u : a0_3.toInt ≤ (900 : Int)) (ba0_5_l : (0 : Int) ≤ a0_5.toInt) (ba0_5_u : a0_5.toInt ≤ (900 : Int)) (ba0_8_l : (0 : Int) ≤ a0_8.toInt) (ba0_8_u : a0_8.toInt ≤ (900 : Int)) : zm l yX8_next wsX8_next ({ frames := 1, cells := 0, slots := 0, locals := 21 }) [.ref a0] dC dI sz [(a0, .inr (8, [a0g_0, Value.ref a0_1, a0g_2, Value.int a0_3, Value.int a0_4, Value.int a0_5, Value.int a0_6, Value.int a0_7, Value.int a0_8, a0g_9, a0g_10, a0g_11, Value.ref a0_12, a0g_13, a0g_14, a0g_15, a0g_16, a0g_17, a0g_18, a0g_19, a0g_20, a0g_21, a0g_22, a0g_23, a0g_24, a0g_25, a0g_26, a0g_27, a0g_28, a0g_29, a0g_30, a0g_31, a0g_32, a0g_33, a0g_34, a0g_35, a0g_36, a0g_37, a0g_38, a0g_39])), (a0_1, .inl (ka0_1, 900, .inl (fa0_1))), (a0_12, .inl (ka0_12, 8, .inl (fa0_12)))] [(ka0_1, .int), (ka0_12, .int)] (fun A _ => True) (fun A => va_Qv (fun (_ : Unit) => True) (fun (_ : Unit) (t : State) => ∃ na0_4 : Int32, ∃ na0_5 : Int32, ∃ na0_6 : Int32, ∃ na0_7 : Int32, ∃ na0_8 : Int32, ∃ nfa0_12 : Nat → Int32, ((0 : Int) ≤ na0_5.toInt ∧ na0_5.toInt ≤ 900) ∧ ((0 : Int) ≤ na0_8.toInt ∧ na0_8.toInt ≤ 900) ∧ (na0_6.toInt = 2 → na0_8.toInt ≤ 8) ∧ (a0_5.toInt ≤ na0_5.toInt ∧ (na0_6.toInt ≠ 59 ∨ a0_5.toInt < na0_5.toInt)) ∧ (Ff_X8_next a0_3.toInt a0_5.toInt (fl_A fa0_1) (fl_A fa0_12) = (na0_4.toInt, na0_5.toInt, na0_6.toInt, na0_7.toInt, na0_8.toInt, (fl_A nfa0_12))) ∧ ax_B dC dI A [(a0, .inr (8, [a0g_0, Value.ref a0_1, a0g_2, Value.int a0_3, Value.int na0_4, Value.int na0_5, Value.int na0_6, Value.int na0_7, Value.int na0_8, a0g_9, a0g_10, a0g_11, Value.ref a0_12, a0g_13, a0g_14, a0g_15, a0g_16, a0g_17, a0g_18, a0g_19, a0g_20, a0g_21, a0g_22, a0g_23, a0g_24, a0g_25, a0g_26, a0g_27, a0g_28, a0g_29, a0g_30, a0g_31, a0g_32, a0g_33, a0g_34, a0g_35, a0g_36, a0g_37, a0g_38, a0g_39])), (a0_1, .inl (ka0_1, 900, .inl (fa0_1))), (a0_12, .inl (ka0_12, 8, .inl (nfa0_12)))] [(ka0_1, .int), (ka0_12, .int)] t) A) := by
  refine zh (cc := cX8_next) (maxL := 4) (ret := none) zn_RX8 rfl (Nat.le_of_ble_eq_true rfl) (fun p e s m below meth c A ls hx hb hml hr hts (hown : s.vm.findClass RX8 = some m.cls) hlocks hA hS hP hK hD hE (hl : lv_has ls 4 [(0, .ref a0)]) => ?_)
  generalize hFX : Ff_X8_next a0_3.toInt a0_5.toInt (fl_A fa0_1) (fl_A fa0_12) = FX at ⊢
  have hF0 := hFX.symm.trans (Ff_X8_next.eq_1 a0_3.toInt a0_5.toInt (fl_A fa0_1) (fl_A fa0_12))
  refine ai_open (fun K hK0 => ?_)
  refine (hK0 _ _ _).mpr ?_
  refine lv_aload_n hx hb dX8_next_0 rfl (lv_at hl 0 rfl) ?_
  refine va_get (D := (dC, dI)) (ci := 8) (v := .int a0_5) (C := RX8) (T := TX8) (N := 40) hx hb hts zi_X8_next_8 hown hK hP 0 rfl rfl 5 (by decide) (hts (.fieldLink RX8 71 "WaxTurnsModel" "end" "I") (List.mem_cons_of_mem _ (List.mem_append_left _ (List.mem_of_getElem? (i := 0) rfl)))) (fun _ h9 => h9) rfl dX8_next_1 ?_
  refine lv_istore_n (lv' := [(1, .int a0_5), (0, .ref a0)]) hx hb dX8_next_4 rfl hl (by decide) rfl (fun ls hl => ?_)
  have J5 : ∀ (n : Nat) (j5l1 : Int32) (H : Heap) (locs : List Loc) (ls : Array Slot), (901 : Int) - j5l1.toInt ≤ (n : Int) → (0 : Int) ≤ j5l1.toInt → j5l1.toInt ≤ (900 : Int) → (a0_5.toInt ≤ j5l1.toInt) → (FX = fl_wh (Sf_X8_next_5_1 a0_3.toInt (fl_A fa0_1) (fl_A fa0_12)) (0, 0, 0, 0, 0, (fun _ => 0)) n j5l1.toInt) → va_P (dC, dI) vwCl [(a0, .inr (8, [a0g_0, Value.ref a0_1, a0g_2, Value.int a0_3, Value.int a0_4, Value.int a0_5, Value.int a0_6, Value.int a0_7, Value.int a0_8, a0g_9, a0g_10, a0g_11, Value.ref a0_12, a0g_13, a0g_14, a0g_15, a0g_16, a0g_17, a0g_18, a0g_19, a0g_20, a0g_21, a0g_22, a0g_23, a0g_24, a0g_25, a0g_26, a0g_27, a0g_28, a0g_29, a0g_30, a0g_31, a0g_32, a0g_33, a0g_34, a0g_35, a0g_36, a0g_37, a0g_38, a0g_39])), (a0_1, .inl (ka0_1, 900, .inl (fa0_1))), (a0_12, .inl (ka0_12, 8, .inl (fa0_12)))] H → va_D A [(a0, .inr (8, [a0g_0, Value.ref a0_1, a0g_2, Value.int a0_3, Value.int a0_4, Value.int a0_5, Value.int a0_6, Value.int a0_7, Value.int a0_8, a0g_9, a0g_10, a0g_11, Value.ref a0_12, a0g_13, a0g_14, a0g_15, a0g_16, a0g_17, a0g_18, a0g_19, a0g_20, a0g_21, a0g_22, a0g_23, a0g_24, a0g_25, a0g_26, a0g_27, a0g_28, a0g_29, a0g_30, a0g_31, a0g_32, a0g_33, a0g_34, a0g_35, a0g_36, a0g_37, a0g_38, a0g_39])), (a0_1, .inl (ka0_1, 900, .inl (fa0_1))), (a0_12, .inl (ka0_12, 8, .inl (fa0_12)))] → va_S A s.heap H locs → lv_has ls 4 [(0, .ref a0), (1, .int j5l1)] → K H locs (F0 m 5 ls []) := by
    intro n
    induction n with
    | zero =>
      intro j5l1 H locs ls hm bj5l1_l bj5l1_u ke5 hF0 hP hD hS hl
      first | exact zg_0 hm bj5l1_u (by decide) | (have h8 := ai_min j5l1; have h9 := ai_max j5l1; exact absurd hm (by omega))
    | succ n ih5 =>
      intro j5l1 H locs ls hm bj5l1_l bj5l1_u ke5 hF0 hP hD hS hl
      refine (hK0 _ _ _).mpr ?_
      have hm5 := hm
      obtain ⟨SX5, hSX5⟩ : ∃ q9, Sf_X8_next_5_1 a0_3.toInt (fl_A fa0_1) (fl_A fa0_12) j5l1.toInt = q9 := ⟨_, rfl⟩
      have hF1 := hSX5.symm.trans (Sf_X8_next_5_1.eq_1 a0_3.toInt (fl_A fa0_1) (fl_A fa0_12) j5l1.toInt)
      refine lv_aload_n hx hb dX8_next_5 rfl (lv_at hl 0 rfl) ?_
      refine lv_iload_n hx hb dX8_next_6 rfl (lv_at hl 1 rfl) ?_
      have hKc := hK.sub (tys' := [(ka0_1, .int)]) [0] rfl
      refine va_calli (va_runV (As := [.int j5l1]) (rest := []) ⟨hx, hb, hml, hown, hts⟩ (f_X8_see l dC dI H.size a0 j5l1 a0g_0 a0g_2 (Value.int a0_4) (Value.int a0_5) (Value.int a0_6) (Value.int a0_7) (Value.int a0_8) a0g_9 a0g_10 a0g_11 (Value.ref a0_12) a0g_13 a0g_14 a0g_15 a0g_16 a0g_17 a0g_18 a0g_19 a0g_20 a0g_21 a0g_22 a0g_23 a0g_24 a0g_25 a0g_26 a0g_27 a0g_28 a0g_29 a0g_30 a0g_31 a0g_32 a0g_33 a0g_34 a0g_35 a0g_36 a0g_37 a0g_38 a0g_39 a0_1 a0_3 ka0_1 fa0_1 bj5l1_l bj5l1_u ba0_3_l ba0_3_u) (cwV 1 hts gX8_next_X8_see rfl rfl rfl zd_X8_see ⟨Nat.le_of_ble_eq_true rfl, Nat.le_of_ble_eq_true rfl⟩) ⟨ax_blind (fun _ _ _ _ _ => trivial), zr_8 hKc (zp_P2 hP) (q0 := 0) rfl, ax_pre (zp_P2 hP) hKc (zp_D2 hD) (fun _ _ => trivial)⟩ rfl rfl hl.1 rfl (lv_room (Nat.le_of_ble_eq_true rfl)) dX8_next_7 ⟨Nat.le_of_ble_eq_true rfl, Nat.le_of_ble_eq_true rfl⟩) hS (fun q _ h => zp_F2 hD hS hA q h) (zp_F2 hD hS hA) (fun r7 u t H locs ht hvm hw hB hz1 hk1 hS1 => zo2 hB ht hP hD hk1 (zp_F2 hD hS hA) hS1 (fun hP hK1 hD hS => ?_))
      obtain ⟨hw, hfr7⟩ := hw
      have hc7 : Ff_X8_see j5l1.toInt a0_3.toInt (fl_A fa0_1) = r7.toInt := hfr7.symm
      have hF1 := hF1.trans (fl_lt_eq hc7.symm)
      rcases hw with hw | hw
      · obtain ⟨hw, h7⟩ := hw
        subst hw
        have hF1 := hF1.trans (if_pos (show a0_3.toInt ≤ j5l1.toInt from h7))
        refine lv_bipush (v := 32) hx hb dX8_next_10 zk_bipush_32 ?_
        refine lv_icmp_ne (tgt := 21) hx hb dX8_next_12 (by decide) (fun _ => ?_) (fun c12 => absurd c12 (by decide +kernel))
        have hF0 := hF0.trans (fl_wh_r (hSX5.trans hF1))
        refine lv_aload_n hx hb dX8_next_21 rfl (lv_at hl 0 rfl) ?_
        refine lv_iload_n hx hb dX8_next_22 rfl (lv_at hl 1 rfl) ?_
        refine va_put (D := (dC, dI)) (ci := 8) (v := .int j5l1) (ty := .int) (C := RX8) (T := TX8) (N := 40) hx hb hts zi_X8_next_8 tyX8 tyX8_ok nmX8 hown hK hP hD hS 0 rfl rfl 4 (by decide) (hts (.fieldLink RX8 78 "WaxTurnsModel" "at" "I") (List.mem_cons_of_mem _ (List.mem_append_left _ (List.mem_of_getElem? (i := 1) rfl)))) (fun _ h9 => h9) rfl (tyX8_ok 4 (by decide)) rfl rfl (Nat.le_of_ble_eq_true rfl) dX8_next_23 (fun H locs hP hD hS => ?_)
        refine zs_0 (y := (a0, .inr (8, [a0g_0, Value.ref a0_1, a0g_2, Value.int a0_3, Value.int j5l1, Value.int a0_5, Value.int a0_6, Value.int a0_7, Value.int a0_8, a0g_9, a0g_10, a0g_11, Value.ref a0_12, a0g_13, a0g_14, a0g_15, a0g_16, a0g_17, a0g_18, a0g_19, a0g_20, a0g_21, a0g_22, a0g_23, a0g_24, a0g_25, a0g_26, a0g_27, a0g_28, a0g_29, a0g_30, a0g_31, a0g_32, a0g_33, a0g_34, a0g_35, a0g_36, a0g_37, a0g_38, a0g_39]))) hP hD rfl (fun hP hD => ?_)
        refine lv_aload_n hx hb dX8_next_26 rfl (lv_at hl 0 rfl) ?_
        refine lv_iload_n hx hb dX8_next_27 rfl (lv_at hl 1 rfl) ?_
        have hKc := hK.sub (tys' := [(ka0_1, .int)]) [0] rfl
        refine va_calli (va_runV (As := [.int j5l1]) (rest := []) ⟨hx, hb, hml, hown, hts⟩ (f_X8_see l dC dI H.size a0 j5l1 a0g_0 a0g_2 (Value.int j5l1) (Value.int a0_5) (Value.int a0_6) (Value.int a0_7) (Value.int a0_8) a0g_9 a0g_10 a0g_11 (Value.ref a0_12) a0g_13 a0g_14 a0g_15 a0g_16 a0g_17 a0g_18 a0g_19 a0g_20 a0g_21 a0g_22 a0g_23 a0g_24 a0g_25 a0g_26 a0g_27 a0g_28 a0g_29 a0g_30 a0g_31 a0g_32 a0g_33 a0g_34 a0g_35 a0g_36 a0g_37 a0g_38 a0g_39 a0_1 a0_3 ka0_1 fa0_1 bj5l1_l bj5l1_u ba0_3_l ba0_3_u) (cwV 1 hts gX8_next_X8_see rfl rfl rfl zd_X8_see ⟨Nat.le_of_ble_eq_true rfl, Nat.le_of_ble_eq_true rfl⟩) ⟨ax_blind (fun _ _ _ _ _ => trivial), zr_8 hKc (zp_P2 hP) (q0 := 0) rfl, ax_pre (zp_P2 hP) hKc (zp_D2 hD) (fun _ _ => trivial)⟩ rfl rfl hl.1 rfl (lv_room (Nat.le_of_ble_eq_true rfl)) dX8_next_28 ⟨Nat.le_of_ble_eq_true rfl, Nat.le_of_ble_eq_true rfl⟩) hS (fun q _ h => zp_F2 hD hS hA q h) (zp_F2 hD hS hA) (fun r28 u t H locs ht hvm hw hB hz1 hk1 hS1 => zo2 hB ht hP hD hk1 (zp_F2 hD hS hA) hS1 (fun hP hK1 hD hS => ?_))
        obtain ⟨hw, hfr28⟩ := hw
        have hc28 : Ff_X8_see j5l1.toInt a0_3.toInt (fl_A fa0_1) = r28.toInt := hfr28.symm
        have hF0 := hF0.trans (fl_lt_eq hc28.symm)
        rcases hw with hw | hw
        · obtain ⟨hw, h28⟩ := hw
          subst hw
          have hF0 := hF0.trans (if_pos (show a0_3.toInt ≤ j5l1.toInt from h28))
          refine lv_istore_n (lv' := [(2, .int (-1)), (0, .ref a0), (1, .int j5l1)]) hx hb dX8_next_31 rfl hl (by decide) rfl (fun ls hl => ?_)
          refine lv_aload_n hx hb dX8_next_32 rfl (lv_at hl 1 rfl) ?_
          refine lv_iconst (v := 0) hx hb dX8_next_33 zk_iconst_0 ?_
          refine va_put (D := (dC, dI)) (ci := 8) (v := .int 0) (ty := .int) (C := RX8) (T := TX8) (N := 40) hx hb hts zi_X8_next_8 tyX8 tyX8_ok nmX8 hown hK hP hD hS 0 rfl rfl 8 (by decide) (hts (.fieldLink RX8 81 "WaxTurnsModel" "nameSize" "I") (List.mem_cons_of_mem _ (List.mem_append_left _ (List.mem_of_getElem? (i := 2) rfl)))) (fun _ h9 => h9) rfl (tyX8_ok 8 (by decide)) rfl rfl (Nat.le_of_ble_eq_true rfl) dX8_next_34 (fun H locs hP hD hS => ?_)
          refine zs_0 (y := (a0, .inr (8, [a0g_0, Value.ref a0_1, a0g_2, Value.int a0_3, Value.int j5l1, Value.int a0_5, Value.int a0_6, Value.int a0_7, Value.int 0, a0g_9, a0g_10, a0g_11, Value.ref a0_12, a0g_13, a0g_14, a0g_15, a0g_16, a0g_17, a0g_18, a0g_19, a0g_20, a0g_21, a0g_22, a0g_23, a0g_24, a0g_25, a0g_26, a0g_27, a0g_28, a0g_29, a0g_30, a0g_31, a0g_32, a0g_33, a0g_34, a0g_35, a0g_36, a0g_37, a0g_38, a0g_39]))) hP hD rfl (fun hP hD => ?_)
          refine lv_aload_n hx hb dX8_next_37 rfl (lv_at hl 1 rfl) ?_
          refine lv_iconst (v := 0) hx hb dX8_next_38 zk_iconst_0 ?_
          refine va_put (D := (dC, dI)) (ci := 8) (v := .int 0) (ty := .int) (C := RX8) (T := TX8) (N := 40) hx hb hts zi_X8_next_8 tyX8 tyX8_ok nmX8 hown hK hP hD hS 0 rfl rfl 7 (by decide) (hts (.fieldLink RX8 84 "WaxTurnsModel" "whole" "I") (List.mem_cons_of_mem _ (List.mem_append_left _ (List.mem_of_getElem? (i := 3) rfl)))) (fun _ h9 => h9) rfl (tyX8_ok 7 (by decide)) rfl rfl (Nat.le_of_ble_eq_true rfl) dX8_next_39 (fun H locs hP hD hS => ?_)
          refine zs_0 (y := (a0, .inr (8, [a0g_0, Value.ref a0_1, a0g_2, Value.int a0_3, Value.int j5l1, Value.int a0_5, Value.int a0_6, Value.int 0, Value.int 0, a0g_9, a0g_10, a0g_11, Value.ref a0_12, a0g_13, a0g_14, a0g_15, a0g_16, a0g_17, a0g_18, a0g_19, a0g_20, a0g_21, a0g_22, a0g_23, a0g_24, a0g_25, a0g_26, a0g_27, a0g_28, a0g_29, a0g_30, a0g_31, a0g_32, a0g_33, a0g_34, a0g_35, a0g_36, a0g_37, a0g_38, a0g_39]))) hP hD rfl (fun hP hD => ?_)
          refine lv_iload_n hx hb dX8_next_42 rfl (lv_at hl 0 rfl) ?_
          refine lv_iconst (v := (-1)) hx hb dX8_next_43 zk_iconst_n1 ?_
          refine lv_icmp_ne (tgt := 60) hx hb dX8_next_44 (by decide) (fun c44 => absurd (by decide +kernel) c44) (fun _ => ?_)
          refine lv_aload_n hx hb dX8_next_47 rfl (lv_at hl 1 rfl) ?_
          refine lv_iconst (v := 0) hx hb dX8_next_48 zk_iconst_0 ?_
          refine va_put (D := (dC, dI)) (ci := 8) (v := .int 0) (ty := .int) (C := RX8) (T := TX8) (N := 40) hx hb hts zi_X8_next_8 tyX8 tyX8_ok nmX8 hown hK hP hD hS 0 rfl rfl 6 (by decide) (hts (.fieldLink RX8 87 "WaxTurnsModel" "token" "I") (List.mem_cons_of_mem _ (List.mem_append_left _ (List.mem_of_getElem? (i := 4) rfl)))) (fun _ h9 => h9) rfl (tyX8_ok 6 (by decide)) rfl rfl (Nat.le_of_ble_eq_true rfl) dX8_next_49 (fun H locs hP hD hS => ?_)
          refine zs_0 (y := (a0, .inr (8, [a0g_0, Value.ref a0_1, a0g_2, Value.int a0_3, Value.int j5l1, Value.int a0_5, Value.int 0, Value.int 0, Value.int 0, a0g_9, a0g_10, a0g_11, Value.ref a0_12, a0g_13, a0g_14, a0g_15, a0g_16, a0g_17, a0g_18, a0g_19, a0g_20, a0g_21, a0g_22, a0g_23, a0g_24, a0g_25, a0g_26, a0g_27, a0g_28, a0g_29, a0g_30, a0g_31, a0g_32, a0g_33, a0g_34, a0g_35, a0g_36, a0g_37, a0g_38, a0g_39]))) hP hD rfl (fun hP hD => ?_)
          refine lv_aload_n hx hb dX8_next_52 rfl (lv_at hl 1 rfl) ?_
          refine lv_iload_n hx hb dX8_next_53 rfl (lv_at hl 2 rfl) ?_
          refine va_put (D := (dC, dI)) (ci := 8) (v := .int j5l1) (ty := .int) (C := RX8) (T := TX8) (N := 40) hx hb hts zi_X8_next_8 tyX8 tyX8_ok nmX8 hown hK hP hD hS 0 rfl rfl 5 (by decide) (hts (.fieldLink RX8 71 "WaxTurnsModel" "end" "I") (List.mem_cons_of_mem _ (List.mem_append_left _ (List.mem_of_getElem? (i := 0) rfl)))) (fun _ h9 => h9) rfl (tyX8_ok 5 (by decide)) rfl rfl (Nat.le_of_ble_eq_true rfl) dX8_next_54 (fun H locs hP hD hS => ?_)
          refine zs_0 (y := (a0, .inr (8, [a0g_0, Value.ref a0_1, a0g_2, Value.int a0_3, Value.int j5l1, Value.int j5l1, Value.int 0, Value.int 0, Value.int 0, a0g_9, a0g_10, a0g_11, Value.ref a0_12, a0g_13, a0g_14, a0g_15, a0g_16, a0g_17, a0g_18, a0g_19, a0g_20, a0g_21, a0g_22, a0g_23, a0g_24, a0g_25, a0g_26, a0g_27, a0g_28, a0g_29, a0g_30, a0g_31, a0g_32, a0g_33, a0g_34, a0g_35, a0g_36, a0g_37, a0g_38, a0g_39]))) hP hD rfl (fun hP hD => ?_)
          refine lv_goto (tgt := 241) hx hb dX8_next_57 (by decide) ?_
          have hFe : FX = (j5l1.toInt, j5l1.toInt, 0, 0, 0, (fl_A fa0_12)) := hF0
          exact W.vret hx hb hr (fun t ht hW => ⟨⟨(), rfl, trivial, j5l1, j5l1, 0, 0, 0, fa0_12, ⟨bj5l1_l, bj5l1_u⟩, ⟨zq5, Int.le_trans zq6 (by decide)⟩, (fun h9 => absurd h9 (by decide)), ⟨by omega, Or.inl (by decide)⟩, hFe, by rw [ht]; exact hP, va_K.moved hW.alike hK, hD⟩, hS.F ht⟩) hS.2.2 dX8_next_241
        · have h28 := hw
          have u28k1_j5l1 : j5l1.toInt ≤ (899 : Int) := by have h1 := h28; have h2 := ba0_3_u; omega
          have hF0 := hF0.trans (if_neg (show ¬ (a0_3.toInt ≤ j5l1.toInt) from Int.not_le.mpr h28))
          refine lv_istore_n (lv' := [(2, .int r28), (0, .ref a0), (1, .int j5l1)]) hx hb dX8_next_31 rfl hl (by decide) rfl (fun ls hl => ?_)
          refine lv_aload_n hx hb dX8_next_32 rfl (lv_at hl 1 rfl) ?_
          refine lv_iconst (v := 0) hx hb dX8_next_33 zk_iconst_0 ?_
          refine va_put (D := (dC, dI)) (ci := 8) (v := .int 0) (ty := .int) (C := RX8) (T := TX8) (N := 40) hx hb hts zi_X8_next_8 tyX8 tyX8_ok nmX8 hown hK hP hD hS 0 rfl rfl 8 (by decide) (hts (.fieldLink RX8 81 "WaxTurnsModel" "nameSize" "I") (List.mem_cons_of_mem _ (List.mem_append_left _ (List.mem_of_getElem? (i := 2) rfl)))) (fun _ h9 => h9) rfl (tyX8_ok 8 (by decide)) rfl rfl (Nat.le_of_ble_eq_true rfl) dX8_next_34 (fun H locs hP hD hS => ?_)
          refine zs_0 (y := (a0, .inr (8, [a0g_0, Value.ref a0_1, a0g_2, Value.int a0_3, Value.int j5l1, Value.int a0_5, Value.int a0_6, Value.int a0_7, Value.int 0, a0g_9, a0g_10, a0g_11, Value.ref a0_12, a0g_13, a0g_14, a0g_15, a0g_16, a0g_17, a0g_18, a0g_19, a0g_20, a0g_21, a0g_22, a0g_23, a0g_24, a0g_25, a0g_26, a0g_27, a0g_28, a0g_29, a0g_30, a0g_31, a0g_32, a0g_33, a0g_34, a0g_35, a0g_36, a0g_37, a0g_38, a0g_39]))) hP hD rfl (fun hP hD => ?_)
          refine lv_aload_n hx hb dX8_next_37 rfl (lv_at hl 1 rfl) ?_
          refine lv_iconst (v := 0) hx hb dX8_next_38 zk_iconst_0 ?_
          refine va_put (D := (dC, dI)) (ci := 8) (v := .int 0) (ty := .int) (C := RX8) (T := TX8) (N := 40) hx hb hts zi_X8_next_8 tyX8 tyX8_ok nmX8 hown hK hP hD hS 0 rfl rfl 7 (by decide) (hts (.fieldLink RX8 84 "WaxTurnsModel" "whole" "I") (List.mem_cons_of_mem _ (List.mem_append_left _ (List.mem_of_getElem? (i := 3) rfl)))) (fun _ h9 => h9) rfl (tyX8_ok 7 (by decide)) rfl rfl (Nat.le_of_ble_eq_true rfl) dX8_next_39 (fun H locs hP hD hS => ?_)
          refine zs_0 (y := (a0, .inr (8, [a0g_0, Value.ref a0_1, a0g_2, Value.int a0_3, Value.int j5l1, Value.int a0_5, Value.int a0_6, Value.int 0, Value.int 0, a0g_9, a0g_10, a0g_11, Value.ref a0_12, a0g_13, a0g_14, a0g_15, a0g_16, a0g_17, a0g_18, a0g_19, a0g_20, a0g_21, a0g_22, a0g_23, a0g_24, a0g_25, a0g_26, a0g_27, a0g_28, a0g_29, a0g_30, a0g_31, a0g_32, a0g_33, a0g_34, a0g_35, a0g_36, a0g_37, a0g_38, a0g_39]))) hP hD rfl (fun hP hD => ?_)
          refine lv_iload_n hx hb dX8_next_42 rfl (lv_at hl 0 rfl) ?_
          refine lv_iconst (v := (-1)) hx hb dX8_next_43 zk_iconst_n1 ?_
          refine lv_icmp_ne (tgt := 60) hx hb dX8_next_44 (by decide) (fun c44 => ?_) (fun c44 => ?_)
          · have gc44 := ai_ne c44
            have hF0 := hF0.trans (if_neg (show ¬ (r28.toInt = (-1)) from  gc44))
            refine lv_iload_n hx hb dX8_next_60 rfl (lv_at hl 0 rfl) ?_
            refine va_calli (va_runS (As := [.int r28]) (rest := []) ⟨hx, hb, hml, hown, hts⟩ (f_X8_isSmall l dC dI H.size r28 ) (va_cwS 1 hts gX8_next_X8_isSmall rfl rfl rfl zd_X8_isSmall.2 ⟨Nat.le_of_ble_eq_true rfl, Nat.le_of_ble_eq_true rfl⟩) ⟨ax_blind (fun _ _ _ _ _ => trivial), ax_pre (zp_P0 hP) (zp_K hK) (zp_D0 hD) (fun _ _ => trivial)⟩ rfl rfl hl.1 rfl (lv_room (Nat.le_of_ble_eq_true rfl)) dX8_next_61 ⟨Nat.le_of_ble_eq_true rfl, Nat.le_of_ble_eq_true rfl⟩) hS (fun q _ h => zp_F0 hD hS hA q h) (zp_F0 hD hS hA) (fun r61 u t H locs ht hvm hw hB hz1 hk1 hS1 => zo0 hB ht hP hD hk1 (zp_F0 hD hS hA) hS1 (fun hP hK1 hD hS => ?_))
            obtain ⟨hw, hfr61⟩ := hw
            have hc61 : Ff_X8_isSmall r28.toInt = r61.toInt := hfr61.symm
            have hF0 := hF0.trans (fl_lt_eq hc61.symm)
            rcases hw with hw | hw
            · obtain ⟨hw, h61_0, h61_1⟩ := hw
              subst hw
              have l61k0_r28 : (97 : Int) ≤ r28.toInt := h61_0
              have u61k0_r28 : r28.toInt ≤ (122 : Int) := h61_1
              have hF0 := hF0.trans (if_pos (by decide))
              refine lv_if_eq (tgt := 143) hx hb dX8_next_64 (by decide) (fun c64 => absurd c64 (by decide +kernel)) (fun _ => ?_)
              have J67 : ∀ (n : Nat) (j67l1 : Int32) (j67a0_8 : Int32) (j67a0_12_a : Nat → Int32) (H : Heap) (locs : List Loc) (ls : Array Slot), (901 : Int) - j67l1.toInt ≤ (n : Int) → (0 : Int) ≤ j67l1.toInt → j67l1.toInt ≤ (900 : Int) → (0 : Int) ≤ j67a0_8.toInt → j67a0_8.toInt ≤ (900 : Int) → (a0_5.toInt ≤ j67l1.toInt) → (j67a0_8.toInt ≤ j67l1.toInt) → (FX = fl_wh (fun t9 => Sf_X8_next_67_1 a0_3.toInt (fl_A fa0_1) j5l1.toInt t9.1 t9.2.1 t9.2.2) (0, 0, 0, 0, 0, (fun _ => 0)) n (j67l1.toInt, j67a0_8.toInt, (fl_A j67a0_12_a))) → va_P (dC, dI) vwCl [(a0, .inr (8, [a0g_0, Value.ref a0_1, a0g_2, Value.int a0_3, Value.int j5l1, Value.int a0_5, Value.int a0_6, Value.int 0, Value.int j67a0_8, a0g_9, a0g_10, a0g_11, Value.ref a0_12, a0g_13, a0g_14, a0g_15, a0g_16, a0g_17, a0g_18, a0g_19, a0g_20, a0g_21, a0g_22, a0g_23, a0g_24, a0g_25, a0g_26, a0g_27, a0g_28, a0g_29, a0g_30, a0g_31, a0g_32, a0g_33, a0g_34, a0g_35, a0g_36, a0g_37, a0g_38, a0g_39])), (a0_1, .inl (ka0_1, 900, .inl (fa0_1))), (a0_12, .inl (ka0_12, 8, .inl (j67a0_12_a)))] H → va_D A [(a0, .inr (8, [a0g_0, Value.ref a0_1, a0g_2, Value.int a0_3, Value.int j5l1, Value.int a0_5, Value.int a0_6, Value.int 0, Value.int j67a0_8, a0g_9, a0g_10, a0g_11, Value.ref a0_12, a0g_13, a0g_14, a0g_15, a0g_16, a0g_17, a0g_18, a0g_19, a0g_20, a0g_21, a0g_22, a0g_23, a0g_24, a0g_25, a0g_26, a0g_27, a0g_28, a0g_29, a0g_30, a0g_31, a0g_32, a0g_33, a0g_34, a0g_35, a0g_36, a0g_37, a0g_38, a0g_39])), (a0_1, .inl (ka0_1, 900, .inl (fa0_1))), (a0_12, .inl (ka0_12, 8, .inl (j67a0_12_a)))] → va_S A s.heap H locs → lv_has ls 4 [(0, .ref a0), (1, .int j67l1)] → K H locs (F0 m 67 ls []) := by
                intro n
                induction n with
                | zero =>
                  intro j67l1 j67a0_8 j67a0_12_a H locs ls hm bj67l1_l bj67l1_u bj67a0_8_l bj67a0_8_u ke67 nk67 hF0 hP hD hS hl
                  first | exact zg_0 hm bj67l1_u (by decide) | (have h8 := ai_min j67l1; have h9 := ai_max j67l1; exact absurd hm (by omega))
                | succ n ih67 =>
                  intro j67l1 j67a0_8 j67a0_12_a H locs ls hm bj67l1_l bj67l1_u bj67a0_8_l bj67a0_8_u ke67 nk67 hF0 hP hD hS hl
                  refine (hK0 _ _ _).mpr ?_
                  have hm67 := hm
                  obtain ⟨SX67, hSX67⟩ : ∃ q9, Sf_X8_next_67_1 a0_3.toInt (fl_A fa0_1) j5l1.toInt j67l1.toInt j67a0_8.toInt (fl_A j67a0_12_a) = q9 := ⟨_, rfl⟩
                  have hF1 := hSX67.symm.trans (Sf_X8_next_67_1.eq_1 a0_3.toInt (fl_A fa0_1) j5l1.toInt j67l1.toInt j67a0_8.toInt (fl_A j67a0_12_a))
                  refine lv_aload_n hx hb dX8_next_67 rfl (lv_at hl 0 rfl) ?_
                  refine lv_iload_n hx hb dX8_next_68 rfl (lv_at hl 1 rfl) ?_
                  have hKc := hK.sub (tys' := [(ka0_1, .int)]) [0] rfl
                  refine va_calli (va_runV (As := [.int j67l1]) (rest := []) ⟨hx, hb, hml, hown, hts⟩ (f_X8_see l dC dI H.size a0 j67l1 a0g_0 a0g_2 (Value.int j5l1) (Value.int a0_5) (Value.int a0_6) (Value.int 0) (Value.int j67a0_8) a0g_9 a0g_10 a0g_11 (Value.ref a0_12) a0g_13 a0g_14 a0g_15 a0g_16 a0g_17 a0g_18 a0g_19 a0g_20 a0g_21 a0g_22 a0g_23 a0g_24 a0g_25 a0g_26 a0g_27 a0g_28 a0g_29 a0g_30 a0g_31 a0g_32 a0g_33 a0g_34 a0g_35 a0g_36 a0g_37 a0g_38 a0g_39 a0_1 a0_3 ka0_1 fa0_1 bj67l1_l bj67l1_u ba0_3_l ba0_3_u) (cwV 1 hts gX8_next_X8_see rfl rfl rfl zd_X8_see ⟨Nat.le_of_ble_eq_true rfl, Nat.le_of_ble_eq_true rfl⟩) ⟨ax_blind (fun _ _ _ _ _ => trivial), zr_8 hKc (zp_P2 hP) (q0 := 0) rfl, ax_pre (zp_P2 hP) hKc (zp_D2 hD) (fun _ _ => trivial)⟩ rfl rfl hl.1 rfl (lv_room (Nat.le_of_ble_eq_true rfl)) dX8_next_69 ⟨Nat.le_of_ble_eq_true rfl, Nat.le_of_ble_eq_true rfl⟩) hS (fun q _ h => zp_F2 hD hS hA q h) (zp_F2 hD hS hA) (fun r69 u t H locs ht hvm hw hB hz1 hk1 hS1 => zo2 hB ht hP hD hk1 (zp_F2 hD hS hA) hS1 (fun hP hK1 hD hS => ?_))
                  obtain ⟨hw, hfr69⟩ := hw
                  have hc69 : Ff_X8_see j67l1.toInt a0_3.toInt (fl_A fa0_1) = r69.toInt := hfr69.symm
                  have hF1 := hF1.trans (fl_lt_eq hc69.symm)
                  rcases hw with hw | hw
                  · obtain ⟨hw, h69⟩ := hw
                    subst hw
                    have hF1 := hF1.trans (if_pos (show a0_3.toInt ≤ j67l1.toInt from h69))
                    refine va_calli (va_runS (As := [.int (-1)]) (rest := []) ⟨hx, hb, hml, hown, hts⟩ (f_X8_isSmall l dC dI H.size (-1) ) (va_cwS 1 hts gX8_next_X8_isSmall rfl rfl rfl zd_X8_isSmall.2 ⟨Nat.le_of_ble_eq_true rfl, Nat.le_of_ble_eq_true rfl⟩) ⟨ax_blind (fun _ _ _ _ _ => trivial), ax_pre (zp_P0 hP) (zp_K hK) (zp_D0 hD) (fun _ _ => trivial)⟩ rfl rfl hl.1 rfl (lv_room (Nat.le_of_ble_eq_true rfl)) dX8_next_72 ⟨Nat.le_of_ble_eq_true rfl, Nat.le_of_ble_eq_true rfl⟩) hS (fun q _ h => zp_F0 hD hS hA q h) (zp_F0 hD hS hA) (fun r72 u t H locs ht hvm hw hB hz1 hk1 hS1 => zo0 hB ht hP hD hk1 (zp_F0 hD hS hA) hS1 (fun hP hK1 hD hS => ?_))
                    obtain ⟨hw, hfr72⟩ := hw
                    rw [show ((-1) : Int32).toInt = (-1) from by decide] at hfr72
                    have hc72 : Ff_X8_isSmall (-1) = r72.toInt := hfr72.symm
                    have hF1 := hF1.trans (fl_lt_eq hc72.symm)
                    rcases hw with hw | hw
                    · obtain ⟨hw, h72_0, h72_1⟩ := hw
                      subst hw
                      exact absurd h72_0 (by decide)
                    · subst hw
                      have hF1 := hF1.trans (if_neg (by decide))
                      refine lv_if_eq (tgt := 117) hx hb dX8_next_75 (by decide) (fun _ => ?_) (fun c75 => absurd (by decide +kernel) c75)
                      have hF0 := hF0.trans (fl_wh_r (hSX67.trans hF1))
                      refine lv_aload_n hx hb dX8_next_117 rfl (lv_at hl 0 rfl) ?_
                      refine lv_iload_n hx hb dX8_next_118 rfl (lv_at hl 1 rfl) ?_
                      refine va_put (D := (dC, dI)) (ci := 8) (v := .int j67l1) (ty := .int) (C := RX8) (T := TX8) (N := 40) hx hb hts zi_X8_next_8 tyX8 tyX8_ok nmX8 hown hK hP hD hS 0 rfl rfl 5 (by decide) (hts (.fieldLink RX8 71 "WaxTurnsModel" "end" "I") (List.mem_cons_of_mem _ (List.mem_append_left _ (List.mem_of_getElem? (i := 0) rfl)))) (fun _ h9 => h9) rfl (tyX8_ok 5 (by decide)) rfl rfl (Nat.le_of_ble_eq_true rfl) dX8_next_119 (fun H locs hP hD hS => ?_)
                      refine zs_0 (y := (a0, .inr (8, [a0g_0, Value.ref a0_1, a0g_2, Value.int a0_3, Value.int j5l1, Value.int j67l1, Value.int a0_6, Value.int 0, Value.int j67a0_8, a0g_9, a0g_10, a0g_11, Value.ref a0_12, a0g_13, a0g_14, a0g_15, a0g_16, a0g_17, a0g_18, a0g_19, a0g_20, a0g_21, a0g_22, a0g_23, a0g_24, a0g_25, a0g_26, a0g_27, a0g_28, a0g_29, a0g_30, a0g_31, a0g_32, a0g_33, a0g_34, a0g_35, a0g_36, a0g_37, a0g_38, a0g_39]))) hP hD rfl (fun hP hD => ?_)
                      refine lv_aload_n hx hb dX8_next_122 rfl (lv_at hl 0 rfl) ?_
                      refine lv_aload_n hx hb dX8_next_123 rfl (lv_at hl 0 rfl) ?_
                      refine va_get (D := (dC, dI)) (ci := 8) (v := .int j67a0_8) (C := RX8) (T := TX8) (N := 40) hx hb hts zi_X8_next_8 hown hK hP 0 rfl rfl 8 (by decide) (hts (.fieldLink RX8 81 "WaxTurnsModel" "nameSize" "I") (List.mem_cons_of_mem _ (List.mem_append_left _ (List.mem_of_getElem? (i := 2) rfl)))) (fun _ h9 => h9) rfl dX8_next_124 ?_
                      refine lv_bipush (v := 8) hx hb dX8_next_127 zk_bipush_8 ?_
                      refine lv_icmp_le (tgt := 136) hx hb dX8_next_129 (by decide) (fun c129 => ?_) (fun c129 => ?_)
                      · have gc129 := ai_le c129
                        have u129t_j67a0_8 : j67a0_8.toInt ≤ (8 : Int) := Int.le_trans gc129 zq28
                        have hF0 := hF0.trans (if_pos (show j67a0_8.toInt ≤ 8 from gc129))
                        refine lv_iconst (v := 2) hx hb dX8_next_136 zk_iconst_2 ?_
                        refine va_put (D := (dC, dI)) (ci := 8) (v := .int 2) (ty := .int) (C := RX8) (T := TX8) (N := 40) hx hb hts zi_X8_next_8 tyX8 tyX8_ok nmX8 hown hK hP hD hS 0 rfl rfl 6 (by decide) (hts (.fieldLink RX8 87 "WaxTurnsModel" "token" "I") (List.mem_cons_of_mem _ (List.mem_append_left _ (List.mem_of_getElem? (i := 4) rfl)))) (fun _ h9 => h9) rfl (tyX8_ok 6 (by decide)) rfl rfl (Nat.le_of_ble_eq_true rfl) dX8_next_137 (fun H locs hP hD hS => ?_)
                        refine zs_0 (y := (a0, .inr (8, [a0g_0, Value.ref a0_1, a0g_2, Value.int a0_3, Value.int j5l1, Value.int j67l1, Value.int 2, Value.int 0, Value.int j67a0_8, a0g_9, a0g_10, a0g_11, Value.ref a0_12, a0g_13, a0g_14, a0g_15, a0g_16, a0g_17, a0g_18, a0g_19, a0g_20, a0g_21, a0g_22, a0g_23, a0g_24, a0g_25, a0g_26, a0g_27, a0g_28, a0g_29, a0g_30, a0g_31, a0g_32, a0g_33, a0g_34, a0g_35, a0g_36, a0g_37, a0g_38, a0g_39]))) hP hD rfl (fun hP hD => ?_)
                        refine lv_goto (tgt := 241) hx hb dX8_next_140 (by decide) ?_
                        have hFe : FX = (j5l1.toInt, j67l1.toInt, 2, 0, j67a0_8.toInt, (fl_A j67a0_12_a)) := hF0
                        exact W.vret hx hb hr (fun t ht hW => ⟨⟨(), rfl, trivial, j5l1, j67l1, 2, 0, j67a0_8, j67a0_12_a, ⟨bj67l1_l, bj67l1_u⟩, ⟨bj67a0_8_l, Int.le_trans u129t_j67a0_8 (by decide)⟩, (fun _ => u129t_j67a0_8), ⟨by omega, Or.inl (by decide)⟩, hFe, by rw [ht]; exact hP, va_K.moved hW.alike hK, hD⟩, hS.F ht⟩) hS.2.2 dX8_next_241
                      · have gc129 := ai_nle c129
                        have l129f_j67a0_8 : (9 : Int) ≤ j67a0_8.toInt := ai_ltlo gc129 zq116
                        have hF0 := hF0.trans (if_neg (show ¬ (j67a0_8.toInt ≤ 8) from Int.not_le.mpr gc129))
                        refine lv_iconst (v := 1) hx hb dX8_next_132 zk_iconst_1 ?_
                        refine lv_goto (tgt := 137) hx hb dX8_next_133 (by decide) ?_
                        refine va_put (D := (dC, dI)) (ci := 8) (v := .int 1) (ty := .int) (C := RX8) (T := TX8) (N := 40) hx hb hts zi_X8_next_8 tyX8 tyX8_ok nmX8 hown hK hP hD hS 0 rfl rfl 6 (by decide) (hts (.fieldLink RX8 87 "WaxTurnsModel" "token" "I") (List.mem_cons_of_mem _ (List.mem_append_left _ (List.mem_of_getElem? (i := 4) rfl)))) (fun _ h9 => h9) rfl (tyX8_ok 6 (by decide)) rfl rfl (Nat.le_of_ble_eq_true rfl) dX8_next_137 (fun H locs hP hD hS => ?_)
                        refine zs_0 (y := (a0, .inr (8, [a0g_0, Value.ref a0_1, a0g_2, Value.int a0_3, Value.int j5l1, Value.int j67l1, Value.int 1, Value.int 0, Value.int j67a0_8, a0g_9, a0g_10, a0g_11, Value.ref a0_12, a0g_13, a0g_14, a0g_15, a0g_16, a0g_17, a0g_18, a0g_19, a0g_20, a0g_21, a0g_22, a0g_23, a0g_24, a0g_25, a0g_26, a0g_27, a0g_28, a0g_29, a0g_30, a0g_31, a0g_32, a0g_33, a0g_34, a0g_35, a0g_36, a0g_37, a0g_38, a0g_39]))) hP hD rfl (fun hP hD => ?_)
                        refine lv_goto (tgt := 241) hx hb dX8_next_140 (by decide) ?_
                        have hFe : FX = (j5l1.toInt, j67l1.toInt, 1, 0, j67a0_8.toInt, (fl_A j67a0_12_a)) := hF0
                        exact W.vret hx hb hr (fun t ht hW => ⟨⟨(), rfl, trivial, j5l1, j67l1, 1, 0, j67a0_8, j67a0_12_a, ⟨bj67l1_l, bj67l1_u⟩, ⟨Int.le_trans (by decide) l129f_j67a0_8, bj67a0_8_u⟩, (fun h9 => absurd h9 (by decide)), ⟨by omega, Or.inl (by decide)⟩, hFe, by rw [ht]; exact hP, va_K.moved hW.alike hK, hD⟩, hS.F ht⟩) hS.2.2 dX8_next_241
                  · have h69 := hw
                    have u69k1_j67l1 : j67l1.toInt ≤ (899 : Int) := by have h1 := h69; have h2 := ba0_3_u; omega
                    have hF1 := hF1.trans (if_neg (show ¬ (a0_3.toInt ≤ j67l1.toInt) from Int.not_le.mpr h69))
                    refine va_calli (va_runS (As := [.int r69]) (rest := []) ⟨hx, hb, hml, hown, hts⟩ (f_X8_isSmall l dC dI H.size r69 ) (va_cwS 1 hts gX8_next_X8_isSmall rfl rfl rfl zd_X8_isSmall.2 ⟨Nat.le_of_ble_eq_true rfl, Nat.le_of_ble_eq_true rfl⟩) ⟨ax_blind (fun _ _ _ _ _ => trivial), ax_pre (zp_P0 hP) (zp_K hK) (zp_D0 hD) (fun _ _ => trivial)⟩ rfl rfl hl.1 rfl (lv_room (Nat.le_of_ble_eq_true rfl)) dX8_next_72 ⟨Nat.le_of_ble_eq_true rfl, Nat.le_of_ble_eq_true rfl⟩) hS (fun q _ h => zp_F0 hD hS hA q h) (zp_F0 hD hS hA) (fun r72 u t H locs ht hvm hw hB hz1 hk1 hS1 => zo0 hB ht hP hD hk1 (zp_F0 hD hS hA) hS1 (fun hP hK1 hD hS => ?_))
                    obtain ⟨hw, hfr72⟩ := hw
                    have hc72 : Ff_X8_isSmall r69.toInt = r72.toInt := hfr72.symm
                    have hF1 := hF1.trans (fl_lt_eq hc72.symm)
                    rcases hw with hw | hw
                    · obtain ⟨hw, h72_0, h72_1⟩ := hw
                      subst hw
                      have l72k0_r69 : (97 : Int) ≤ r69.toInt := h72_0
                      have u72k0_r69 : r69.toInt ≤ (122 : Int) := h72_1
                      have hF1 := hF1.trans (if_pos (by decide))
                      refine lv_if_eq (tgt := 117) hx hb dX8_next_75 (by decide) (fun c75 => absurd c75 (by decide +kernel)) (fun _ => ?_)
                      refine lv_aload_n hx hb dX8_next_78 rfl (lv_at hl 0 rfl) ?_
                      refine va_get (D := (dC, dI)) (ci := 8) (v := .int j67a0_8) (C := RX8) (T := TX8) (N := 40) hx hb hts zi_X8_next_8 hown hK hP 0 rfl rfl 8 (by decide) (hts (.fieldLink RX8 81 "WaxTurnsModel" "nameSize" "I") (List.mem_cons_of_mem _ (List.mem_append_left _ (List.mem_of_getElem? (i := 2) rfl)))) (fun _ h9 => h9) rfl dX8_next_79 ?_
                      refine lv_bipush (v := 8) hx hb dX8_next_82 zk_bipush_8 ?_
                      have J101 : ∀ (j101a0_12_a : Nat → Int32) (H : Heap) (locs : List Loc) (ls : Array Slot), (SX67 = Gf_X8_next_101_1 j67l1.toInt j67a0_8.toInt (fl_A j101a0_12_a)) → va_P (dC, dI) vwCl [(a0, .inr (8, [a0g_0, Value.ref a0_1, a0g_2, Value.int a0_3, Value.int j5l1, Value.int a0_5, Value.int a0_6, Value.int 0, Value.int j67a0_8, a0g_9, a0g_10, a0g_11, Value.ref a0_12, a0g_13, a0g_14, a0g_15, a0g_16, a0g_17, a0g_18, a0g_19, a0g_20, a0g_21, a0g_22, a0g_23, a0g_24, a0g_25, a0g_26, a0g_27, a0g_28, a0g_29, a0g_30, a0g_31, a0g_32, a0g_33, a0g_34, a0g_35, a0g_36, a0g_37, a0g_38, a0g_39])), (a0_1, .inl (ka0_1, 900, .inl (fa0_1))), (a0_12, .inl (ka0_12, 8, .inl (j101a0_12_a)))] H → va_D A [(a0, .inr (8, [a0g_0, Value.ref a0_1, a0g_2, Value.int a0_3, Value.int j5l1, Value.int a0_5, Value.int a0_6, Value.int 0, Value.int j67a0_8, a0g_9, a0g_10, a0g_11, Value.ref a0_12, a0g_13, a0g_14, a0g_15, a0g_16, a0g_17, a0g_18, a0g_19, a0g_20, a0g_21, a0g_22, a0g_23, a0g_24, a0g_25, a0g_26, a0g_27, a0g_28, a0g_29, a0g_30, a0g_31, a0g_32, a0g_33, a0g_34, a0g_35, a0g_36, a0g_37, a0g_38, a0g_39])), (a0_1, .inl (ka0_1, 900, .inl (fa0_1))), (a0_12, .inl (ka0_12, 8, .inl (j101a0_12_a)))] → va_S A s.heap H locs → lv_has ls 4 [(0, .ref a0), (1, .int j67l1)] → K H locs (F0 m 101 ls []) := by
                        intro j101a0_12_a H locs ls  hF1 hP hD hS hl
                        refine (hK0 _ _ _).mpr ?_
                        have hF1 := hF1.trans (Gf_X8_next_101_1.eq_1 j67l1.toInt j67a0_8.toInt (fl_A j101a0_12_a))
                        refine lv_aload_n hx hb dX8_next_101 rfl (lv_at hl 0 rfl) ?_
                        refine lv_dup hx hb dX8_next_102 rfl ?_
                        refine va_get (D := (dC, dI)) (ci := 8) (v := .int j67a0_8) (C := RX8) (T := TX8) (N := 40) hx hb hts zi_X8_next_8 hown hK hP 0 rfl rfl 8 (by decide) (hts (.fieldLink RX8 81 "WaxTurnsModel" "nameSize" "I") (List.mem_cons_of_mem _ (List.mem_append_left _ (List.mem_of_getElem? (i := 2) rfl)))) (fun _ h9 => h9) rfl dX8_next_103 ?_
                        have u103z_j67a0_8 : j67a0_8.toInt ≤ (899 : Int) := by omega
                        refine lv_iconst (v := 1) hx hb dX8_next_106 zk_iconst_1 ?_
                        refine lv_iadd hx hb dX8_next_107 ?_
                        refine lv_topi (fun x107 ex107 => ?_)
                        have qx107 : x107.toInt = j67a0_8.toInt + (1 : Int32).toInt := ai_add ex107 ⟨bj67a0_8_l, u103z_j67a0_8⟩ ⟨zq1, zq0⟩ (by decide) (by decide)
                        have bx107 : (1 : Int) ≤ x107.toInt ∧ x107.toInt ≤ 900 := ⟨by rw [qx107]; exact Int.add_le_add bj67a0_8_l zq1, by rw [qx107]; exact Int.add_le_add u103z_j67a0_8 zq0⟩
                        have wx107 : x107.toInt = j67a0_8.toInt + 1 := qx107
                        have hF1 := hF1.trans (fl_lt_eq (show x107.toInt = j67a0_8.toInt + 1 from qx107))
                        refine va_put (D := (dC, dI)) (ci := 8) (v := .int x107) (ty := .int) (C := RX8) (T := TX8) (N := 40) hx hb hts zi_X8_next_8 tyX8 tyX8_ok nmX8 hown hK hP hD hS 0 rfl rfl 8 (by decide) (hts (.fieldLink RX8 81 "WaxTurnsModel" "nameSize" "I") (List.mem_cons_of_mem _ (List.mem_append_left _ (List.mem_of_getElem? (i := 2) rfl)))) (fun _ h9 => h9) rfl (tyX8_ok 8 (by decide)) rfl rfl (Nat.le_of_ble_eq_true rfl) dX8_next_108 (fun H locs hP hD hS => ?_)
                        refine zs_0 (y := (a0, .inr (8, [a0g_0, Value.ref a0_1, a0g_2, Value.int a0_3, Value.int j5l1, Value.int a0_5, Value.int a0_6, Value.int 0, Value.int x107, a0g_9, a0g_10, a0g_11, Value.ref a0_12, a0g_13, a0g_14, a0g_15, a0g_16, a0g_17, a0g_18, a0g_19, a0g_20, a0g_21, a0g_22, a0g_23, a0g_24, a0g_25, a0g_26, a0g_27, a0g_28, a0g_29, a0g_30, a0g_31, a0g_32, a0g_33, a0g_34, a0g_35, a0g_36, a0g_37, a0g_38, a0g_39]))) hP hD rfl (fun hP hD => ?_)
                        obtain ⟨x111, ex111⟩ : ∃ y : Int32, y = j67l1 + Int32.ofInt 1 := ⟨_, rfl⟩
                        have qx111 : x111.toInt = j67l1.toInt + 1 := ai_inc ex111 (by decide) (by decide) u69k1_j67l1 (by decide)
                        have bx111 : (1 : Int) ≤ x111.toInt ∧ x111.toInt ≤ 900 := ⟨by rw [qx111]; exact Int.add_le_add bj67l1_l (Int.le_refl _), by rw [qx111]; exact Int.add_le_add u69k1_j67l1 (Int.le_refl _)⟩
                        refine lv_iinc (v := x111) (lv' := [(1, .int x111), (0, .ref a0)]) hx hb dX8_next_111 hl (k := 1) rfl ex111.symm (by decide) rfl (fun ls hl => ?_)
                        have hF1 := hF1.trans (fl_lt_eq (show x111.toInt = j67l1.toInt + 1 from qx111))
                        refine lv_goto (tgt := 67) hx hb dX8_next_114 (by decide) ?_
                        exact (hK0 _ _ _).mp (ih67 x111 x107 j101a0_12_a _ _ _ (by first | exact zg_s hm67 qx111 | (have h0 := qx111; omega)) (Int.le_trans zq4 bx111.1) bx111.2 (Int.le_trans zq4 bx107.1) bx107.2 (by omega) (by omega) (hF0.trans (fl_wh_l (hSX67.trans hF1))) hP hD hS (lv_sub hl [1, 0] rfl))
                      refine lv_icmp_ge (tgt := 101) hx hb dX8_next_84 (by decide) (fun c84 => ?_) (fun c84 => ?_)
                      · have gc84 := ai_le c84
                        have l84t_j67a0_8 : (8 : Int) ≤ j67a0_8.toInt := Int.le_trans zq116 gc84
                        have hF1 := hF1.trans (if_pos (show 8 ≤ j67a0_8.toInt from gc84))
                        exact (hK0 _ _ _).mp (J101 j67a0_12_a _ _ _   hF1 hP hD hS (lv_sub hl [0, 1] rfl))
                      · have gc84 := ai_nle c84
                        have u84f_j67a0_8 : j67a0_8.toInt ≤ (7 : Int) := ai_lthi gc84 zq28
                        have hF1 := hF1.trans (if_neg (show ¬ (8 ≤ j67a0_8.toInt) from Int.not_le.mpr gc84))
                        refine lv_aload_n hx hb dX8_next_87 rfl (lv_at hl 0 rfl) ?_
                        refine va_get (D := (dC, dI)) (ci := 8) (v := .ref a0_12) (C := RX8) (T := TX8) (N := 40) hx hb hts zi_X8_next_8 hown hK hP 0 rfl rfl 12 (by decide) (hts (.fieldLink RX8 17 "WaxTurnsModel" "letters" "[I") (List.mem_cons_of_mem _ (List.mem_append_left _ (List.mem_of_getElem? (i := 5) rfl)))) (fun _ h9 => h9) rfl dX8_next_88 ?_
                        refine lv_aload_n hx hb dX8_next_91 rfl (lv_at hl 0 rfl) ?_
                        refine va_get (D := (dC, dI)) (ci := 8) (v := .int j67a0_8) (C := RX8) (T := TX8) (N := 40) hx hb hts zi_X8_next_8 hown hK hP 0 rfl rfl 8 (by decide) (hts (.fieldLink RX8 81 "WaxTurnsModel" "nameSize" "I") (List.mem_cons_of_mem _ (List.mem_append_left _ (List.mem_of_getElem? (i := 2) rfl)))) (fun _ h9 => h9) rfl dX8_next_92 ?_
                        refine lv_aload_n hx hb dX8_next_95 rfl (lv_at hl 0 rfl) ?_
                        refine lv_iload_n hx hb dX8_next_96 rfl (lv_at hl 1 rfl) ?_
                        have hKc := hK.sub (tys' := [(ka0_1, .int)]) [0] rfl
                        refine va_calli (va_runV (As := [.int j67l1]) (rest := [.int j67a0_8, .ref a0_12]) ⟨hx, hb, hml, hown, hts⟩ (f_X8_see l dC dI H.size a0 j67l1 a0g_0 a0g_2 (Value.int j5l1) (Value.int a0_5) (Value.int a0_6) (Value.int 0) (Value.int j67a0_8) a0g_9 a0g_10 a0g_11 (Value.ref a0_12) a0g_13 a0g_14 a0g_15 a0g_16 a0g_17 a0g_18 a0g_19 a0g_20 a0g_21 a0g_22 a0g_23 a0g_24 a0g_25 a0g_26 a0g_27 a0g_28 a0g_29 a0g_30 a0g_31 a0g_32 a0g_33 a0g_34 a0g_35 a0g_36 a0g_37 a0g_38 a0g_39 a0_1 a0_3 ka0_1 fa0_1 bj67l1_l (Int.le_trans u69k1_j67l1 zq145) ba0_3_l ba0_3_u) (cwV 1 hts gX8_next_X8_see rfl rfl rfl zd_X8_see ⟨Nat.le_of_ble_eq_true rfl, Nat.le_of_ble_eq_true rfl⟩) ⟨ax_blind (fun _ _ _ _ _ => trivial), zr_8 hKc (zp_P2 hP) (q0 := 0) rfl, ax_pre (zp_P2 hP) hKc (zp_D2 hD) (fun _ _ => trivial)⟩ rfl rfl hl.1 rfl (lv_room (Nat.le_of_ble_eq_true rfl)) dX8_next_97 ⟨Nat.le_of_ble_eq_true rfl, Nat.le_of_ble_eq_true rfl⟩) hS (fun q _ h => zp_F2 hD hS hA q h) (zp_F2 hD hS hA) (fun r97 u t H locs ht hvm hw hB hz1 hk1 hS1 => zo2 hB ht hP hD hk1 (zp_F2 hD hS hA) hS1 (fun hP hK1 hD hS => ?_))
                        obtain ⟨hw, hfr97⟩ := hw
                        have hc97 : Ff_X8_see j67l1.toInt a0_3.toInt (fl_A fa0_1) = r97.toInt := hfr97.symm
                        have hF1 := hF1.trans (fl_lt_eq hc97.symm)
                        rcases hw with hw | hw
                        · obtain ⟨hw, h97⟩ := hw
                          subst hw
                          have hF1 := hF1.trans (if_pos (show a0_3.toInt ≤ j67l1.toInt from h97))
                          refine va_iast hx hb hK hP hD hS 2 1 rfl rfl (ai_in bj67a0_8_l u84f_j67a0_8 (by decide) (by decide)) dX8_next_100 (fun H locs hP hD hS => ?_)
                          obtain ⟨f100, ef100⟩ : ∃ g9 : Nat → Int32, g9 = upd j67a0_12_a (j67a0_8 : Int32).toNatClampNeg ((-1) : Int32) := ⟨_, rfl⟩
                          refine zs_2 (y := (a0_12, .inl (ka0_12, 8, .inl (f100)))) hP hD (by rw [ef100]) (fun hP hD => ?_)
                          have fqf100 := fl_up_eq ef100
                          have hF1 := hF1.trans (fl_lt_eq (show (fl_A f100) = fl_up (fl_A j67a0_12_a) (j67a0_8.toInt.toNat) (-1) from fqf100))
                          exact (hK0 _ _ _).mp (J101 f100 _ _ _   hF1 hP hD hS (lv_sub hl [0, 1] rfl))
                        · have h97 := hw
                          have u97k1_j67l1 : j67l1.toInt ≤ (899 : Int) := u69k1_j67l1
                          have hF1 := hF1.trans (if_neg (show ¬ (a0_3.toInt ≤ j67l1.toInt) from Int.not_le.mpr h97))
                          refine va_iast hx hb hK hP hD hS 2 1 rfl rfl (ai_in bj67a0_8_l u84f_j67a0_8 (by decide) (by decide)) dX8_next_100 (fun H locs hP hD hS => ?_)
                          obtain ⟨f100, ef100⟩ : ∃ g9 : Nat → Int32, g9 = upd j67a0_12_a (j67a0_8 : Int32).toNatClampNeg r97 := ⟨_, rfl⟩
                          refine zs_2 (y := (a0_12, .inl (ka0_12, 8, .inl (f100)))) hP hD (by rw [ef100]) (fun hP hD => ?_)
                          have fqf100 := fl_up_eq ef100
                          have hF1 := hF1.trans (fl_lt_eq (show (fl_A f100) = fl_up (fl_A j67a0_12_a) (j67a0_8.toInt.toNat) r97.toInt from fqf100))
                          exact (hK0 _ _ _).mp (J101 f100 _ _ _   hF1 hP hD hS (lv_sub hl [0, 1] rfl))
                    · subst hw
                      have hF1 := hF1.trans (if_neg (by decide))
                      refine lv_if_eq (tgt := 117) hx hb dX8_next_75 (by decide) (fun _ => ?_) (fun c75 => absurd (by decide +kernel) c75)
                      have hF0 := hF0.trans (fl_wh_r (hSX67.trans hF1))
                      refine lv_aload_n hx hb dX8_next_117 rfl (lv_at hl 0 rfl) ?_
                      refine lv_iload_n hx hb dX8_next_118 rfl (lv_at hl 1 rfl) ?_
                      refine va_put (D := (dC, dI)) (ci := 8) (v := .int j67l1) (ty := .int) (C := RX8) (T := TX8) (N := 40) hx hb hts zi_X8_next_8 tyX8 tyX8_ok nmX8 hown hK hP hD hS 0 rfl rfl 5 (by decide) (hts (.fieldLink RX8 71 "WaxTurnsModel" "end" "I") (List.mem_cons_of_mem _ (List.mem_append_left _ (List.mem_of_getElem? (i := 0) rfl)))) (fun _ h9 => h9) rfl (tyX8_ok 5 (by decide)) rfl rfl (Nat.le_of_ble_eq_true rfl) dX8_next_119 (fun H locs hP hD hS => ?_)
                      refine zs_0 (y := (a0, .inr (8, [a0g_0, Value.ref a0_1, a0g_2, Value.int a0_3, Value.int j5l1, Value.int j67l1, Value.int a0_6, Value.int 0, Value.int j67a0_8, a0g_9, a0g_10, a0g_11, Value.ref a0_12, a0g_13, a0g_14, a0g_15, a0g_16, a0g_17, a0g_18, a0g_19, a0g_20, a0g_21, a0g_22, a0g_23, a0g_24, a0g_25, a0g_26, a0g_27, a0g_28, a0g_29, a0g_30, a0g_31, a0g_32, a0g_33, a0g_34, a0g_35, a0g_36, a0g_37, a0g_38, a0g_39]))) hP hD rfl (fun hP hD => ?_)
                      refine lv_aload_n hx hb dX8_next_122 rfl (lv_at hl 0 rfl) ?_
                      refine lv_aload_n hx hb dX8_next_123 rfl (lv_at hl 0 rfl) ?_
                      refine va_get (D := (dC, dI)) (ci := 8) (v := .int j67a0_8) (C := RX8) (T := TX8) (N := 40) hx hb hts zi_X8_next_8 hown hK hP 0 rfl rfl 8 (by decide) (hts (.fieldLink RX8 81 "WaxTurnsModel" "nameSize" "I") (List.mem_cons_of_mem _ (List.mem_append_left _ (List.mem_of_getElem? (i := 2) rfl)))) (fun _ h9 => h9) rfl dX8_next_124 ?_
                      refine lv_bipush (v := 8) hx hb dX8_next_127 zk_bipush_8 ?_
                      refine lv_icmp_le (tgt := 136) hx hb dX8_next_129 (by decide) (fun c129 => ?_) (fun c129 => ?_)
                      · have gc129 := ai_le c129
                        have u129t_j67a0_8 : j67a0_8.toInt ≤ (8 : Int) := Int.le_trans gc129 zq28
                        have hF0 := hF0.trans (if_pos (show j67a0_8.toInt ≤ 8 from gc129))
                        refine lv_iconst (v := 2) hx hb dX8_next_136 zk_iconst_2 ?_
                        refine va_put (D := (dC, dI)) (ci := 8) (v := .int 2) (ty := .int) (C := RX8) (T := TX8) (N := 40) hx hb hts zi_X8_next_8 tyX8 tyX8_ok nmX8 hown hK hP hD hS 0 rfl rfl 6 (by decide) (hts (.fieldLink RX8 87 "WaxTurnsModel" "token" "I") (List.mem_cons_of_mem _ (List.mem_append_left _ (List.mem_of_getElem? (i := 4) rfl)))) (fun _ h9 => h9) rfl (tyX8_ok 6 (by decide)) rfl rfl (Nat.le_of_ble_eq_true rfl) dX8_next_137 (fun H locs hP hD hS => ?_)
                        refine zs_0 (y := (a0, .inr (8, [a0g_0, Value.ref a0_1, a0g_2, Value.int a0_3, Value.int j5l1, Value.int j67l1, Value.int 2, Value.int 0, Value.int j67a0_8, a0g_9, a0g_10, a0g_11, Value.ref a0_12, a0g_13, a0g_14, a0g_15, a0g_16, a0g_17, a0g_18, a0g_19, a0g_20, a0g_21, a0g_22, a0g_23, a0g_24, a0g_25, a0g_26, a0g_27, a0g_28, a0g_29, a0g_30, a0g_31, a0g_32, a0g_33, a0g_34, a0g_35, a0g_36, a0g_37, a0g_38, a0g_39]))) hP hD rfl (fun hP hD => ?_)
                        refine lv_goto (tgt := 241) hx hb dX8_next_140 (by decide) ?_
                        have hFe : FX = (j5l1.toInt, j67l1.toInt, 2, 0, j67a0_8.toInt, (fl_A j67a0_12_a)) := hF0
                        exact W.vret hx hb hr (fun t ht hW => ⟨⟨(), rfl, trivial, j5l1, j67l1, 2, 0, j67a0_8, j67a0_12_a, ⟨bj67l1_l, Int.le_trans u69k1_j67l1 (by decide)⟩, ⟨bj67a0_8_l, Int.le_trans u129t_j67a0_8 (by decide)⟩, (fun _ => u129t_j67a0_8), ⟨by omega, Or.inl (by decide)⟩, hFe, by rw [ht]; exact hP, va_K.moved hW.alike hK, hD⟩, hS.F ht⟩) hS.2.2 dX8_next_241
                      · have gc129 := ai_nle c129
                        have l129f_j67a0_8 : (9 : Int) ≤ j67a0_8.toInt := ai_ltlo gc129 zq116
                        have hF0 := hF0.trans (if_neg (show ¬ (j67a0_8.toInt ≤ 8) from Int.not_le.mpr gc129))
                        refine lv_iconst (v := 1) hx hb dX8_next_132 zk_iconst_1 ?_
                        refine lv_goto (tgt := 137) hx hb dX8_next_133 (by decide) ?_
                        refine va_put (D := (dC, dI)) (ci := 8) (v := .int 1) (ty := .int) (C := RX8) (T := TX8) (N := 40) hx hb hts zi_X8_next_8 tyX8 tyX8_ok nmX8 hown hK hP hD hS 0 rfl rfl 6 (by decide) (hts (.fieldLink RX8 87 "WaxTurnsModel" "token" "I") (List.mem_cons_of_mem _ (List.mem_append_left _ (List.mem_of_getElem? (i := 4) rfl)))) (fun _ h9 => h9) rfl (tyX8_ok 6 (by decide)) rfl rfl (Nat.le_of_ble_eq_true rfl) dX8_next_137 (fun H locs hP hD hS => ?_)
                        refine zs_0 (y := (a0, .inr (8, [a0g_0, Value.ref a0_1, a0g_2, Value.int a0_3, Value.int j5l1, Value.int j67l1, Value.int 1, Value.int 0, Value.int j67a0_8, a0g_9, a0g_10, a0g_11, Value.ref a0_12, a0g_13, a0g_14, a0g_15, a0g_16, a0g_17, a0g_18, a0g_19, a0g_20, a0g_21, a0g_22, a0g_23, a0g_24, a0g_25, a0g_26, a0g_27, a0g_28, a0g_29, a0g_30, a0g_31, a0g_32, a0g_33, a0g_34, a0g_35, a0g_36, a0g_37, a0g_38, a0g_39]))) hP hD rfl (fun hP hD => ?_)
                        refine lv_goto (tgt := 241) hx hb dX8_next_140 (by decide) ?_
                        have hFe : FX = (j5l1.toInt, j67l1.toInt, 1, 0, j67a0_8.toInt, (fl_A j67a0_12_a)) := hF0
                        exact W.vret hx hb hr (fun t ht hW => ⟨⟨(), rfl, trivial, j5l1, j67l1, 1, 0, j67a0_8, j67a0_12_a, ⟨bj67l1_l, Int.le_trans u69k1_j67l1 (by decide)⟩, ⟨Int.le_trans (by decide) l129f_j67a0_8, bj67a0_8_u⟩, (fun h9 => absurd h9 (by decide)), ⟨by omega, Or.inl (by decide)⟩, hFe, by rw [ht]; exact hP, va_K.moved hW.alike hK, hD⟩, hS.F ht⟩) hS.2.2 dX8_next_241
              exact (hK0 _ _ _).mp (J67 901 j5l1 0 fa0_12 _ _ _ (by have h1 : (0 : Int) ≤ j5l1.toInt := bj5l1_l; have h2 : j5l1.toInt ≤ (899 : Int) := u28k1_j5l1; omega) bj5l1_l (Int.le_trans u28k1_j5l1 zq145) zq5 (Int.le_trans zq6 zq40) (by omega) (by have h1 : (0 : Int32).toInt = 0 := (by decide); omega) (by rw [show (0 : Int32).toInt = 0 from by decide]; exact hF0) hP hD hS (lv_sub hl [1, 2] rfl))
            · subst hw
              have hF0 := hF0.trans (if_neg (by decide))
              refine lv_if_eq (tgt := 143) hx hb dX8_next_64 (by decide) (fun _ => ?_) (fun c64 => absurd (by decide +kernel) c64)
              have J67 : ∀ (n : Nat) (j67l1 : Int32) (j67a0_8 : Int32) (j67a0_12_a : Nat → Int32) (H : Heap) (locs : List Loc) (ls : Array Slot), (901 : Int) - j67l1.toInt ≤ (n : Int) → (0 : Int) ≤ j67l1.toInt → j67l1.toInt ≤ (900 : Int) → (0 : Int) ≤ j67a0_8.toInt → j67a0_8.toInt ≤ (900 : Int) → (a0_5.toInt ≤ j67l1.toInt) → (j67a0_8.toInt ≤ j67l1.toInt) → (FX = fl_wh (fun t9 => Sf_X8_next_67_2 a0_3.toInt (fl_A fa0_1) j5l1.toInt t9.1 t9.2.1 t9.2.2) (0, 0, 0, 0, 0, (fun _ => 0)) n (j67l1.toInt, j67a0_8.toInt, (fl_A j67a0_12_a))) → va_P (dC, dI) vwCl [(a0, .inr (8, [a0g_0, Value.ref a0_1, a0g_2, Value.int a0_3, Value.int j5l1, Value.int a0_5, Value.int a0_6, Value.int 0, Value.int j67a0_8, a0g_9, a0g_10, a0g_11, Value.ref a0_12, a0g_13, a0g_14, a0g_15, a0g_16, a0g_17, a0g_18, a0g_19, a0g_20, a0g_21, a0g_22, a0g_23, a0g_24, a0g_25, a0g_26, a0g_27, a0g_28, a0g_29, a0g_30, a0g_31, a0g_32, a0g_33, a0g_34, a0g_35, a0g_36, a0g_37, a0g_38, a0g_39])), (a0_1, .inl (ka0_1, 900, .inl (fa0_1))), (a0_12, .inl (ka0_12, 8, .inl (j67a0_12_a)))] H → va_D A [(a0, .inr (8, [a0g_0, Value.ref a0_1, a0g_2, Value.int a0_3, Value.int j5l1, Value.int a0_5, Value.int a0_6, Value.int 0, Value.int j67a0_8, a0g_9, a0g_10, a0g_11, Value.ref a0_12, a0g_13, a0g_14, a0g_15, a0g_16, a0g_17, a0g_18, a0g_19, a0g_20, a0g_21, a0g_22, a0g_23, a0g_24, a0g_25, a0g_26, a0g_27, a0g_28, a0g_29, a0g_30, a0g_31, a0g_32, a0g_33, a0g_34, a0g_35, a0g_36, a0g_37, a0g_38, a0g_39])), (a0_1, .inl (ka0_1, 900, .inl (fa0_1))), (a0_12, .inl (ka0_12, 8, .inl (j67a0_12_a)))] → va_S A s.heap H locs → lv_has ls 4 [(0, .ref a0), (1, .int j67l1)] → K H locs (F0 m 67 ls []) := by
                intro n
                induction n with
                | zero =>
                  intro j67l1 j67a0_8 j67a0_12_a H locs ls hm bj67l1_l bj67l1_u bj67a0_8_l bj67a0_8_u ke67 nk67 hF0 hP hD hS hl
                  first | exact zg_0 hm bj67l1_u (by decide) | (have h8 := ai_min j67l1; have h9 := ai_max j67l1; exact absurd hm (by omega))
                | succ n ih67 =>
                  intro j67l1 j67a0_8 j67a0_12_a H locs ls hm bj67l1_l bj67l1_u bj67a0_8_l bj67a0_8_u ke67 nk67 hF0 hP hD hS hl
                  refine (hK0 _ _ _).mpr ?_
                  have hm67 := hm
                  obtain ⟨SX67, hSX67⟩ : ∃ q9, Sf_X8_next_67_2 a0_3.toInt (fl_A fa0_1) j5l1.toInt j67l1.toInt j67a0_8.toInt (fl_A j67a0_12_a) = q9 := ⟨_, rfl⟩
                  have hF1 := hSX67.symm.trans (Sf_X8_next_67_2.eq_1 a0_3.toInt (fl_A fa0_1) j5l1.toInt j67l1.toInt j67a0_8.toInt (fl_A j67a0_12_a))
                  refine lv_aload_n hx hb dX8_next_67 rfl (lv_at hl 0 rfl) ?_
                  refine lv_iload_n hx hb dX8_next_68 rfl (lv_at hl 1 rfl) ?_
                  have hKc := hK.sub (tys' := [(ka0_1, .int)]) [0] rfl
                  refine va_calli (va_runV (As := [.int j67l1]) (rest := []) ⟨hx, hb, hml, hown, hts⟩ (f_X8_see l dC dI H.size a0 j67l1 a0g_0 a0g_2 (Value.int j5l1) (Value.int a0_5) (Value.int a0_6) (Value.int 0) (Value.int j67a0_8) a0g_9 a0g_10 a0g_11 (Value.ref a0_12) a0g_13 a0g_14 a0g_15 a0g_16 a0g_17 a0g_18 a0g_19 a0g_20 a0g_21 a0g_22 a0g_23 a0g_24 a0g_25 a0g_26 a0g_27 a0g_28 a0g_29 a0g_30 a0g_31 a0g_32 a0g_33 a0g_34 a0g_35 a0g_36 a0g_37 a0g_38 a0g_39 a0_1 a0_3 ka0_1 fa0_1 bj67l1_l bj67l1_u ba0_3_l ba0_3_u) (cwV 1 hts gX8_next_X8_see rfl rfl rfl zd_X8_see ⟨Nat.le_of_ble_eq_true rfl, Nat.le_of_ble_eq_true rfl⟩) ⟨ax_blind (fun _ _ _ _ _ => trivial), zr_8 hKc (zp_P2 hP) (q0 := 0) rfl, ax_pre (zp_P2 hP) hKc (zp_D2 hD) (fun _ _ => trivial)⟩ rfl rfl hl.1 rfl (lv_room (Nat.le_of_ble_eq_true rfl)) dX8_next_69 ⟨Nat.le_of_ble_eq_true rfl, Nat.le_of_ble_eq_true rfl⟩) hS (fun q _ h => zp_F2 hD hS hA q h) (zp_F2 hD hS hA) (fun r69 u t H locs ht hvm hw hB hz1 hk1 hS1 => zo2 hB ht hP hD hk1 (zp_F2 hD hS hA) hS1 (fun hP hK1 hD hS => ?_))
                  obtain ⟨hw, hfr69⟩ := hw
                  have hc69 : Ff_X8_see j67l1.toInt a0_3.toInt (fl_A fa0_1) = r69.toInt := hfr69.symm
                  have hF1 := hF1.trans (fl_lt_eq hc69.symm)
                  rcases hw with hw | hw
                  · obtain ⟨hw, h69⟩ := hw
                    subst hw
                    have hF1 := hF1.trans (if_pos (show a0_3.toInt ≤ j67l1.toInt from h69))
                    refine va_calli (va_runS (As := [.int (-1)]) (rest := []) ⟨hx, hb, hml, hown, hts⟩ (f_X8_isSmall l dC dI H.size (-1) ) (va_cwS 1 hts gX8_next_X8_isSmall rfl rfl rfl zd_X8_isSmall.2 ⟨Nat.le_of_ble_eq_true rfl, Nat.le_of_ble_eq_true rfl⟩) ⟨ax_blind (fun _ _ _ _ _ => trivial), ax_pre (zp_P0 hP) (zp_K hK) (zp_D0 hD) (fun _ _ => trivial)⟩ rfl rfl hl.1 rfl (lv_room (Nat.le_of_ble_eq_true rfl)) dX8_next_72 ⟨Nat.le_of_ble_eq_true rfl, Nat.le_of_ble_eq_true rfl⟩) hS (fun q _ h => zp_F0 hD hS hA q h) (zp_F0 hD hS hA) (fun r72 u t H locs ht hvm hw hB hz1 hk1 hS1 => zo0 hB ht hP hD hk1 (zp_F0 hD hS hA) hS1 (fun hP hK1 hD hS => ?_))
                    obtain ⟨hw, hfr72⟩ := hw
                    rw [show ((-1) : Int32).toInt = (-1) from by decide] at hfr72
                    have hc72 : Ff_X8_isSmall (-1) = r72.toInt := hfr72.symm
                    have hF1 := hF1.trans (fl_lt_eq hc72.symm)
                    rcases hw with hw | hw
                    · obtain ⟨hw, h72_0, h72_1⟩ := hw
                      subst hw
                      exact absurd h72_0 (by decide)
                    · subst hw
                      have hF1 := hF1.trans (if_neg (by decide))
                      refine lv_if_eq (tgt := 117) hx hb dX8_next_75 (by decide) (fun _ => ?_) (fun c75 => absurd (by decide +kernel) c75)
                      have hF0 := hF0.trans (fl_wh_r (hSX67.trans hF1))
                      refine lv_aload_n hx hb dX8_next_117 rfl (lv_at hl 0 rfl) ?_
                      refine lv_iload_n hx hb dX8_next_118 rfl (lv_at hl 1 rfl) ?_
                      refine va_put (D := (dC, dI)) (ci := 8) (v := .int j67l1) (ty := .int) (C := RX8) (T := TX8) (N := 40) hx hb hts zi_X8_next_8 tyX8 tyX8_ok nmX8 hown hK hP hD hS 0 rfl rfl 5 (by decide) (hts (.fieldLink RX8 71 "WaxTurnsModel" "end" "I") (List.mem_cons_of_mem _ (List.mem_append_left _ (List.mem_of_getElem? (i := 0) rfl)))) (fun _ h9 => h9) rfl (tyX8_ok 5 (by decide)) rfl rfl (Nat.le_of_ble_eq_true rfl) dX8_next_119 (fun H locs hP hD hS => ?_)
                      refine zs_0 (y := (a0, .inr (8, [a0g_0, Value.ref a0_1, a0g_2, Value.int a0_3, Value.int j5l1, Value.int j67l1, Value.int a0_6, Value.int 0, Value.int j67a0_8, a0g_9, a0g_10, a0g_11, Value.ref a0_12, a0g_13, a0g_14, a0g_15, a0g_16, a0g_17, a0g_18, a0g_19, a0g_20, a0g_21, a0g_22, a0g_23, a0g_24, a0g_25, a0g_26, a0g_27, a0g_28, a0g_29, a0g_30, a0g_31, a0g_32, a0g_33, a0g_34, a0g_35, a0g_36, a0g_37, a0g_38, a0g_39]))) hP hD rfl (fun hP hD => ?_)
                      refine lv_aload_n hx hb dX8_next_122 rfl (lv_at hl 0 rfl) ?_
                      refine lv_aload_n hx hb dX8_next_123 rfl (lv_at hl 0 rfl) ?_
                      refine va_get (D := (dC, dI)) (ci := 8) (v := .int j67a0_8) (C := RX8) (T := TX8) (N := 40) hx hb hts zi_X8_next_8 hown hK hP 0 rfl rfl 8 (by decide) (hts (.fieldLink RX8 81 "WaxTurnsModel" "nameSize" "I") (List.mem_cons_of_mem _ (List.mem_append_left _ (List.mem_of_getElem? (i := 2) rfl)))) (fun _ h9 => h9) rfl dX8_next_124 ?_
                      refine lv_bipush (v := 8) hx hb dX8_next_127 zk_bipush_8 ?_
                      refine lv_icmp_le (tgt := 136) hx hb dX8_next_129 (by decide) (fun c129 => ?_) (fun c129 => ?_)
                      · have gc129 := ai_le c129
                        have u129t_j67a0_8 : j67a0_8.toInt ≤ (8 : Int) := Int.le_trans gc129 zq28
                        have hF0 := hF0.trans (if_pos (show j67a0_8.toInt ≤ 8 from gc129))
                        refine lv_iconst (v := 2) hx hb dX8_next_136 zk_iconst_2 ?_
                        refine va_put (D := (dC, dI)) (ci := 8) (v := .int 2) (ty := .int) (C := RX8) (T := TX8) (N := 40) hx hb hts zi_X8_next_8 tyX8 tyX8_ok nmX8 hown hK hP hD hS 0 rfl rfl 6 (by decide) (hts (.fieldLink RX8 87 "WaxTurnsModel" "token" "I") (List.mem_cons_of_mem _ (List.mem_append_left _ (List.mem_of_getElem? (i := 4) rfl)))) (fun _ h9 => h9) rfl (tyX8_ok 6 (by decide)) rfl rfl (Nat.le_of_ble_eq_true rfl) dX8_next_137 (fun H locs hP hD hS => ?_)
                        refine zs_0 (y := (a0, .inr (8, [a0g_0, Value.ref a0_1, a0g_2, Value.int a0_3, Value.int j5l1, Value.int j67l1, Value.int 2, Value.int 0, Value.int j67a0_8, a0g_9, a0g_10, a0g_11, Value.ref a0_12, a0g_13, a0g_14, a0g_15, a0g_16, a0g_17, a0g_18, a0g_19, a0g_20, a0g_21, a0g_22, a0g_23, a0g_24, a0g_25, a0g_26, a0g_27, a0g_28, a0g_29, a0g_30, a0g_31, a0g_32, a0g_33, a0g_34, a0g_35, a0g_36, a0g_37, a0g_38, a0g_39]))) hP hD rfl (fun hP hD => ?_)
                        refine lv_goto (tgt := 241) hx hb dX8_next_140 (by decide) ?_
                        have hFe : FX = (j5l1.toInt, j67l1.toInt, 2, 0, j67a0_8.toInt, (fl_A j67a0_12_a)) := hF0
                        exact W.vret hx hb hr (fun t ht hW => ⟨⟨(), rfl, trivial, j5l1, j67l1, 2, 0, j67a0_8, j67a0_12_a, ⟨bj67l1_l, bj67l1_u⟩, ⟨bj67a0_8_l, Int.le_trans u129t_j67a0_8 (by decide)⟩, (fun _ => u129t_j67a0_8), ⟨by omega, Or.inl (by decide)⟩, hFe, by rw [ht]; exact hP, va_K.moved hW.alike hK, hD⟩, hS.F ht⟩) hS.2.2 dX8_next_241
                      · have gc129 := ai_nle c129
                        have l129f_j67a0_8 : (9 : Int) ≤ j67a0_8.toInt := ai_ltlo gc129 zq116
                        have hF0 := hF0.trans (if_neg (show ¬ (j67a0_8.toInt ≤ 8) from Int.not_le.mpr gc129))
                        refine lv_iconst (v := 1) hx hb dX8_next_132 zk_iconst_1 ?_
                        refine lv_goto (tgt := 137) hx hb dX8_next_133 (by decide) ?_
                        refine va_put (D := (dC, dI)) (ci := 8) (v := .int 1) (ty := .int) (C := RX8) (T := TX8) (N := 40) hx hb hts zi_X8_next_8 tyX8 tyX8_ok nmX8 hown hK hP hD hS 0 rfl rfl 6 (by decide) (hts (.fieldLink RX8 87 "WaxTurnsModel" "token" "I") (List.mem_cons_of_mem _ (List.mem_append_left _ (List.mem_of_getElem? (i := 4) rfl)))) (fun _ h9 => h9) rfl (tyX8_ok 6 (by decide)) rfl rfl (Nat.le_of_ble_eq_true rfl) dX8_next_137 (fun H locs hP hD hS => ?_)
                        refine zs_0 (y := (a0, .inr (8, [a0g_0, Value.ref a0_1, a0g_2, Value.int a0_3, Value.int j5l1, Value.int j67l1, Value.int 1, Value.int 0, Value.int j67a0_8, a0g_9, a0g_10, a0g_11, Value.ref a0_12, a0g_13, a0g_14, a0g_15, a0g_16, a0g_17, a0g_18, a0g_19, a0g_20, a0g_21, a0g_22, a0g_23, a0g_24, a0g_25, a0g_26, a0g_27, a0g_28, a0g_29, a0g_30, a0g_31, a0g_32, a0g_33, a0g_34, a0g_35, a0g_36, a0g_37, a0g_38, a0g_39]))) hP hD rfl (fun hP hD => ?_)
                        refine lv_goto (tgt := 241) hx hb dX8_next_140 (by decide) ?_
                        have hFe : FX = (j5l1.toInt, j67l1.toInt, 1, 0, j67a0_8.toInt, (fl_A j67a0_12_a)) := hF0
                        exact W.vret hx hb hr (fun t ht hW => ⟨⟨(), rfl, trivial, j5l1, j67l1, 1, 0, j67a0_8, j67a0_12_a, ⟨bj67l1_l, bj67l1_u⟩, ⟨Int.le_trans (by decide) l129f_j67a0_8, bj67a0_8_u⟩, (fun h9 => absurd h9 (by decide)), ⟨by omega, Or.inl (by decide)⟩, hFe, by rw [ht]; exact hP, va_K.moved hW.alike hK, hD⟩, hS.F ht⟩) hS.2.2 dX8_next_241
                  · have h69 := hw
                    have u69k1_j67l1 : j67l1.toInt ≤ (899 : Int) := by have h1 := h69; have h2 := ba0_3_u; omega
                    have hF1 := hF1.trans (if_neg (show ¬ (a0_3.toInt ≤ j67l1.toInt) from Int.not_le.mpr h69))
                    refine va_calli (va_runS (As := [.int r69]) (rest := []) ⟨hx, hb, hml, hown, hts⟩ (f_X8_isSmall l dC dI H.size r69 ) (va_cwS 1 hts gX8_next_X8_isSmall rfl rfl rfl zd_X8_isSmall.2 ⟨Nat.le_of_ble_eq_true rfl, Nat.le_of_ble_eq_true rfl⟩) ⟨ax_blind (fun _ _ _ _ _ => trivial), ax_pre (zp_P0 hP) (zp_K hK) (zp_D0 hD) (fun _ _ => trivial)⟩ rfl rfl hl.1 rfl (lv_room (Nat.le_of_ble_eq_true rfl)) dX8_next_72 ⟨Nat.le_of_ble_eq_true rfl, Nat.le_of_ble_eq_true rfl⟩) hS (fun q _ h => zp_F0 hD hS hA q h) (zp_F0 hD hS hA) (fun r72 u t H locs ht hvm hw hB hz1 hk1 hS1 => zo0 hB ht hP hD hk1 (zp_F0 hD hS hA) hS1 (fun hP hK1 hD hS => ?_))
                    obtain ⟨hw, hfr72⟩ := hw
                    have hc72 : Ff_X8_isSmall r69.toInt = r72.toInt := hfr72.symm
                    have hF1 := hF1.trans (fl_lt_eq hc72.symm)
                    rcases hw with hw | hw
                    · obtain ⟨hw, h72_0, h72_1⟩ := hw
                      subst hw
                      have l72k0_r69 : (97 : Int) ≤ r69.toInt := h72_0
                      have u72k0_r69 : r69.toInt ≤ (122 : Int) := h72_1
                      have hF1 := hF1.trans (if_pos (by decide))
                      refine lv_if_eq (tgt := 117) hx hb dX8_next_75 (by decide) (fun c75 => absurd c75 (by decide +kernel)) (fun _ => ?_)
                      refine lv_aload_n hx hb dX8_next_78 rfl (lv_at hl 0 rfl) ?_
                      refine va_get (D := (dC, dI)) (ci := 8) (v := .int j67a0_8) (C := RX8) (T := TX8) (N := 40) hx hb hts zi_X8_next_8 hown hK hP 0 rfl rfl 8 (by decide) (hts (.fieldLink RX8 81 "WaxTurnsModel" "nameSize" "I") (List.mem_cons_of_mem _ (List.mem_append_left _ (List.mem_of_getElem? (i := 2) rfl)))) (fun _ h9 => h9) rfl dX8_next_79 ?_
                      refine lv_bipush (v := 8) hx hb dX8_next_82 zk_bipush_8 ?_
                      have J101 : ∀ (j101a0_12_a : Nat → Int32) (H : Heap) (locs : List Loc) (ls : Array Slot), (SX67 = Gf_X8_next_101_2 j67l1.toInt j67a0_8.toInt (fl_A j101a0_12_a)) → va_P (dC, dI) vwCl [(a0, .inr (8, [a0g_0, Value.ref a0_1, a0g_2, Value.int a0_3, Value.int j5l1, Value.int a0_5, Value.int a0_6, Value.int 0, Value.int j67a0_8, a0g_9, a0g_10, a0g_11, Value.ref a0_12, a0g_13, a0g_14, a0g_15, a0g_16, a0g_17, a0g_18, a0g_19, a0g_20, a0g_21, a0g_22, a0g_23, a0g_24, a0g_25, a0g_26, a0g_27, a0g_28, a0g_29, a0g_30, a0g_31, a0g_32, a0g_33, a0g_34, a0g_35, a0g_36, a0g_37, a0g_38, a0g_39])), (a0_1, .inl (ka0_1, 900, .inl (fa0_1))), (a0_12, .inl (ka0_12, 8, .inl (j101a0_12_a)))] H → va_D A [(a0, .inr (8, [a0g_0, Value.ref a0_1, a0g_2, Value.int a0_3, Value.int j5l1, Value.int a0_5, Value.int a0_6, Value.int 0, Value.int j67a0_8, a0g_9, a0g_10, a0g_11, Value.ref a0_12, a0g_13, a0g_14, a0g_15, a0g_16, a0g_17, a0g_18, a0g_19, a0g_20, a0g_21, a0g_22, a0g_23, a0g_24, a0g_25, a0g_26, a0g_27, a0g_28, a0g_29, a0g_30, a0g_31, a0g_32, a0g_33, a0g_34, a0g_35, a0g_36, a0g_37, a0g_38, a0g_39])), (a0_1, .inl (ka0_1, 900, .inl (fa0_1))), (a0_12, .inl (ka0_12, 8, .inl (j101a0_12_a)))] → va_S A s.heap H locs → lv_has ls 4 [(0, .ref a0), (1, .int j67l1)] → K H locs (F0 m 101 ls []) := by
                        intro j101a0_12_a H locs ls  hF1 hP hD hS hl
                        refine (hK0 _ _ _).mpr ?_
                        have hF1 := hF1.trans (Gf_X8_next_101_2.eq_1 j67l1.toInt j67a0_8.toInt (fl_A j101a0_12_a))
                        refine lv_aload_n hx hb dX8_next_101 rfl (lv_at hl 0 rfl) ?_
                        refine lv_dup hx hb dX8_next_102 rfl ?_
                        refine va_get (D := (dC, dI)) (ci := 8) (v := .int j67a0_8) (C := RX8) (T := TX8) (N := 40) hx hb hts zi_X8_next_8 hown hK hP 0 rfl rfl 8 (by decide) (hts (.fieldLink RX8 81 "WaxTurnsModel" "nameSize" "I") (List.mem_cons_of_mem _ (List.mem_append_left _ (List.mem_of_getElem? (i := 2) rfl)))) (fun _ h9 => h9) rfl dX8_next_103 ?_
                        have u103z_j67a0_8 : j67a0_8.toInt ≤ (899 : Int) := by omega
                        refine lv_iconst (v := 1) hx hb dX8_next_106 zk_iconst_1 ?_
                        refine lv_iadd hx hb dX8_next_107 ?_
                        refine lv_topi (fun x107 ex107 => ?_)
                        have qx107 : x107.toInt = j67a0_8.toInt + (1 : Int32).toInt := ai_add ex107 ⟨bj67a0_8_l, u103z_j67a0_8⟩ ⟨zq1, zq0⟩ (by decide) (by decide)
                        have bx107 : (1 : Int) ≤ x107.toInt ∧ x107.toInt ≤ 900 := ⟨by rw [qx107]; exact Int.add_le_add bj67a0_8_l zq1, by rw [qx107]; exact Int.add_le_add u103z_j67a0_8 zq0⟩
                        have wx107 : x107.toInt = j67a0_8.toInt + 1 := qx107
                        have hF1 := hF1.trans (fl_lt_eq (show x107.toInt = j67a0_8.toInt + 1 from qx107))
                        refine va_put (D := (dC, dI)) (ci := 8) (v := .int x107) (ty := .int) (C := RX8) (T := TX8) (N := 40) hx hb hts zi_X8_next_8 tyX8 tyX8_ok nmX8 hown hK hP hD hS 0 rfl rfl 8 (by decide) (hts (.fieldLink RX8 81 "WaxTurnsModel" "nameSize" "I") (List.mem_cons_of_mem _ (List.mem_append_left _ (List.mem_of_getElem? (i := 2) rfl)))) (fun _ h9 => h9) rfl (tyX8_ok 8 (by decide)) rfl rfl (Nat.le_of_ble_eq_true rfl) dX8_next_108 (fun H locs hP hD hS => ?_)
                        refine zs_0 (y := (a0, .inr (8, [a0g_0, Value.ref a0_1, a0g_2, Value.int a0_3, Value.int j5l1, Value.int a0_5, Value.int a0_6, Value.int 0, Value.int x107, a0g_9, a0g_10, a0g_11, Value.ref a0_12, a0g_13, a0g_14, a0g_15, a0g_16, a0g_17, a0g_18, a0g_19, a0g_20, a0g_21, a0g_22, a0g_23, a0g_24, a0g_25, a0g_26, a0g_27, a0g_28, a0g_29, a0g_30, a0g_31, a0g_32, a0g_33, a0g_34, a0g_35, a0g_36, a0g_37, a0g_38, a0g_39]))) hP hD rfl (fun hP hD => ?_)
                        obtain ⟨x111, ex111⟩ : ∃ y : Int32, y = j67l1 + Int32.ofInt 1 := ⟨_, rfl⟩
                        have qx111 : x111.toInt = j67l1.toInt + 1 := ai_inc ex111 (by decide) (by decide) u69k1_j67l1 (by decide)
                        have bx111 : (1 : Int) ≤ x111.toInt ∧ x111.toInt ≤ 900 := ⟨by rw [qx111]; exact Int.add_le_add bj67l1_l (Int.le_refl _), by rw [qx111]; exact Int.add_le_add u69k1_j67l1 (Int.le_refl _)⟩
                        refine lv_iinc (v := x111) (lv' := [(1, .int x111), (0, .ref a0)]) hx hb dX8_next_111 hl (k := 1) rfl ex111.symm (by decide) rfl (fun ls hl => ?_)
                        have hF1 := hF1.trans (fl_lt_eq (show x111.toInt = j67l1.toInt + 1 from qx111))
                        refine lv_goto (tgt := 67) hx hb dX8_next_114 (by decide) ?_
                        exact (hK0 _ _ _).mp (ih67 x111 x107 j101a0_12_a _ _ _ (by first | exact zg_s hm67 qx111 | (have h0 := qx111; omega)) (Int.le_trans zq4 bx111.1) bx111.2 (Int.le_trans zq4 bx107.1) bx107.2 (by omega) (by omega) (hF0.trans (fl_wh_l (hSX67.trans hF1))) hP hD hS (lv_sub hl [1, 0] rfl))
                      refine lv_icmp_ge (tgt := 101) hx hb dX8_next_84 (by decide) (fun c84 => ?_) (fun c84 => ?_)
                      · have gc84 := ai_le c84
                        have l84t_j67a0_8 : (8 : Int) ≤ j67a0_8.toInt := Int.le_trans zq116 gc84
                        have hF1 := hF1.trans (if_pos (show 8 ≤ j67a0_8.toInt from gc84))
                        exact (hK0 _ _ _).mp (J101 j67a0_12_a _ _ _   hF1 hP hD hS (lv_sub hl [0, 1] rfl))
                      · have gc84 := ai_nle c84
                        have u84f_j67a0_8 : j67a0_8.toInt ≤ (7 : Int) := ai_lthi gc84 zq28
                        have hF1 := hF1.trans (if_neg (show ¬ (8 ≤ j67a0_8.toInt) from Int.not_le.mpr gc84))
                        refine lv_aload_n hx hb dX8_next_87 rfl (lv_at hl 0 rfl) ?_
                        refine va_get (D := (dC, dI)) (ci := 8) (v := .ref a0_12) (C := RX8) (T := TX8) (N := 40) hx hb hts zi_X8_next_8 hown hK hP 0 rfl rfl 12 (by decide) (hts (.fieldLink RX8 17 "WaxTurnsModel" "letters" "[I") (List.mem_cons_of_mem _ (List.mem_append_left _ (List.mem_of_getElem? (i := 5) rfl)))) (fun _ h9 => h9) rfl dX8_next_88 ?_
                        refine lv_aload_n hx hb dX8_next_91 rfl (lv_at hl 0 rfl) ?_
                        refine va_get (D := (dC, dI)) (ci := 8) (v := .int j67a0_8) (C := RX8) (T := TX8) (N := 40) hx hb hts zi_X8_next_8 hown hK hP 0 rfl rfl 8 (by decide) (hts (.fieldLink RX8 81 "WaxTurnsModel" "nameSize" "I") (List.mem_cons_of_mem _ (List.mem_append_left _ (List.mem_of_getElem? (i := 2) rfl)))) (fun _ h9 => h9) rfl dX8_next_92 ?_
                        refine lv_aload_n hx hb dX8_next_95 rfl (lv_at hl 0 rfl) ?_
                        refine lv_iload_n hx hb dX8_next_96 rfl (lv_at hl 1 rfl) ?_
                        have hKc := hK.sub (tys' := [(ka0_1, .int)]) [0] rfl
                        refine va_calli (va_runV (As := [.int j67l1]) (rest := [.int j67a0_8, .ref a0_12]) ⟨hx, hb, hml, hown, hts⟩ (f_X8_see l dC dI H.size a0 j67l1 a0g_0 a0g_2 (Value.int j5l1) (Value.int a0_5) (Value.int a0_6) (Value.int 0) (Value.int j67a0_8) a0g_9 a0g_10 a0g_11 (Value.ref a0_12) a0g_13 a0g_14 a0g_15 a0g_16 a0g_17 a0g_18 a0g_19 a0g_20 a0g_21 a0g_22 a0g_23 a0g_24 a0g_25 a0g_26 a0g_27 a0g_28 a0g_29 a0g_30 a0g_31 a0g_32 a0g_33 a0g_34 a0g_35 a0g_36 a0g_37 a0g_38 a0g_39 a0_1 a0_3 ka0_1 fa0_1 bj67l1_l (Int.le_trans u69k1_j67l1 zq145) ba0_3_l ba0_3_u) (cwV 1 hts gX8_next_X8_see rfl rfl rfl zd_X8_see ⟨Nat.le_of_ble_eq_true rfl, Nat.le_of_ble_eq_true rfl⟩) ⟨ax_blind (fun _ _ _ _ _ => trivial), zr_8 hKc (zp_P2 hP) (q0 := 0) rfl, ax_pre (zp_P2 hP) hKc (zp_D2 hD) (fun _ _ => trivial)⟩ rfl rfl hl.1 rfl (lv_room (Nat.le_of_ble_eq_true rfl)) dX8_next_97 ⟨Nat.le_of_ble_eq_true rfl, Nat.le_of_ble_eq_true rfl⟩) hS (fun q _ h => zp_F2 hD hS hA q h) (zp_F2 hD hS hA) (fun r97 u t H locs ht hvm hw hB hz1 hk1 hS1 => zo2 hB ht hP hD hk1 (zp_F2 hD hS hA) hS1 (fun hP hK1 hD hS => ?_))
                        obtain ⟨hw, hfr97⟩ := hw
                        have hc97 : Ff_X8_see j67l1.toInt a0_3.toInt (fl_A fa0_1) = r97.toInt := hfr97.symm
                        have hF1 := hF1.trans (fl_lt_eq hc97.symm)
                        rcases hw with hw | hw
                        · obtain ⟨hw, h97⟩ := hw
                          subst hw
                          have hF1 := hF1.trans (if_pos (show a0_3.toInt ≤ j67l1.toInt from h97))
                          refine va_iast hx hb hK hP hD hS 2 1 rfl rfl (ai_in bj67a0_8_l u84f_j67a0_8 (by decide) (by decide)) dX8_next_100 (fun H locs hP hD hS => ?_)
                          obtain ⟨f100, ef100⟩ : ∃ g9 : Nat → Int32, g9 = upd j67a0_12_a (j67a0_8 : Int32).toNatClampNeg ((-1) : Int32) := ⟨_, rfl⟩
                          refine zs_2 (y := (a0_12, .inl (ka0_12, 8, .inl (f100)))) hP hD (by rw [ef100]) (fun hP hD => ?_)
                          have fqf100 := fl_up_eq ef100
                          have hF1 := hF1.trans (fl_lt_eq (show (fl_A f100) = fl_up (fl_A j67a0_12_a) (j67a0_8.toInt.toNat) (-1) from fqf100))
                          exact (hK0 _ _ _).mp (J101 f100 _ _ _   hF1 hP hD hS (lv_sub hl [0, 1] rfl))
                        · have h97 := hw
                          have u97k1_j67l1 : j67l1.toInt ≤ (899 : Int) := u69k1_j67l1
                          have hF1 := hF1.trans (if_neg (show ¬ (a0_3.toInt ≤ j67l1.toInt) from Int.not_le.mpr h97))
                          refine va_iast hx hb hK hP hD hS 2 1 rfl rfl (ai_in bj67a0_8_l u84f_j67a0_8 (by decide) (by decide)) dX8_next_100 (fun H locs hP hD hS => ?_)
                          obtain ⟨f100, ef100⟩ : ∃ g9 : Nat → Int32, g9 = upd j67a0_12_a (j67a0_8 : Int32).toNatClampNeg r97 := ⟨_, rfl⟩
                          refine zs_2 (y := (a0_12, .inl (ka0_12, 8, .inl (f100)))) hP hD (by rw [ef100]) (fun hP hD => ?_)
                          have fqf100 := fl_up_eq ef100
                          have hF1 := hF1.trans (fl_lt_eq (show (fl_A f100) = fl_up (fl_A j67a0_12_a) (j67a0_8.toInt.toNat) r97.toInt from fqf100))
                          exact (hK0 _ _ _).mp (J101 f100 _ _ _   hF1 hP hD hS (lv_sub hl [0, 1] rfl))
                    · subst hw
                      have hF1 := hF1.trans (if_neg (by decide))
                      refine lv_if_eq (tgt := 117) hx hb dX8_next_75 (by decide) (fun _ => ?_) (fun c75 => absurd (by decide +kernel) c75)
                      have hF0 := hF0.trans (fl_wh_r (hSX67.trans hF1))
                      refine lv_aload_n hx hb dX8_next_117 rfl (lv_at hl 0 rfl) ?_
                      refine lv_iload_n hx hb dX8_next_118 rfl (lv_at hl 1 rfl) ?_
                      refine va_put (D := (dC, dI)) (ci := 8) (v := .int j67l1) (ty := .int) (C := RX8) (T := TX8) (N := 40) hx hb hts zi_X8_next_8 tyX8 tyX8_ok nmX8 hown hK hP hD hS 0 rfl rfl 5 (by decide) (hts (.fieldLink RX8 71 "WaxTurnsModel" "end" "I") (List.mem_cons_of_mem _ (List.mem_append_left _ (List.mem_of_getElem? (i := 0) rfl)))) (fun _ h9 => h9) rfl (tyX8_ok 5 (by decide)) rfl rfl (Nat.le_of_ble_eq_true rfl) dX8_next_119 (fun H locs hP hD hS => ?_)
                      refine zs_0 (y := (a0, .inr (8, [a0g_0, Value.ref a0_1, a0g_2, Value.int a0_3, Value.int j5l1, Value.int j67l1, Value.int a0_6, Value.int 0, Value.int j67a0_8, a0g_9, a0g_10, a0g_11, Value.ref a0_12, a0g_13, a0g_14, a0g_15, a0g_16, a0g_17, a0g_18, a0g_19, a0g_20, a0g_21, a0g_22, a0g_23, a0g_24, a0g_25, a0g_26, a0g_27, a0g_28, a0g_29, a0g_30, a0g_31, a0g_32, a0g_33, a0g_34, a0g_35, a0g_36, a0g_37, a0g_38, a0g_39]))) hP hD rfl (fun hP hD => ?_)
                      refine lv_aload_n hx hb dX8_next_122 rfl (lv_at hl 0 rfl) ?_
                      refine lv_aload_n hx hb dX8_next_123 rfl (lv_at hl 0 rfl) ?_
                      refine va_get (D := (dC, dI)) (ci := 8) (v := .int j67a0_8) (C := RX8) (T := TX8) (N := 40) hx hb hts zi_X8_next_8 hown hK hP 0 rfl rfl 8 (by decide) (hts (.fieldLink RX8 81 "WaxTurnsModel" "nameSize" "I") (List.mem_cons_of_mem _ (List.mem_append_left _ (List.mem_of_getElem? (i := 2) rfl)))) (fun _ h9 => h9) rfl dX8_next_124 ?_
                      refine lv_bipush (v := 8) hx hb dX8_next_127 zk_bipush_8 ?_
                      refine lv_icmp_le (tgt := 136) hx hb dX8_next_129 (by decide) (fun c129 => ?_) (fun c129 => ?_)
                      · have gc129 := ai_le c129
                        have u129t_j67a0_8 : j67a0_8.toInt ≤ (8 : Int) := Int.le_trans gc129 zq28
                        have hF0 := hF0.trans (if_pos (show j67a0_8.toInt ≤ 8 from gc129))
                        refine lv_iconst (v := 2) hx hb dX8_next_136 zk_iconst_2 ?_
                        refine va_put (D := (dC, dI)) (ci := 8) (v := .int 2) (ty := .int) (C := RX8) (T := TX8) (N := 40) hx hb hts zi_X8_next_8 tyX8 tyX8_ok nmX8 hown hK hP hD hS 0 rfl rfl 6 (by decide) (hts (.fieldLink RX8 87 "WaxTurnsModel" "token" "I") (List.mem_cons_of_mem _ (List.mem_append_left _ (List.mem_of_getElem? (i := 4) rfl)))) (fun _ h9 => h9) rfl (tyX8_ok 6 (by decide)) rfl rfl (Nat.le_of_ble_eq_true rfl) dX8_next_137 (fun H locs hP hD hS => ?_)
                        refine zs_0 (y := (a0, .inr (8, [a0g_0, Value.ref a0_1, a0g_2, Value.int a0_3, Value.int j5l1, Value.int j67l1, Value.int 2, Value.int 0, Value.int j67a0_8, a0g_9, a0g_10, a0g_11, Value.ref a0_12, a0g_13, a0g_14, a0g_15, a0g_16, a0g_17, a0g_18, a0g_19, a0g_20, a0g_21, a0g_22, a0g_23, a0g_24, a0g_25, a0g_26, a0g_27, a0g_28, a0g_29, a0g_30, a0g_31, a0g_32, a0g_33, a0g_34, a0g_35, a0g_36, a0g_37, a0g_38, a0g_39]))) hP hD rfl (fun hP hD => ?_)
                        refine lv_goto (tgt := 241) hx hb dX8_next_140 (by decide) ?_
                        have hFe : FX = (j5l1.toInt, j67l1.toInt, 2, 0, j67a0_8.toInt, (fl_A j67a0_12_a)) := hF0
                        exact W.vret hx hb hr (fun t ht hW => ⟨⟨(), rfl, trivial, j5l1, j67l1, 2, 0, j67a0_8, j67a0_12_a, ⟨bj67l1_l, Int.le_trans u69k1_j67l1 (by decide)⟩, ⟨bj67a0_8_l, Int.le_trans u129t_j67a0_8 (by decide)⟩, (fun _ => u129t_j67a0_8), ⟨by omega, Or.inl (by decide)⟩, hFe, by rw [ht]; exact hP, va_K.moved hW.alike hK, hD⟩, hS.F ht⟩) hS.2.2 dX8_next_241
                      · have gc129 := ai_nle c129
                        have l129f_j67a0_8 : (9 : Int) ≤ j67a0_8.toInt := ai_ltlo gc129 zq116
                        have hF0 := hF0.trans (if_neg (show ¬ (j67a0_8.toInt ≤ 8) from Int.not_le.mpr gc129))
                        refine lv_iconst (v := 1) hx hb dX8_next_132 zk_iconst_1 ?_
                        refine lv_goto (tgt := 137) hx hb dX8_next_133 (by decide) ?_
                        refine va_put (D := (dC, dI)) (ci := 8) (v := .int 1) (ty := .int) (C := RX8) (T := TX8) (N := 40) hx hb hts zi_X8_next_8 tyX8 tyX8_ok nmX8 hown hK hP hD hS 0 rfl rfl 6 (by decide) (hts (.fieldLink RX8 87 "WaxTurnsModel" "token" "I") (List.mem_cons_of_mem _ (List.mem_append_left _ (List.mem_of_getElem? (i := 4) rfl)))) (fun _ h9 => h9) rfl (tyX8_ok 6 (by decide)) rfl rfl (Nat.le_of_ble_eq_true rfl) dX8_next_137 (fun H locs hP hD hS => ?_)
                        refine zs_0 (y := (a0, .inr (8, [a0g_0, Value.ref a0_1, a0g_2, Value.int a0_3, Value.int j5l1, Value.int j67l1, Value.int 1, Value.int 0, Value.int j67a0_8, a0g_9, a0g_10, a0g_11, Value.ref a0_12, a0g_13, a0g_14, a0g_15, a0g_16, a0g_17, a0g_18, a0g_19, a0g_20, a0g_21, a0g_22, a0g_23, a0g_24, a0g_25, a0g_26, a0g_27, a0g_28, a0g_29, a0g_30, a0g_31, a0g_32, a0g_33, a0g_34, a0g_35, a0g_36, a0g_37, a0g_38, a0g_39]))) hP hD rfl (fun hP hD => ?_)
                        refine lv_goto (tgt := 241) hx hb dX8_next_140 (by decide) ?_
                        have hFe : FX = (j5l1.toInt, j67l1.toInt, 1, 0, j67a0_8.toInt, (fl_A j67a0_12_a)) := hF0
                        exact W.vret hx hb hr (fun t ht hW => ⟨⟨(), rfl, trivial, j5l1, j67l1, 1, 0, j67a0_8, j67a0_12_a, ⟨bj67l1_l, Int.le_trans u69k1_j67l1 (by decide)⟩, ⟨Int.le_trans (by decide) l129f_j67a0_8, bj67a0_8_u⟩, (fun h9 => absurd h9 (by decide)), ⟨by omega, Or.inl (by decide)⟩, hFe, by rw [ht]; exact hP, va_K.moved hW.alike hK, hD⟩, hS.F ht⟩) hS.2.2 dX8_next_241
              refine lv_iload_n hx hb dX8_next_143 rfl (lv_at hl 0 rfl) ?_
              refine va_calli (va_runS (As := [.int r28]) (rest := []) ⟨hx, hb, hml, hown, hts⟩ (f_X8_isDigit l dC dI H.size r28 ) (va_cwS 1 hts gX8_next_X8_isDigit rfl rfl rfl zd_X8_isDigit.2 ⟨Nat.le_of_ble_eq_true rfl, Nat.le_of_ble_eq_true rfl⟩) ⟨ax_blind (fun _ _ _ _ _ => trivial), ax_pre (zp_P0 hP) (zp_K hK) (zp_D0 hD) (fun _ _ => trivial)⟩ rfl rfl hl.1 rfl (lv_room (Nat.le_of_ble_eq_true rfl)) dX8_next_144 ⟨Nat.le_of_ble_eq_true rfl, Nat.le_of_ble_eq_true rfl⟩) hS (fun q _ h => zp_F0 hD hS hA q h) (zp_F0 hD hS hA) (fun r144 u t H locs ht hvm hw hB hz1 hk1 hS1 => zo0 hB ht hP hD hk1 (zp_F0 hD hS hA) hS1 (fun hP hK1 hD hS => ?_))
              obtain ⟨hw, hfr144⟩ := hw
              have hc144 : Ff_X8_isDigit r28.toInt = r144.toInt := hfr144.symm
              have hF0 := hF0.trans (fl_lt_eq hc144.symm)
              rcases hw with hw | hw
              · obtain ⟨hw, h144_0, h144_1⟩ := hw
                subst hw
                have l144k0_r28 : (48 : Int) ≤ r28.toInt := h144_0
                have u144k0_r28 : r28.toInt ≤ (57 : Int) := h144_1
                have hF0 := hF0.trans (if_pos (by decide))
                refine lv_if_eq (tgt := 219) hx hb dX8_next_147 (by decide) (fun c147 => absurd c147 (by decide +kernel)) (fun _ => ?_)
                refine lv_iconst (v := 0) hx hb dX8_next_150 zk_iconst_0 ?_
                refine lv_istore_n (lv' := [(3, .int 0), (2, .int r28), (0, .ref a0), (1, .int j5l1)]) hx hb dX8_next_151 rfl hl (by decide) rfl (fun ls hl => ?_)
                have J152 : ∀ (n : Nat) (j152l3 : Int32) (j152l1 : Int32) (j152a0_7 : Int32) (H : Heap) (locs : List Loc) (ls : Array Slot), (901 : Int) - j152l1.toInt ≤ (n : Int) → (0 : Int) ≤ j152l1.toInt → j152l1.toInt ≤ (900 : Int) → (a0_5.toInt ≤ j152l1.toInt) → (FX = fl_wh (fun t9 => Sf_X8_next_152_1 a0_3.toInt (fl_A fa0_1) (fl_A fa0_12) j5l1.toInt t9.1 t9.2.1 t9.2.2) (0, 0, 0, 0, 0, (fun _ => 0)) n (j152l3.toInt, j152l1.toInt, j152a0_7.toInt)) → va_P (dC, dI) vwCl [(a0, .inr (8, [a0g_0, Value.ref a0_1, a0g_2, Value.int a0_3, Value.int j5l1, Value.int a0_5, Value.int a0_6, Value.int j152a0_7, Value.int 0, a0g_9, a0g_10, a0g_11, Value.ref a0_12, a0g_13, a0g_14, a0g_15, a0g_16, a0g_17, a0g_18, a0g_19, a0g_20, a0g_21, a0g_22, a0g_23, a0g_24, a0g_25, a0g_26, a0g_27, a0g_28, a0g_29, a0g_30, a0g_31, a0g_32, a0g_33, a0g_34, a0g_35, a0g_36, a0g_37, a0g_38, a0g_39])), (a0_1, .inl (ka0_1, 900, .inl (fa0_1))), (a0_12, .inl (ka0_12, 8, .inl (fa0_12)))] H → va_D A [(a0, .inr (8, [a0g_0, Value.ref a0_1, a0g_2, Value.int a0_3, Value.int j5l1, Value.int a0_5, Value.int a0_6, Value.int j152a0_7, Value.int 0, a0g_9, a0g_10, a0g_11, Value.ref a0_12, a0g_13, a0g_14, a0g_15, a0g_16, a0g_17, a0g_18, a0g_19, a0g_20, a0g_21, a0g_22, a0g_23, a0g_24, a0g_25, a0g_26, a0g_27, a0g_28, a0g_29, a0g_30, a0g_31, a0g_32, a0g_33, a0g_34, a0g_35, a0g_36, a0g_37, a0g_38, a0g_39])), (a0_1, .inl (ka0_1, 900, .inl (fa0_1))), (a0_12, .inl (ka0_12, 8, .inl (fa0_12)))] → va_S A s.heap H locs → lv_has ls 4 [(0, .ref a0), (1, .int j152l1), (3, .int j152l3)] → K H locs (F0 m 152 ls []) := by
                  intro n
                  induction n with
                  | zero =>
                    intro j152l3 j152l1 j152a0_7 H locs ls hm bj152l1_l bj152l1_u ke152 hF0 hP hD hS hl
                    first | exact zg_0 hm bj152l1_u (by decide) | (have h8 := ai_min j152l1; have h9 := ai_max j152l1; exact absurd hm (by omega))
                  | succ n ih152 =>
                    intro j152l3 j152l1 j152a0_7 H locs ls hm bj152l1_l bj152l1_u ke152 hF0 hP hD hS hl
                    refine (hK0 _ _ _).mpr ?_
                    have hm152 := hm
                    obtain ⟨SX152, hSX152⟩ : ∃ q9, Sf_X8_next_152_1 a0_3.toInt (fl_A fa0_1) (fl_A fa0_12) j5l1.toInt j152l3.toInt j152l1.toInt j152a0_7.toInt = q9 := ⟨_, rfl⟩
                    have hF1 := hSX152.symm.trans (Sf_X8_next_152_1.eq_1 a0_3.toInt (fl_A fa0_1) (fl_A fa0_12) j5l1.toInt j152l3.toInt j152l1.toInt j152a0_7.toInt)
                    refine lv_aload_n hx hb dX8_next_152 rfl (lv_at hl 0 rfl) ?_
                    refine lv_iload_n hx hb dX8_next_153 rfl (lv_at hl 1 rfl) ?_
                    have hKc := hK.sub (tys' := [(ka0_1, .int)]) [0] rfl
                    refine va_calli (va_runV (As := [.int j152l1]) (rest := []) ⟨hx, hb, hml, hown, hts⟩ (f_X8_see l dC dI H.size a0 j152l1 a0g_0 a0g_2 (Value.int j5l1) (Value.int a0_5) (Value.int a0_6) (Value.int j152a0_7) (Value.int 0) a0g_9 a0g_10 a0g_11 (Value.ref a0_12) a0g_13 a0g_14 a0g_15 a0g_16 a0g_17 a0g_18 a0g_19 a0g_20 a0g_21 a0g_22 a0g_23 a0g_24 a0g_25 a0g_26 a0g_27 a0g_28 a0g_29 a0g_30 a0g_31 a0g_32 a0g_33 a0g_34 a0g_35 a0g_36 a0g_37 a0g_38 a0g_39 a0_1 a0_3 ka0_1 fa0_1 bj152l1_l bj152l1_u ba0_3_l ba0_3_u) (cwV 1 hts gX8_next_X8_see rfl rfl rfl zd_X8_see ⟨Nat.le_of_ble_eq_true rfl, Nat.le_of_ble_eq_true rfl⟩) ⟨ax_blind (fun _ _ _ _ _ => trivial), zr_8 hKc (zp_P2 hP) (q0 := 0) rfl, ax_pre (zp_P2 hP) hKc (zp_D2 hD) (fun _ _ => trivial)⟩ rfl rfl hl.1 rfl (lv_room (Nat.le_of_ble_eq_true rfl)) dX8_next_154 ⟨Nat.le_of_ble_eq_true rfl, Nat.le_of_ble_eq_true rfl⟩) hS (fun q _ h => zp_F2 hD hS hA q h) (zp_F2 hD hS hA) (fun r154 u t H locs ht hvm hw hB hz1 hk1 hS1 => zo2 hB ht hP hD hk1 (zp_F2 hD hS hA) hS1 (fun hP hK1 hD hS => ?_))
                    obtain ⟨hw, hfr154⟩ := hw
                    have hc154 : Ff_X8_see j152l1.toInt a0_3.toInt (fl_A fa0_1) = r154.toInt := hfr154.symm
                    have hF1 := hF1.trans (fl_lt_eq hc154.symm)
                    rcases hw with hw | hw
                    · obtain ⟨hw, h154⟩ := hw
                      subst hw
                      have hF1 := hF1.trans (if_pos (show a0_3.toInt ≤ j152l1.toInt from h154))
                      refine va_calli (va_runS (As := [.int (-1)]) (rest := []) ⟨hx, hb, hml, hown, hts⟩ (f_X8_isDigit l dC dI H.size (-1) ) (va_cwS 1 hts gX8_next_X8_isDigit rfl rfl rfl zd_X8_isDigit.2 ⟨Nat.le_of_ble_eq_true rfl, Nat.le_of_ble_eq_true rfl⟩) ⟨ax_blind (fun _ _ _ _ _ => trivial), ax_pre (zp_P0 hP) (zp_K hK) (zp_D0 hD) (fun _ _ => trivial)⟩ rfl rfl hl.1 rfl (lv_room (Nat.le_of_ble_eq_true rfl)) dX8_next_157 ⟨Nat.le_of_ble_eq_true rfl, Nat.le_of_ble_eq_true rfl⟩) hS (fun q _ h => zp_F0 hD hS hA q h) (zp_F0 hD hS hA) (fun r157 u t H locs ht hvm hw hB hz1 hk1 hS1 => zo0 hB ht hP hD hk1 (zp_F0 hD hS hA) hS1 (fun hP hK1 hD hS => ?_))
                      obtain ⟨hw, hfr157⟩ := hw
                      rw [show ((-1) : Int32).toInt = (-1) from by decide] at hfr157
                      have hc157 : Ff_X8_isDigit (-1) = r157.toInt := hfr157.symm
                      have hF1 := hF1.trans (fl_lt_eq hc157.symm)
                      rcases hw with hw | hw
                      · obtain ⟨hw, h157_0, h157_1⟩ := hw
                        subst hw
                        exact absurd h157_0 (by decide)
                      · subst hw
                        have hF1 := hF1.trans (if_neg (by decide))
                        refine lv_if_eq (tgt := 197) hx hb dX8_next_160 (by decide) (fun _ => ?_) (fun c160 => absurd (by decide +kernel) c160)
                        have hF0 := hF0.trans (fl_wh_r (hSX152.trans hF1))
                        refine lv_aload_n hx hb dX8_next_197 rfl (lv_at hl 0 rfl) ?_
                        refine lv_iload_n hx hb dX8_next_198 rfl (lv_at hl 1 rfl) ?_
                        refine va_put (D := (dC, dI)) (ci := 8) (v := .int j152l1) (ty := .int) (C := RX8) (T := TX8) (N := 40) hx hb hts zi_X8_next_8 tyX8 tyX8_ok nmX8 hown hK hP hD hS 0 rfl rfl 5 (by decide) (hts (.fieldLink RX8 71 "WaxTurnsModel" "end" "I") (List.mem_cons_of_mem _ (List.mem_append_left _ (List.mem_of_getElem? (i := 0) rfl)))) (fun _ h9 => h9) rfl (tyX8_ok 5 (by decide)) rfl rfl (Nat.le_of_ble_eq_true rfl) dX8_next_199 (fun H locs hP hD hS => ?_)
                        refine zs_0 (y := (a0, .inr (8, [a0g_0, Value.ref a0_1, a0g_2, Value.int a0_3, Value.int j5l1, Value.int j152l1, Value.int a0_6, Value.int j152a0_7, Value.int 0, a0g_9, a0g_10, a0g_11, Value.ref a0_12, a0g_13, a0g_14, a0g_15, a0g_16, a0g_17, a0g_18, a0g_19, a0g_20, a0g_21, a0g_22, a0g_23, a0g_24, a0g_25, a0g_26, a0g_27, a0g_28, a0g_29, a0g_30, a0g_31, a0g_32, a0g_33, a0g_34, a0g_35, a0g_36, a0g_37, a0g_38, a0g_39]))) hP hD rfl (fun hP hD => ?_)
                        refine lv_aload_n hx hb dX8_next_202 rfl (lv_at hl 0 rfl) ?_
                        refine lv_iload_n hx hb dX8_next_203 rfl (lv_at hl 2 rfl) ?_
                        refine lv_iconst (v := 3) hx hb dX8_next_204 zk_iconst_3 ?_
                        refine lv_icmp_le (tgt := 212) hx hb dX8_next_205 (by decide) (fun c205 => ?_) (fun c205 => ?_)
                        · have gc205 := ai_le c205
                          have u205t_j152l3 : j152l3.toInt ≤ (3 : Int) := Int.le_trans gc205 zq9
                          have hF0 := hF0.trans (if_pos (show j152l3.toInt ≤ 3 from gc205))
                          refine lv_iconst (v := 3) hx hb dX8_next_212 zk_iconst_3 ?_
                          refine va_put (D := (dC, dI)) (ci := 8) (v := .int 3) (ty := .int) (C := RX8) (T := TX8) (N := 40) hx hb hts zi_X8_next_8 tyX8 tyX8_ok nmX8 hown hK hP hD hS 0 rfl rfl 6 (by decide) (hts (.fieldLink RX8 87 "WaxTurnsModel" "token" "I") (List.mem_cons_of_mem _ (List.mem_append_left _ (List.mem_of_getElem? (i := 4) rfl)))) (fun _ h9 => h9) rfl (tyX8_ok 6 (by decide)) rfl rfl (Nat.le_of_ble_eq_true rfl) dX8_next_213 (fun H locs hP hD hS => ?_)
                          refine zs_0 (y := (a0, .inr (8, [a0g_0, Value.ref a0_1, a0g_2, Value.int a0_3, Value.int j5l1, Value.int j152l1, Value.int 3, Value.int j152a0_7, Value.int 0, a0g_9, a0g_10, a0g_11, Value.ref a0_12, a0g_13, a0g_14, a0g_15, a0g_16, a0g_17, a0g_18, a0g_19, a0g_20, a0g_21, a0g_22, a0g_23, a0g_24, a0g_25, a0g_26, a0g_27, a0g_28, a0g_29, a0g_30, a0g_31, a0g_32, a0g_33, a0g_34, a0g_35, a0g_36, a0g_37, a0g_38, a0g_39]))) hP hD rfl (fun hP hD => ?_)
                          refine lv_goto (tgt := 241) hx hb dX8_next_216 (by decide) ?_
                          have hFe : FX = (j5l1.toInt, j152l1.toInt, 3, j152a0_7.toInt, 0, (fl_A fa0_12)) := hF0
                          exact W.vret hx hb hr (fun t ht hW => ⟨⟨(), rfl, trivial, j5l1, j152l1, 3, j152a0_7, 0, fa0_12, ⟨bj152l1_l, bj152l1_u⟩, ⟨zq5, Int.le_trans zq6 (by decide)⟩, (fun h9 => absurd h9 (by decide)), ⟨by omega, Or.inl (by decide)⟩, hFe, by rw [ht]; exact hP, va_K.moved hW.alike hK, hD⟩, hS.F ht⟩) hS.2.2 dX8_next_241
                        · have gc205 := ai_nle c205
                          have l205f_j152l3 : (4 : Int) ≤ j152l3.toInt := ai_ltlo gc205 zq8
                          have hF0 := hF0.trans (if_neg (show ¬ (j152l3.toInt ≤ 3) from Int.not_le.mpr gc205))
                          refine lv_iconst (v := 1) hx hb dX8_next_208 zk_iconst_1 ?_
                          refine lv_goto (tgt := 213) hx hb dX8_next_209 (by decide) ?_
                          refine va_put (D := (dC, dI)) (ci := 8) (v := .int 1) (ty := .int) (C := RX8) (T := TX8) (N := 40) hx hb hts zi_X8_next_8 tyX8 tyX8_ok nmX8 hown hK hP hD hS 0 rfl rfl 6 (by decide) (hts (.fieldLink RX8 87 "WaxTurnsModel" "token" "I") (List.mem_cons_of_mem _ (List.mem_append_left _ (List.mem_of_getElem? (i := 4) rfl)))) (fun _ h9 => h9) rfl (tyX8_ok 6 (by decide)) rfl rfl (Nat.le_of_ble_eq_true rfl) dX8_next_213 (fun H locs hP hD hS => ?_)
                          refine zs_0 (y := (a0, .inr (8, [a0g_0, Value.ref a0_1, a0g_2, Value.int a0_3, Value.int j5l1, Value.int j152l1, Value.int 1, Value.int j152a0_7, Value.int 0, a0g_9, a0g_10, a0g_11, Value.ref a0_12, a0g_13, a0g_14, a0g_15, a0g_16, a0g_17, a0g_18, a0g_19, a0g_20, a0g_21, a0g_22, a0g_23, a0g_24, a0g_25, a0g_26, a0g_27, a0g_28, a0g_29, a0g_30, a0g_31, a0g_32, a0g_33, a0g_34, a0g_35, a0g_36, a0g_37, a0g_38, a0g_39]))) hP hD rfl (fun hP hD => ?_)
                          refine lv_goto (tgt := 241) hx hb dX8_next_216 (by decide) ?_
                          have hFe : FX = (j5l1.toInt, j152l1.toInt, 1, j152a0_7.toInt, 0, (fl_A fa0_12)) := hF0
                          exact W.vret hx hb hr (fun t ht hW => ⟨⟨(), rfl, trivial, j5l1, j152l1, 1, j152a0_7, 0, fa0_12, ⟨bj152l1_l, bj152l1_u⟩, ⟨zq5, Int.le_trans zq6 (by decide)⟩, (fun h9 => absurd h9 (by decide)), ⟨by omega, Or.inl (by decide)⟩, hFe, by rw [ht]; exact hP, va_K.moved hW.alike hK, hD⟩, hS.F ht⟩) hS.2.2 dX8_next_241
                    · have h154 := hw
                      have u154k1_j152l1 : j152l1.toInt ≤ (899 : Int) := by have h1 := h154; have h2 := ba0_3_u; omega
                      have hF1 := hF1.trans (if_neg (show ¬ (a0_3.toInt ≤ j152l1.toInt) from Int.not_le.mpr h154))
                      refine va_calli (va_runS (As := [.int r154]) (rest := []) ⟨hx, hb, hml, hown, hts⟩ (f_X8_isDigit l dC dI H.size r154 ) (va_cwS 1 hts gX8_next_X8_isDigit rfl rfl rfl zd_X8_isDigit.2 ⟨Nat.le_of_ble_eq_true rfl, Nat.le_of_ble_eq_true rfl⟩) ⟨ax_blind (fun _ _ _ _ _ => trivial), ax_pre (zp_P0 hP) (zp_K hK) (zp_D0 hD) (fun _ _ => trivial)⟩ rfl rfl hl.1 rfl (lv_room (Nat.le_of_ble_eq_true rfl)) dX8_next_157 ⟨Nat.le_of_ble_eq_true rfl, Nat.le_of_ble_eq_true rfl⟩) hS (fun q _ h => zp_F0 hD hS hA q h) (zp_F0 hD hS hA) (fun r157 u t H locs ht hvm hw hB hz1 hk1 hS1 => zo0 hB ht hP hD hk1 (zp_F0 hD hS hA) hS1 (fun hP hK1 hD hS => ?_))
                      obtain ⟨hw, hfr157⟩ := hw
                      have hc157 : Ff_X8_isDigit r154.toInt = r157.toInt := hfr157.symm
                      have hF1 := hF1.trans (fl_lt_eq hc157.symm)
                      rcases hw with hw | hw
                      · obtain ⟨hw, h157_0, h157_1⟩ := hw
                        subst hw
                        have l157k0_r154 : (48 : Int) ≤ r154.toInt := h157_0
                        have u157k0_r154 : r154.toInt ≤ (57 : Int) := h157_1
                        have hF1 := hF1.trans (if_pos (by decide))
                        refine lv_if_eq (tgt := 197) hx hb dX8_next_160 (by decide) (fun c160 => absurd c160 (by decide +kernel)) (fun _ => ?_)
                        refine lv_iload_n hx hb dX8_next_163 rfl (lv_at hl 2 rfl) ?_
                        refine lv_iconst (v := 3) hx hb dX8_next_164 zk_iconst_3 ?_
                        have J188 : ∀ (j188a0_7 : Int32) (H : Heap) (locs : List Loc) (ls : Array Slot), (SX152 = Gf_X8_next_188_1 j152l3.toInt j152l1.toInt j188a0_7.toInt) → va_P (dC, dI) vwCl [(a0, .inr (8, [a0g_0, Value.ref a0_1, a0g_2, Value.int a0_3, Value.int j5l1, Value.int a0_5, Value.int a0_6, Value.int j188a0_7, Value.int 0, a0g_9, a0g_10, a0g_11, Value.ref a0_12, a0g_13, a0g_14, a0g_15, a0g_16, a0g_17, a0g_18, a0g_19, a0g_20, a0g_21, a0g_22, a0g_23, a0g_24, a0g_25, a0g_26, a0g_27, a0g_28, a0g_29, a0g_30, a0g_31, a0g_32, a0g_33, a0g_34, a0g_35, a0g_36, a0g_37, a0g_38, a0g_39])), (a0_1, .inl (ka0_1, 900, .inl (fa0_1))), (a0_12, .inl (ka0_12, 8, .inl (fa0_12)))] H → va_D A [(a0, .inr (8, [a0g_0, Value.ref a0_1, a0g_2, Value.int a0_3, Value.int j5l1, Value.int a0_5, Value.int a0_6, Value.int j188a0_7, Value.int 0, a0g_9, a0g_10, a0g_11, Value.ref a0_12, a0g_13, a0g_14, a0g_15, a0g_16, a0g_17, a0g_18, a0g_19, a0g_20, a0g_21, a0g_22, a0g_23, a0g_24, a0g_25, a0g_26, a0g_27, a0g_28, a0g_29, a0g_30, a0g_31, a0g_32, a0g_33, a0g_34, a0g_35, a0g_36, a0g_37, a0g_38, a0g_39])), (a0_1, .inl (ka0_1, 900, .inl (fa0_1))), (a0_12, .inl (ka0_12, 8, .inl (fa0_12)))] → va_S A s.heap H locs → lv_has ls 4 [(0, .ref a0), (1, .int j152l1), (3, .int j152l3)] → K H locs (F0 m 188 ls []) := by
                          intro j188a0_7 H locs ls  hF1 hP hD hS hl
                          refine (hK0 _ _ _).mpr ?_
                          have hF1 := hF1.trans (Gf_X8_next_188_1.eq_1 j152l3.toInt j152l1.toInt j188a0_7.toInt)
                          obtain ⟨x188, ex188⟩ : ∃ y : Int32, y = j152l3 + Int32.ofInt 1 := ⟨_, rfl⟩
                          refine lv_iinc (v := x188) (lv' := [(3, .int x188), (0, .ref a0), (1, .int j152l1)]) hx hb dX8_next_188 hl (k := 2) rfl ex188.symm (by decide) rfl (fun ls hl => ?_)
                          have fqx188 := fl_iadd_eq ex188
                          have hF1 := hF1.trans (fl_lt_eq (show x188.toInt = fl_iadd j152l3.toInt 1 from fqx188))
                          obtain ⟨x191, ex191⟩ : ∃ y : Int32, y = j152l1 + Int32.ofInt 1 := ⟨_, rfl⟩
                          have qx191 : x191.toInt = j152l1.toInt + 1 := ai_inc ex191 (by decide) (by decide) u154k1_j152l1 (by decide)
                          have bx191 : (1 : Int) ≤ x191.toInt ∧ x191.toInt ≤ 900 := ⟨by rw [qx191]; exact Int.add_le_add bj152l1_l (Int.le_refl _), by rw [qx191]; exact Int.add_le_add u154k1_j152l1 (Int.le_refl _)⟩
                          refine lv_iinc (v := x191) (lv' := [(1, .int x191), (3, .int x188), (0, .ref a0)]) hx hb dX8_next_191 hl (k := 2) rfl ex191.symm (by decide) rfl (fun ls hl => ?_)
                          have hF1 := hF1.trans (fl_lt_eq (show x191.toInt = j152l1.toInt + 1 from qx191))
                          refine lv_goto (tgt := 152) hx hb dX8_next_194 (by decide) ?_
                          exact (hK0 _ _ _).mp (ih152 x188 x191 j188a0_7 _ _ _ (by first | exact zg_s hm152 qx191 | (have h0 := qx191; omega)) (Int.le_trans zq4 bx191.1) bx191.2 (by omega) (hF0.trans (fl_wh_l (hSX152.trans hF1))) hP hD hS (lv_sub hl [2, 0, 1] rfl))
                        refine lv_icmp_ge (tgt := 188) hx hb dX8_next_165 (by decide) (fun c165 => ?_) (fun c165 => ?_)
                        · have gc165 := ai_le c165
                          have l165t_j152l3 : (3 : Int) ≤ j152l3.toInt := Int.le_trans zq8 gc165
                          have hF1 := hF1.trans (if_pos (show 3 ≤ j152l3.toInt from gc165))
                          exact (hK0 _ _ _).mp (J188 j152a0_7 _ _ _   hF1 hP hD hS (lv_sub hl [0, 1, 2] rfl))
                        · have gc165 := ai_nle c165
                          have u165f_j152l3 : j152l3.toInt ≤ (2 : Int) := ai_lthi gc165 zq9
                          have hF1 := hF1.trans (if_neg (show ¬ (3 ≤ j152l3.toInt) from Int.not_le.mpr gc165))
                          refine lv_aload_n hx hb dX8_next_168 rfl (lv_at hl 0 rfl) ?_
                          refine lv_bipush (v := 10) hx hb dX8_next_169 zk_bipush_10 ?_
                          refine lv_aload_n hx hb dX8_next_171 rfl (lv_at hl 0 rfl) ?_
                          refine va_get (D := (dC, dI)) (ci := 8) (v := .int j152a0_7) (C := RX8) (T := TX8) (N := 40) hx hb hts zi_X8_next_8 hown hK hP 0 rfl rfl 7 (by decide) (hts (.fieldLink RX8 84 "WaxTurnsModel" "whole" "I") (List.mem_cons_of_mem _ (List.mem_append_left _ (List.mem_of_getElem? (i := 3) rfl)))) (fun _ h9 => h9) rfl dX8_next_172 ?_
                          refine lv_imul hx hb dX8_next_175 ?_
                          refine lv_topi (fun x175 ex175 => ?_)
                          have fqx175 := fl_imul_eq ex175
                          have hF1 := hF1.trans (fl_lt_eq (show x175.toInt = fl_imul 10 j152a0_7.toInt from fqx175))
                          refine lv_aload_n hx hb dX8_next_176 rfl (lv_at hl 0 rfl) ?_
                          refine lv_iload_n hx hb dX8_next_177 rfl (lv_at hl 1 rfl) ?_
                          have hKc := hK.sub (tys' := [(ka0_1, .int)]) [0] rfl
                          refine va_calli (va_runV (As := [.int j152l1]) (rest := [.int x175, .ref a0]) ⟨hx, hb, hml, hown, hts⟩ (f_X8_see l dC dI H.size a0 j152l1 a0g_0 a0g_2 (Value.int j5l1) (Value.int a0_5) (Value.int a0_6) (Value.int j152a0_7) (Value.int 0) a0g_9 a0g_10 a0g_11 (Value.ref a0_12) a0g_13 a0g_14 a0g_15 a0g_16 a0g_17 a0g_18 a0g_19 a0g_20 a0g_21 a0g_22 a0g_23 a0g_24 a0g_25 a0g_26 a0g_27 a0g_28 a0g_29 a0g_30 a0g_31 a0g_32 a0g_33 a0g_34 a0g_35 a0g_36 a0g_37 a0g_38 a0g_39 a0_1 a0_3 ka0_1 fa0_1 bj152l1_l (Int.le_trans u154k1_j152l1 zq145) ba0_3_l ba0_3_u) (cwV 1 hts gX8_next_X8_see rfl rfl rfl zd_X8_see ⟨Nat.le_of_ble_eq_true rfl, Nat.le_of_ble_eq_true rfl⟩) ⟨ax_blind (fun _ _ _ _ _ => trivial), zr_8 hKc (zp_P2 hP) (q0 := 0) rfl, ax_pre (zp_P2 hP) hKc (zp_D2 hD) (fun _ _ => trivial)⟩ rfl rfl hl.1 rfl (lv_room (Nat.le_of_ble_eq_true rfl)) dX8_next_178 ⟨Nat.le_of_ble_eq_true rfl, Nat.le_of_ble_eq_true rfl⟩) hS (fun q _ h => zp_F2 hD hS hA q h) (zp_F2 hD hS hA) (fun r178 u t H locs ht hvm hw hB hz1 hk1 hS1 => zo2 hB ht hP hD hk1 (zp_F2 hD hS hA) hS1 (fun hP hK1 hD hS => ?_))
                          obtain ⟨hw, hfr178⟩ := hw
                          have hc178 : Ff_X8_see j152l1.toInt a0_3.toInt (fl_A fa0_1) = r178.toInt := hfr178.symm
                          have hF1 := hF1.trans (fl_lt_eq hc178.symm)
                          rcases hw with hw | hw
                          · obtain ⟨hw, h178⟩ := hw
                            subst hw
                            have hF1 := hF1.trans (if_pos (show a0_3.toInt ≤ j152l1.toInt from h178))
                            refine lv_iadd hx hb dX8_next_181 ?_
                            refine lv_topi (fun x181 ex181 => ?_)
                            have fqx181 := fl_iadd_eq ex181
                            have hF1 := hF1.trans (fl_lt_eq (show x181.toInt = fl_iadd x175.toInt (-1) from fqx181))
                            refine lv_bipush (v := 48) hx hb dX8_next_182 zk_bipush_48 ?_
                            refine lv_isub hx hb dX8_next_184 ?_
                            refine lv_topi (fun x184 ex184 => ?_)
                            have fqx184 := fl_isub_eq ex184
                            have hF1 := hF1.trans (fl_lt_eq (show x184.toInt = fl_isub x181.toInt 48 from fqx184))
                            refine va_put (D := (dC, dI)) (ci := 8) (v := .int x184) (ty := .int) (C := RX8) (T := TX8) (N := 40) hx hb hts zi_X8_next_8 tyX8 tyX8_ok nmX8 hown hK hP hD hS 0 rfl rfl 7 (by decide) (hts (.fieldLink RX8 84 "WaxTurnsModel" "whole" "I") (List.mem_cons_of_mem _ (List.mem_append_left _ (List.mem_of_getElem? (i := 3) rfl)))) (fun _ h9 => h9) rfl (tyX8_ok 7 (by decide)) rfl rfl (Nat.le_of_ble_eq_true rfl) dX8_next_185 (fun H locs hP hD hS => ?_)
                            refine zs_0 (y := (a0, .inr (8, [a0g_0, Value.ref a0_1, a0g_2, Value.int a0_3, Value.int j5l1, Value.int a0_5, Value.int a0_6, Value.int x184, Value.int 0, a0g_9, a0g_10, a0g_11, Value.ref a0_12, a0g_13, a0g_14, a0g_15, a0g_16, a0g_17, a0g_18, a0g_19, a0g_20, a0g_21, a0g_22, a0g_23, a0g_24, a0g_25, a0g_26, a0g_27, a0g_28, a0g_29, a0g_30, a0g_31, a0g_32, a0g_33, a0g_34, a0g_35, a0g_36, a0g_37, a0g_38, a0g_39]))) hP hD rfl (fun hP hD => ?_)
                            exact (hK0 _ _ _).mp (J188 x184 _ _ _   hF1 hP hD hS (lv_sub hl [0, 1, 2] rfl))
                          · have h178 := hw
                            have u178k1_j152l1 : j152l1.toInt ≤ (899 : Int) := u154k1_j152l1
                            have hF1 := hF1.trans (if_neg (show ¬ (a0_3.toInt ≤ j152l1.toInt) from Int.not_le.mpr h178))
                            refine lv_iadd hx hb dX8_next_181 ?_
                            refine lv_topi (fun x181 ex181 => ?_)
                            have fqx181 := fl_iadd_eq ex181
                            have hF1 := hF1.trans (fl_lt_eq (show x181.toInt = fl_iadd x175.toInt r178.toInt from fqx181))
                            refine lv_bipush (v := 48) hx hb dX8_next_182 zk_bipush_48 ?_
                            refine lv_isub hx hb dX8_next_184 ?_
                            refine lv_topi (fun x184 ex184 => ?_)
                            have fqx184 := fl_isub_eq ex184
                            have hF1 := hF1.trans (fl_lt_eq (show x184.toInt = fl_isub x181.toInt 48 from fqx184))
                            refine va_put (D := (dC, dI)) (ci := 8) (v := .int x184) (ty := .int) (C := RX8) (T := TX8) (N := 40) hx hb hts zi_X8_next_8 tyX8 tyX8_ok nmX8 hown hK hP hD hS 0 rfl rfl 7 (by decide) (hts (.fieldLink RX8 84 "WaxTurnsModel" "whole" "I") (List.mem_cons_of_mem _ (List.mem_append_left _ (List.mem_of_getElem? (i := 3) rfl)))) (fun _ h9 => h9) rfl (tyX8_ok 7 (by decide)) rfl rfl (Nat.le_of_ble_eq_true rfl) dX8_next_185 (fun H locs hP hD hS => ?_)
                            refine zs_0 (y := (a0, .inr (8, [a0g_0, Value.ref a0_1, a0g_2, Value.int a0_3, Value.int j5l1, Value.int a0_5, Value.int a0_6, Value.int x184, Value.int 0, a0g_9, a0g_10, a0g_11, Value.ref a0_12, a0g_13, a0g_14, a0g_15, a0g_16, a0g_17, a0g_18, a0g_19, a0g_20, a0g_21, a0g_22, a0g_23, a0g_24, a0g_25, a0g_26, a0g_27, a0g_28, a0g_29, a0g_30, a0g_31, a0g_32, a0g_33, a0g_34, a0g_35, a0g_36, a0g_37, a0g_38, a0g_39]))) hP hD rfl (fun hP hD => ?_)
                            exact (hK0 _ _ _).mp (J188 x184 _ _ _   hF1 hP hD hS (lv_sub hl [0, 1, 2] rfl))
                      · subst hw
                        have hF1 := hF1.trans (if_neg (by decide))
                        refine lv_if_eq (tgt := 197) hx hb dX8_next_160 (by decide) (fun _ => ?_) (fun c160 => absurd (by decide +kernel) c160)
                        have hF0 := hF0.trans (fl_wh_r (hSX152.trans hF1))
                        refine lv_aload_n hx hb dX8_next_197 rfl (lv_at hl 0 rfl) ?_
                        refine lv_iload_n hx hb dX8_next_198 rfl (lv_at hl 1 rfl) ?_
                        refine va_put (D := (dC, dI)) (ci := 8) (v := .int j152l1) (ty := .int) (C := RX8) (T := TX8) (N := 40) hx hb hts zi_X8_next_8 tyX8 tyX8_ok nmX8 hown hK hP hD hS 0 rfl rfl 5 (by decide) (hts (.fieldLink RX8 71 "WaxTurnsModel" "end" "I") (List.mem_cons_of_mem _ (List.mem_append_left _ (List.mem_of_getElem? (i := 0) rfl)))) (fun _ h9 => h9) rfl (tyX8_ok 5 (by decide)) rfl rfl (Nat.le_of_ble_eq_true rfl) dX8_next_199 (fun H locs hP hD hS => ?_)
                        refine zs_0 (y := (a0, .inr (8, [a0g_0, Value.ref a0_1, a0g_2, Value.int a0_3, Value.int j5l1, Value.int j152l1, Value.int a0_6, Value.int j152a0_7, Value.int 0, a0g_9, a0g_10, a0g_11, Value.ref a0_12, a0g_13, a0g_14, a0g_15, a0g_16, a0g_17, a0g_18, a0g_19, a0g_20, a0g_21, a0g_22, a0g_23, a0g_24, a0g_25, a0g_26, a0g_27, a0g_28, a0g_29, a0g_30, a0g_31, a0g_32, a0g_33, a0g_34, a0g_35, a0g_36, a0g_37, a0g_38, a0g_39]))) hP hD rfl (fun hP hD => ?_)
                        refine lv_aload_n hx hb dX8_next_202 rfl (lv_at hl 0 rfl) ?_
                        refine lv_iload_n hx hb dX8_next_203 rfl (lv_at hl 2 rfl) ?_
                        refine lv_iconst (v := 3) hx hb dX8_next_204 zk_iconst_3 ?_
                        refine lv_icmp_le (tgt := 212) hx hb dX8_next_205 (by decide) (fun c205 => ?_) (fun c205 => ?_)
                        · have gc205 := ai_le c205
                          have u205t_j152l3 : j152l3.toInt ≤ (3 : Int) := Int.le_trans gc205 zq9
                          have hF0 := hF0.trans (if_pos (show j152l3.toInt ≤ 3 from gc205))
                          refine lv_iconst (v := 3) hx hb dX8_next_212 zk_iconst_3 ?_
                          refine va_put (D := (dC, dI)) (ci := 8) (v := .int 3) (ty := .int) (C := RX8) (T := TX8) (N := 40) hx hb hts zi_X8_next_8 tyX8 tyX8_ok nmX8 hown hK hP hD hS 0 rfl rfl 6 (by decide) (hts (.fieldLink RX8 87 "WaxTurnsModel" "token" "I") (List.mem_cons_of_mem _ (List.mem_append_left _ (List.mem_of_getElem? (i := 4) rfl)))) (fun _ h9 => h9) rfl (tyX8_ok 6 (by decide)) rfl rfl (Nat.le_of_ble_eq_true rfl) dX8_next_213 (fun H locs hP hD hS => ?_)
                          refine zs_0 (y := (a0, .inr (8, [a0g_0, Value.ref a0_1, a0g_2, Value.int a0_3, Value.int j5l1, Value.int j152l1, Value.int 3, Value.int j152a0_7, Value.int 0, a0g_9, a0g_10, a0g_11, Value.ref a0_12, a0g_13, a0g_14, a0g_15, a0g_16, a0g_17, a0g_18, a0g_19, a0g_20, a0g_21, a0g_22, a0g_23, a0g_24, a0g_25, a0g_26, a0g_27, a0g_28, a0g_29, a0g_30, a0g_31, a0g_32, a0g_33, a0g_34, a0g_35, a0g_36, a0g_37, a0g_38, a0g_39]))) hP hD rfl (fun hP hD => ?_)
                          refine lv_goto (tgt := 241) hx hb dX8_next_216 (by decide) ?_
                          have hFe : FX = (j5l1.toInt, j152l1.toInt, 3, j152a0_7.toInt, 0, (fl_A fa0_12)) := hF0
                          exact W.vret hx hb hr (fun t ht hW => ⟨⟨(), rfl, trivial, j5l1, j152l1, 3, j152a0_7, 0, fa0_12, ⟨bj152l1_l, Int.le_trans u154k1_j152l1 (by decide)⟩, ⟨zq5, Int.le_trans zq6 (by decide)⟩, (fun h9 => absurd h9 (by decide)), ⟨by omega, Or.inl (by decide)⟩, hFe, by rw [ht]; exact hP, va_K.moved hW.alike hK, hD⟩, hS.F ht⟩) hS.2.2 dX8_next_241
                        · have gc205 := ai_nle c205
                          have l205f_j152l3 : (4 : Int) ≤ j152l3.toInt := ai_ltlo gc205 zq8
                          have hF0 := hF0.trans (if_neg (show ¬ (j152l3.toInt ≤ 3) from Int.not_le.mpr gc205))
                          refine lv_iconst (v := 1) hx hb dX8_next_208 zk_iconst_1 ?_
                          refine lv_goto (tgt := 213) hx hb dX8_next_209 (by decide) ?_
                          refine va_put (D := (dC, dI)) (ci := 8) (v := .int 1) (ty := .int) (C := RX8) (T := TX8) (N := 40) hx hb hts zi_X8_next_8 tyX8 tyX8_ok nmX8 hown hK hP hD hS 0 rfl rfl 6 (by decide) (hts (.fieldLink RX8 87 "WaxTurnsModel" "token" "I") (List.mem_cons_of_mem _ (List.mem_append_left _ (List.mem_of_getElem? (i := 4) rfl)))) (fun _ h9 => h9) rfl (tyX8_ok 6 (by decide)) rfl rfl (Nat.le_of_ble_eq_true rfl) dX8_next_213 (fun H locs hP hD hS => ?_)
                          refine zs_0 (y := (a0, .inr (8, [a0g_0, Value.ref a0_1, a0g_2, Value.int a0_3, Value.int j5l1, Value.int j152l1, Value.int 1, Value.int j152a0_7, Value.int 0, a0g_9, a0g_10, a0g_11, Value.ref a0_12, a0g_13, a0g_14, a0g_15, a0g_16, a0g_17, a0g_18, a0g_19, a0g_20, a0g_21, a0g_22, a0g_23, a0g_24, a0g_25, a0g_26, a0g_27, a0g_28, a0g_29, a0g_30, a0g_31, a0g_32, a0g_33, a0g_34, a0g_35, a0g_36, a0g_37, a0g_38, a0g_39]))) hP hD rfl (fun hP hD => ?_)
                          refine lv_goto (tgt := 241) hx hb dX8_next_216 (by decide) ?_
                          have hFe : FX = (j5l1.toInt, j152l1.toInt, 1, j152a0_7.toInt, 0, (fl_A fa0_12)) := hF0
                          exact W.vret hx hb hr (fun t ht hW => ⟨⟨(), rfl, trivial, j5l1, j152l1, 1, j152a0_7, 0, fa0_12, ⟨bj152l1_l, Int.le_trans u154k1_j152l1 (by decide)⟩, ⟨zq5, Int.le_trans zq6 (by decide)⟩, (fun h9 => absurd h9 (by decide)), ⟨by omega, Or.inl (by decide)⟩, hFe, by rw [ht]; exact hP, va_K.moved hW.alike hK, hD⟩, hS.F ht⟩) hS.2.2 dX8_next_241
                exact (hK0 _ _ _).mp (J152 901 0 j5l1 0 _ _ _ (by have h1 : (0 : Int) ≤ j5l1.toInt := bj5l1_l; have h2 : j5l1.toInt ≤ (899 : Int) := u28k1_j5l1; omega) bj5l1_l (Int.le_trans u28k1_j5l1 zq145) (by omega) (by rw [show (0 : Int32).toInt = 0 from by decide]; exact hF0) hP hD hS (lv_sub hl [2, 3, 0] rfl))
              · subst hw
                have hF0 := hF0.trans (if_neg (by decide))
                refine lv_if_eq (tgt := 219) hx hb dX8_next_147 (by decide) (fun _ => ?_) (fun c147 => absurd (by decide +kernel) c147)
                refine lv_aload_n hx hb dX8_next_219 rfl (lv_at hl 1 rfl) ?_
                refine lv_iload_n hx hb dX8_next_220 rfl (lv_at hl 2 rfl) ?_
                refine lv_iconst (v := 1) hx hb dX8_next_221 zk_iconst_1 ?_
                refine lv_iadd hx hb dX8_next_222 ?_
                refine lv_topi (fun x222 ex222 => ?_)
                have qx222 : x222.toInt = j5l1.toInt + (1 : Int32).toInt := ai_add ex222 ⟨bj5l1_l, u28k1_j5l1⟩ ⟨zq1, zq0⟩ (by decide) (by decide)
                have bx222 : (1 : Int) ≤ x222.toInt ∧ x222.toInt ≤ 900 := ⟨by rw [qx222]; exact Int.add_le_add bj5l1_l zq1, by rw [qx222]; exact Int.add_le_add u28k1_j5l1 zq0⟩
                have wx222 : x222.toInt = j5l1.toInt + 1 := qx222
                have hF0 := hF0.trans (fl_lt_eq (show x222.toInt = j5l1.toInt + 1 from qx222))
                refine va_put (D := (dC, dI)) (ci := 8) (v := .int x222) (ty := .int) (C := RX8) (T := TX8) (N := 40) hx hb hts zi_X8_next_8 tyX8 tyX8_ok nmX8 hown hK hP hD hS 0 rfl rfl 5 (by decide) (hts (.fieldLink RX8 71 "WaxTurnsModel" "end" "I") (List.mem_cons_of_mem _ (List.mem_append_left _ (List.mem_of_getElem? (i := 0) rfl)))) (fun _ h9 => h9) rfl (tyX8_ok 5 (by decide)) rfl rfl (Nat.le_of_ble_eq_true rfl) dX8_next_223 (fun H locs hP hD hS => ?_)
                refine zs_0 (y := (a0, .inr (8, [a0g_0, Value.ref a0_1, a0g_2, Value.int a0_3, Value.int j5l1, Value.int x222, Value.int a0_6, Value.int 0, Value.int 0, a0g_9, a0g_10, a0g_11, Value.ref a0_12, a0g_13, a0g_14, a0g_15, a0g_16, a0g_17, a0g_18, a0g_19, a0g_20, a0g_21, a0g_22, a0g_23, a0g_24, a0g_25, a0g_26, a0g_27, a0g_28, a0g_29, a0g_30, a0g_31, a0g_32, a0g_33, a0g_34, a0g_35, a0g_36, a0g_37, a0g_38, a0g_39]))) hP hD rfl (fun hP hD => ?_)
                refine lv_aload_n hx hb dX8_next_226 rfl (lv_at hl 1 rfl) ?_
                refine lv_iload_n hx hb dX8_next_227 rfl (lv_at hl 0 rfl) ?_
                refine lv_bipush (v := 59) hx hb dX8_next_228 zk_bipush_59 ?_
                refine lv_icmp_ne (tgt := 237) hx hb dX8_next_230 (by decide) (fun c230 => ?_) (fun c230 => ?_)
                · have gc230 := ai_ne c230
                  have hF0 := hF0.trans (if_neg (show ¬ (r28.toInt = 59) from  gc230))
                  refine lv_iconst (v := 1) hx hb dX8_next_237 zk_iconst_1 ?_
                  refine va_put (D := (dC, dI)) (ci := 8) (v := .int 1) (ty := .int) (C := RX8) (T := TX8) (N := 40) hx hb hts zi_X8_next_8 tyX8 tyX8_ok nmX8 hown hK hP hD hS 0 rfl rfl 6 (by decide) (hts (.fieldLink RX8 87 "WaxTurnsModel" "token" "I") (List.mem_cons_of_mem _ (List.mem_append_left _ (List.mem_of_getElem? (i := 4) rfl)))) (fun _ h9 => h9) rfl (tyX8_ok 6 (by decide)) rfl rfl (Nat.le_of_ble_eq_true rfl) dX8_next_238 (fun H locs hP hD hS => ?_)
                  refine zs_0 (y := (a0, .inr (8, [a0g_0, Value.ref a0_1, a0g_2, Value.int a0_3, Value.int j5l1, Value.int x222, Value.int 1, Value.int 0, Value.int 0, a0g_9, a0g_10, a0g_11, Value.ref a0_12, a0g_13, a0g_14, a0g_15, a0g_16, a0g_17, a0g_18, a0g_19, a0g_20, a0g_21, a0g_22, a0g_23, a0g_24, a0g_25, a0g_26, a0g_27, a0g_28, a0g_29, a0g_30, a0g_31, a0g_32, a0g_33, a0g_34, a0g_35, a0g_36, a0g_37, a0g_38, a0g_39]))) hP hD rfl (fun hP hD => ?_)
                  have hFe : FX = (j5l1.toInt, x222.toInt, 1, 0, 0, (fl_A fa0_12)) := hF0
                  exact W.vret hx hb hr (fun t ht hW => ⟨⟨(), rfl, trivial, j5l1, x222, 1, 0, 0, fa0_12, ⟨Int.le_trans (by decide) bx222.1, bx222.2⟩, ⟨zq5, Int.le_trans zq6 (by decide)⟩, (fun h9 => absurd h9 (by decide)), ⟨by omega, Or.inl (by decide)⟩, hFe, by rw [ht]; exact hP, va_K.moved hW.alike hK, hD⟩, hS.F ht⟩) hS.2.2 dX8_next_241
                · have gc230 := ai_eq c230
                  have u230f_r28 : r28.toInt ≤ (59 : Int) := Int.le_trans (Int.le_of_eq gc230) zq146
                  have l230f_r28 : (59 : Int) ≤ r28.toInt := Int.le_trans zq147 (Int.le_of_eq gc230.symm)
                  have hF0 := hF0.trans (if_pos (show r28.toInt = 59 from gc230))
                  refine lv_iload_n hx hb dX8_next_233 rfl (lv_at hl 0 rfl) ?_
                  refine lv_goto (tgt := 238) hx hb dX8_next_234 (by decide) ?_
                  refine va_put (D := (dC, dI)) (ci := 8) (v := .int r28) (ty := .int) (C := RX8) (T := TX8) (N := 40) hx hb hts zi_X8_next_8 tyX8 tyX8_ok nmX8 hown hK hP hD hS 0 rfl rfl 6 (by decide) (hts (.fieldLink RX8 87 "WaxTurnsModel" "token" "I") (List.mem_cons_of_mem _ (List.mem_append_left _ (List.mem_of_getElem? (i := 4) rfl)))) (fun _ h9 => h9) rfl (tyX8_ok 6 (by decide)) rfl rfl (Nat.le_of_ble_eq_true rfl) dX8_next_238 (fun H locs hP hD hS => ?_)
                  refine zs_0 (y := (a0, .inr (8, [a0g_0, Value.ref a0_1, a0g_2, Value.int a0_3, Value.int j5l1, Value.int x222, Value.int r28, Value.int 0, Value.int 0, a0g_9, a0g_10, a0g_11, Value.ref a0_12, a0g_13, a0g_14, a0g_15, a0g_16, a0g_17, a0g_18, a0g_19, a0g_20, a0g_21, a0g_22, a0g_23, a0g_24, a0g_25, a0g_26, a0g_27, a0g_28, a0g_29, a0g_30, a0g_31, a0g_32, a0g_33, a0g_34, a0g_35, a0g_36, a0g_37, a0g_38, a0g_39]))) hP hD rfl (fun hP hD => ?_)
                  have hFe : FX = (j5l1.toInt, x222.toInt, r28.toInt, 0, 0, (fl_A fa0_12)) := hF0
                  exact W.vret hx hb hr (fun t ht hW => ⟨⟨(), rfl, trivial, j5l1, x222, r28, 0, 0, fa0_12, ⟨Int.le_trans (by decide) bx222.1, bx222.2⟩, ⟨zq5, Int.le_trans zq6 (by decide)⟩, (fun _ => by decide), ⟨by omega, Or.inr (by omega)⟩, hFe, by rw [ht]; exact hP, va_K.moved hW.alike hK, hD⟩, hS.F ht⟩) hS.2.2 dX8_next_241
          · have gc44 := ai_eq c44
            have u44f_r28 : r28.toInt ≤ (-1 : Int) := Int.le_trans (Int.le_of_eq gc44) zq71
            have l44f_r28 : (-1 : Int) ≤ r28.toInt := Int.le_trans zq70 (Int.le_of_eq gc44.symm)
            have hF0 := hF0.trans (if_pos (show r28.toInt = (-1) from gc44))
            refine lv_aload_n hx hb dX8_next_47 rfl (lv_at hl 1 rfl) ?_
            refine lv_iconst (v := 0) hx hb dX8_next_48 zk_iconst_0 ?_
            refine va_put (D := (dC, dI)) (ci := 8) (v := .int 0) (ty := .int) (C := RX8) (T := TX8) (N := 40) hx hb hts zi_X8_next_8 tyX8 tyX8_ok nmX8 hown hK hP hD hS 0 rfl rfl 6 (by decide) (hts (.fieldLink RX8 87 "WaxTurnsModel" "token" "I") (List.mem_cons_of_mem _ (List.mem_append_left _ (List.mem_of_getElem? (i := 4) rfl)))) (fun _ h9 => h9) rfl (tyX8_ok 6 (by decide)) rfl rfl (Nat.le_of_ble_eq_true rfl) dX8_next_49 (fun H locs hP hD hS => ?_)
            refine zs_0 (y := (a0, .inr (8, [a0g_0, Value.ref a0_1, a0g_2, Value.int a0_3, Value.int j5l1, Value.int a0_5, Value.int 0, Value.int 0, Value.int 0, a0g_9, a0g_10, a0g_11, Value.ref a0_12, a0g_13, a0g_14, a0g_15, a0g_16, a0g_17, a0g_18, a0g_19, a0g_20, a0g_21, a0g_22, a0g_23, a0g_24, a0g_25, a0g_26, a0g_27, a0g_28, a0g_29, a0g_30, a0g_31, a0g_32, a0g_33, a0g_34, a0g_35, a0g_36, a0g_37, a0g_38, a0g_39]))) hP hD rfl (fun hP hD => ?_)
            refine lv_aload_n hx hb dX8_next_52 rfl (lv_at hl 1 rfl) ?_
            refine lv_iload_n hx hb dX8_next_53 rfl (lv_at hl 2 rfl) ?_
            refine va_put (D := (dC, dI)) (ci := 8) (v := .int j5l1) (ty := .int) (C := RX8) (T := TX8) (N := 40) hx hb hts zi_X8_next_8 tyX8 tyX8_ok nmX8 hown hK hP hD hS 0 rfl rfl 5 (by decide) (hts (.fieldLink RX8 71 "WaxTurnsModel" "end" "I") (List.mem_cons_of_mem _ (List.mem_append_left _ (List.mem_of_getElem? (i := 0) rfl)))) (fun _ h9 => h9) rfl (tyX8_ok 5 (by decide)) rfl rfl (Nat.le_of_ble_eq_true rfl) dX8_next_54 (fun H locs hP hD hS => ?_)
            refine zs_0 (y := (a0, .inr (8, [a0g_0, Value.ref a0_1, a0g_2, Value.int a0_3, Value.int j5l1, Value.int j5l1, Value.int 0, Value.int 0, Value.int 0, a0g_9, a0g_10, a0g_11, Value.ref a0_12, a0g_13, a0g_14, a0g_15, a0g_16, a0g_17, a0g_18, a0g_19, a0g_20, a0g_21, a0g_22, a0g_23, a0g_24, a0g_25, a0g_26, a0g_27, a0g_28, a0g_29, a0g_30, a0g_31, a0g_32, a0g_33, a0g_34, a0g_35, a0g_36, a0g_37, a0g_38, a0g_39]))) hP hD rfl (fun hP hD => ?_)
            refine lv_goto (tgt := 241) hx hb dX8_next_57 (by decide) ?_
            have hFe : FX = (j5l1.toInt, j5l1.toInt, 0, 0, 0, (fl_A fa0_12)) := hF0
            exact W.vret hx hb hr (fun t ht hW => ⟨⟨(), rfl, trivial, j5l1, j5l1, 0, 0, 0, fa0_12, ⟨bj5l1_l, Int.le_trans u28k1_j5l1 (by decide)⟩, ⟨zq5, Int.le_trans zq6 (by decide)⟩, (fun h9 => absurd h9 (by decide)), ⟨by omega, Or.inl (by decide)⟩, hFe, by rw [ht]; exact hP, va_K.moved hW.alike hK, hD⟩, hS.F ht⟩) hS.2.2 dX8_next_241
      · have h7 := hw
        have u7k1_j5l1 : j5l1.toInt ≤ (899 : Int) := by have h1 := h7; have h2 := ba0_3_u; omega
        have hF1 := hF1.trans (if_neg (show ¬ (a0_3.toInt ≤ j5l1.toInt) from Int.not_le.mpr h7))
        refine lv_bipush (v := 32) hx hb dX8_next_10 zk_bipush_32 ?_
        refine lv_icmp_ne (tgt := 21) hx hb dX8_next_12 (by decide) (fun c12 => ?_) (fun c12 => ?_)
        · have gc12 := ai_ne c12
          have hF1 := hF1.trans (if_neg (show ¬ (r7.toInt = 32) from  gc12))
          have hF0 := hF0.trans (fl_wh_r (hSX5.trans hF1))
          refine lv_aload_n hx hb dX8_next_21 rfl (lv_at hl 0 rfl) ?_
          refine lv_iload_n hx hb dX8_next_22 rfl (lv_at hl 1 rfl) ?_
          refine va_put (D := (dC, dI)) (ci := 8) (v := .int j5l1) (ty := .int) (C := RX8) (T := TX8) (N := 40) hx hb hts zi_X8_next_8 tyX8 tyX8_ok nmX8 hown hK hP hD hS 0 rfl rfl 4 (by decide) (hts (.fieldLink RX8 78 "WaxTurnsModel" "at" "I") (List.mem_cons_of_mem _ (List.mem_append_left _ (List.mem_of_getElem? (i := 1) rfl)))) (fun _ h9 => h9) rfl (tyX8_ok 4 (by decide)) rfl rfl (Nat.le_of_ble_eq_true rfl) dX8_next_23 (fun H locs hP hD hS => ?_)
          refine zs_0 (y := (a0, .inr (8, [a0g_0, Value.ref a0_1, a0g_2, Value.int a0_3, Value.int j5l1, Value.int a0_5, Value.int a0_6, Value.int a0_7, Value.int a0_8, a0g_9, a0g_10, a0g_11, Value.ref a0_12, a0g_13, a0g_14, a0g_15, a0g_16, a0g_17, a0g_18, a0g_19, a0g_20, a0g_21, a0g_22, a0g_23, a0g_24, a0g_25, a0g_26, a0g_27, a0g_28, a0g_29, a0g_30, a0g_31, a0g_32, a0g_33, a0g_34, a0g_35, a0g_36, a0g_37, a0g_38, a0g_39]))) hP hD rfl (fun hP hD => ?_)
          refine lv_aload_n hx hb dX8_next_26 rfl (lv_at hl 0 rfl) ?_
          refine lv_iload_n hx hb dX8_next_27 rfl (lv_at hl 1 rfl) ?_
          have hKc := hK.sub (tys' := [(ka0_1, .int)]) [0] rfl
          refine va_calli (va_runV (As := [.int j5l1]) (rest := []) ⟨hx, hb, hml, hown, hts⟩ (f_X8_see l dC dI H.size a0 j5l1 a0g_0 a0g_2 (Value.int j5l1) (Value.int a0_5) (Value.int a0_6) (Value.int a0_7) (Value.int a0_8) a0g_9 a0g_10 a0g_11 (Value.ref a0_12) a0g_13 a0g_14 a0g_15 a0g_16 a0g_17 a0g_18 a0g_19 a0g_20 a0g_21 a0g_22 a0g_23 a0g_24 a0g_25 a0g_26 a0g_27 a0g_28 a0g_29 a0g_30 a0g_31 a0g_32 a0g_33 a0g_34 a0g_35 a0g_36 a0g_37 a0g_38 a0g_39 a0_1 a0_3 ka0_1 fa0_1 bj5l1_l (Int.le_trans u7k1_j5l1 zq145) ba0_3_l ba0_3_u) (cwV 1 hts gX8_next_X8_see rfl rfl rfl zd_X8_see ⟨Nat.le_of_ble_eq_true rfl, Nat.le_of_ble_eq_true rfl⟩) ⟨ax_blind (fun _ _ _ _ _ => trivial), zr_8 hKc (zp_P2 hP) (q0 := 0) rfl, ax_pre (zp_P2 hP) hKc (zp_D2 hD) (fun _ _ => trivial)⟩ rfl rfl hl.1 rfl (lv_room (Nat.le_of_ble_eq_true rfl)) dX8_next_28 ⟨Nat.le_of_ble_eq_true rfl, Nat.le_of_ble_eq_true rfl⟩) hS (fun q _ h => zp_F2 hD hS hA q h) (zp_F2 hD hS hA) (fun r28 u t H locs ht hvm hw hB hz1 hk1 hS1 => zo2 hB ht hP hD hk1 (zp_F2 hD hS hA) hS1 (fun hP hK1 hD hS => ?_))
          obtain ⟨hw, hfr28⟩ := hw
          have hc28 : Ff_X8_see j5l1.toInt a0_3.toInt (fl_A fa0_1) = r28.toInt := hfr28.symm
          have hF0 := hF0.trans (fl_lt_eq hc28.symm)
          rcases hw with hw | hw
          · obtain ⟨hw, h28⟩ := hw
            subst hw
            have hF0 := hF0.trans (if_pos (show a0_3.toInt ≤ j5l1.toInt from h28))
            refine lv_istore_n (lv' := [(2, .int (-1)), (0, .ref a0), (1, .int j5l1)]) hx hb dX8_next_31 rfl hl (by decide) rfl (fun ls hl => ?_)
            refine lv_aload_n hx hb dX8_next_32 rfl (lv_at hl 1 rfl) ?_
            refine lv_iconst (v := 0) hx hb dX8_next_33 zk_iconst_0 ?_
            refine va_put (D := (dC, dI)) (ci := 8) (v := .int 0) (ty := .int) (C := RX8) (T := TX8) (N := 40) hx hb hts zi_X8_next_8 tyX8 tyX8_ok nmX8 hown hK hP hD hS 0 rfl rfl 8 (by decide) (hts (.fieldLink RX8 81 "WaxTurnsModel" "nameSize" "I") (List.mem_cons_of_mem _ (List.mem_append_left _ (List.mem_of_getElem? (i := 2) rfl)))) (fun _ h9 => h9) rfl (tyX8_ok 8 (by decide)) rfl rfl (Nat.le_of_ble_eq_true rfl) dX8_next_34 (fun H locs hP hD hS => ?_)
            refine zs_0 (y := (a0, .inr (8, [a0g_0, Value.ref a0_1, a0g_2, Value.int a0_3, Value.int j5l1, Value.int a0_5, Value.int a0_6, Value.int a0_7, Value.int 0, a0g_9, a0g_10, a0g_11, Value.ref a0_12, a0g_13, a0g_14, a0g_15, a0g_16, a0g_17, a0g_18, a0g_19, a0g_20, a0g_21, a0g_22, a0g_23, a0g_24, a0g_25, a0g_26, a0g_27, a0g_28, a0g_29, a0g_30, a0g_31, a0g_32, a0g_33, a0g_34, a0g_35, a0g_36, a0g_37, a0g_38, a0g_39]))) hP hD rfl (fun hP hD => ?_)
            refine lv_aload_n hx hb dX8_next_37 rfl (lv_at hl 1 rfl) ?_
            refine lv_iconst (v := 0) hx hb dX8_next_38 zk_iconst_0 ?_
            refine va_put (D := (dC, dI)) (ci := 8) (v := .int 0) (ty := .int) (C := RX8) (T := TX8) (N := 40) hx hb hts zi_X8_next_8 tyX8 tyX8_ok nmX8 hown hK hP hD hS 0 rfl rfl 7 (by decide) (hts (.fieldLink RX8 84 "WaxTurnsModel" "whole" "I") (List.mem_cons_of_mem _ (List.mem_append_left _ (List.mem_of_getElem? (i := 3) rfl)))) (fun _ h9 => h9) rfl (tyX8_ok 7 (by decide)) rfl rfl (Nat.le_of_ble_eq_true rfl) dX8_next_39 (fun H locs hP hD hS => ?_)
            refine zs_0 (y := (a0, .inr (8, [a0g_0, Value.ref a0_1, a0g_2, Value.int a0_3, Value.int j5l1, Value.int a0_5, Value.int a0_6, Value.int 0, Value.int 0, a0g_9, a0g_10, a0g_11, Value.ref a0_12, a0g_13, a0g_14, a0g_15, a0g_16, a0g_17, a0g_18, a0g_19, a0g_20, a0g_21, a0g_22, a0g_23, a0g_24, a0g_25, a0g_26, a0g_27, a0g_28, a0g_29, a0g_30, a0g_31, a0g_32, a0g_33, a0g_34, a0g_35, a0g_36, a0g_37, a0g_38, a0g_39]))) hP hD rfl (fun hP hD => ?_)
            refine lv_iload_n hx hb dX8_next_42 rfl (lv_at hl 0 rfl) ?_
            refine lv_iconst (v := (-1)) hx hb dX8_next_43 zk_iconst_n1 ?_
            refine lv_icmp_ne (tgt := 60) hx hb dX8_next_44 (by decide) (fun c44 => absurd (by decide +kernel) c44) (fun _ => ?_)
            refine lv_aload_n hx hb dX8_next_47 rfl (lv_at hl 1 rfl) ?_
            refine lv_iconst (v := 0) hx hb dX8_next_48 zk_iconst_0 ?_
            refine va_put (D := (dC, dI)) (ci := 8) (v := .int 0) (ty := .int) (C := RX8) (T := TX8) (N := 40) hx hb hts zi_X8_next_8 tyX8 tyX8_ok nmX8 hown hK hP hD hS 0 rfl rfl 6 (by decide) (hts (.fieldLink RX8 87 "WaxTurnsModel" "token" "I") (List.mem_cons_of_mem _ (List.mem_append_left _ (List.mem_of_getElem? (i := 4) rfl)))) (fun _ h9 => h9) rfl (tyX8_ok 6 (by decide)) rfl rfl (Nat.le_of_ble_eq_true rfl) dX8_next_49 (fun H locs hP hD hS => ?_)
            refine zs_0 (y := (a0, .inr (8, [a0g_0, Value.ref a0_1, a0g_2, Value.int a0_3, Value.int j5l1, Value.int a0_5, Value.int 0, Value.int 0, Value.int 0, a0g_9, a0g_10, a0g_11, Value.ref a0_12, a0g_13, a0g_14, a0g_15, a0g_16, a0g_17, a0g_18, a0g_19, a0g_20, a0g_21, a0g_22, a0g_23, a0g_24, a0g_25, a0g_26, a0g_27, a0g_28, a0g_29, a0g_30, a0g_31, a0g_32, a0g_33, a0g_34, a0g_35, a0g_36, a0g_37, a0g_38, a0g_39]))) hP hD rfl (fun hP hD => ?_)
            refine lv_aload_n hx hb dX8_next_52 rfl (lv_at hl 1 rfl) ?_
            refine lv_iload_n hx hb dX8_next_53 rfl (lv_at hl 2 rfl) ?_
            refine va_put (D := (dC, dI)) (ci := 8) (v := .int j5l1) (ty := .int) (C := RX8) (T := TX8) (N := 40) hx hb hts zi_X8_next_8 tyX8 tyX8_ok nmX8 hown hK hP hD hS 0 rfl rfl 5 (by decide) (hts (.fieldLink RX8 71 "WaxTurnsModel" "end" "I") (List.mem_cons_of_mem _ (List.mem_append_left _ (List.mem_of_getElem? (i := 0) rfl)))) (fun _ h9 => h9) rfl (tyX8_ok 5 (by decide)) rfl rfl (Nat.le_of_ble_eq_true rfl) dX8_next_54 (fun H locs hP hD hS => ?_)
            refine zs_0 (y := (a0, .inr (8, [a0g_0, Value.ref a0_1, a0g_2, Value.int a0_3, Value.int j5l1, Value.int j5l1, Value.int 0, Value.int 0, Value.int 0, a0g_9, a0g_10, a0g_11, Value.ref a0_12, a0g_13, a0g_14, a0g_15, a0g_16, a0g_17, a0g_18, a0g_19, a0g_20, a0g_21, a0g_22, a0g_23, a0g_24, a0g_25, a0g_26, a0g_27, a0g_28, a0g_29, a0g_30, a0g_31, a0g_32, a0g_33, a0g_34, a0g_35, a0g_36, a0g_37, a0g_38, a0g_39]))) hP hD rfl (fun hP hD => ?_)
            refine lv_goto (tgt := 241) hx hb dX8_next_57 (by decide) ?_
            have hFe : FX = (j5l1.toInt, j5l1.toInt, 0, 0, 0, (fl_A fa0_12)) := hF0
            exact W.vret hx hb hr (fun t ht hW => ⟨⟨(), rfl, trivial, j5l1, j5l1, 0, 0, 0, fa0_12, ⟨bj5l1_l, Int.le_trans u7k1_j5l1 (by decide)⟩, ⟨zq5, Int.le_trans zq6 (by decide)⟩, (fun h9 => absurd h9 (by decide)), ⟨by omega, Or.inl (by decide)⟩, hFe, by rw [ht]; exact hP, va_K.moved hW.alike hK, hD⟩, hS.F ht⟩) hS.2.2 dX8_next_241
          · have h28 := hw
            have u28k1_j5l1 : j5l1.toInt ≤ (899 : Int) := u7k1_j5l1
            have hF0 := hF0.trans (if_neg (show ¬ (a0_3.toInt ≤ j5l1.toInt) from Int.not_le.mpr h28))
            refine lv_istore_n (lv' := [(2, .int r28), (0, .ref a0), (1, .int j5l1)]) hx hb dX8_next_31 rfl hl (by decide) rfl (fun ls hl => ?_)
            refine lv_aload_n hx hb dX8_next_32 rfl (lv_at hl 1 rfl) ?_
            refine lv_iconst (v := 0) hx hb dX8_next_33 zk_iconst_0 ?_
            refine va_put (D := (dC, dI)) (ci := 8) (v := .int 0) (ty := .int) (C := RX8) (T := TX8) (N := 40) hx hb hts zi_X8_next_8 tyX8 tyX8_ok nmX8 hown hK hP hD hS 0 rfl rfl 8 (by decide) (hts (.fieldLink RX8 81 "WaxTurnsModel" "nameSize" "I") (List.mem_cons_of_mem _ (List.mem_append_left _ (List.mem_of_getElem? (i := 2) rfl)))) (fun _ h9 => h9) rfl (tyX8_ok 8 (by decide)) rfl rfl (Nat.le_of_ble_eq_true rfl) dX8_next_34 (fun H locs hP hD hS => ?_)
            refine zs_0 (y := (a0, .inr (8, [a0g_0, Value.ref a0_1, a0g_2, Value.int a0_3, Value.int j5l1, Value.int a0_5, Value.int a0_6, Value.int a0_7, Value.int 0, a0g_9, a0g_10, a0g_11, Value.ref a0_12, a0g_13, a0g_14, a0g_15, a0g_16, a0g_17, a0g_18, a0g_19, a0g_20, a0g_21, a0g_22, a0g_23, a0g_24, a0g_25, a0g_26, a0g_27, a0g_28, a0g_29, a0g_30, a0g_31, a0g_32, a0g_33, a0g_34, a0g_35, a0g_36, a0g_37, a0g_38, a0g_39]))) hP hD rfl (fun hP hD => ?_)
            refine lv_aload_n hx hb dX8_next_37 rfl (lv_at hl 1 rfl) ?_
            refine lv_iconst (v := 0) hx hb dX8_next_38 zk_iconst_0 ?_
            refine va_put (D := (dC, dI)) (ci := 8) (v := .int 0) (ty := .int) (C := RX8) (T := TX8) (N := 40) hx hb hts zi_X8_next_8 tyX8 tyX8_ok nmX8 hown hK hP hD hS 0 rfl rfl 7 (by decide) (hts (.fieldLink RX8 84 "WaxTurnsModel" "whole" "I") (List.mem_cons_of_mem _ (List.mem_append_left _ (List.mem_of_getElem? (i := 3) rfl)))) (fun _ h9 => h9) rfl (tyX8_ok 7 (by decide)) rfl rfl (Nat.le_of_ble_eq_true rfl) dX8_next_39 (fun H locs hP hD hS => ?_)
            refine zs_0 (y := (a0, .inr (8, [a0g_0, Value.ref a0_1, a0g_2, Value.int a0_3, Value.int j5l1, Value.int a0_5, Value.int a0_6, Value.int 0, Value.int 0, a0g_9, a0g_10, a0g_11, Value.ref a0_12, a0g_13, a0g_14, a0g_15, a0g_16, a0g_17, a0g_18, a0g_19, a0g_20, a0g_21, a0g_22, a0g_23, a0g_24, a0g_25, a0g_26, a0g_27, a0g_28, a0g_29, a0g_30, a0g_31, a0g_32, a0g_33, a0g_34, a0g_35, a0g_36, a0g_37, a0g_38, a0g_39]))) hP hD rfl (fun hP hD => ?_)
            refine lv_iload_n hx hb dX8_next_42 rfl (lv_at hl 0 rfl) ?_
            refine lv_iconst (v := (-1)) hx hb dX8_next_43 zk_iconst_n1 ?_
            refine lv_icmp_ne (tgt := 60) hx hb dX8_next_44 (by decide) (fun c44 => ?_) (fun c44 => ?_)
            · have gc44 := ai_ne c44
              have hF0 := hF0.trans (if_neg (show ¬ (r28.toInt = (-1)) from  gc44))
              refine lv_iload_n hx hb dX8_next_60 rfl (lv_at hl 0 rfl) ?_
              refine va_calli (va_runS (As := [.int r28]) (rest := []) ⟨hx, hb, hml, hown, hts⟩ (f_X8_isSmall l dC dI H.size r28 ) (va_cwS 1 hts gX8_next_X8_isSmall rfl rfl rfl zd_X8_isSmall.2 ⟨Nat.le_of_ble_eq_true rfl, Nat.le_of_ble_eq_true rfl⟩) ⟨ax_blind (fun _ _ _ _ _ => trivial), ax_pre (zp_P0 hP) (zp_K hK) (zp_D0 hD) (fun _ _ => trivial)⟩ rfl rfl hl.1 rfl (lv_room (Nat.le_of_ble_eq_true rfl)) dX8_next_61 ⟨Nat.le_of_ble_eq_true rfl, Nat.le_of_ble_eq_true rfl⟩) hS (fun q _ h => zp_F0 hD hS hA q h) (zp_F0 hD hS hA) (fun r61 u t H locs ht hvm hw hB hz1 hk1 hS1 => zo0 hB ht hP hD hk1 (zp_F0 hD hS hA) hS1 (fun hP hK1 hD hS => ?_))
              obtain ⟨hw, hfr61⟩ := hw
              have hc61 : Ff_X8_isSmall r28.toInt = r61.toInt := hfr61.symm
              have hF0 := hF0.trans (fl_lt_eq hc61.symm)
              rcases hw with hw | hw
              · obtain ⟨hw, h61_0, h61_1⟩ := hw
                subst hw
                have l61k0_r28 : (97 : Int) ≤ r28.toInt := h61_0
                have u61k0_r28 : r28.toInt ≤ (122 : Int) := h61_1
                have hF0 := hF0.trans (if_pos (by decide))
                refine lv_if_eq (tgt := 143) hx hb dX8_next_64 (by decide) (fun c64 => absurd c64 (by decide +kernel)) (fun _ => ?_)
                have J67 : ∀ (n : Nat) (j67l1 : Int32) (j67a0_8 : Int32) (j67a0_12_a : Nat → Int32) (H : Heap) (locs : List Loc) (ls : Array Slot), (901 : Int) - j67l1.toInt ≤ (n : Int) → (0 : Int) ≤ j67l1.toInt → j67l1.toInt ≤ (900 : Int) → (0 : Int) ≤ j67a0_8.toInt → j67a0_8.toInt ≤ (900 : Int) → (a0_5.toInt ≤ j67l1.toInt) → (j67a0_8.toInt ≤ j67l1.toInt) → (FX = fl_wh (fun t9 => Sf_X8_next_67_3 a0_3.toInt (fl_A fa0_1) j5l1.toInt t9.1 t9.2.1 t9.2.2) (0, 0, 0, 0, 0, (fun _ => 0)) n (j67l1.toInt, j67a0_8.toInt, (fl_A j67a0_12_a))) → va_P (dC, dI) vwCl [(a0, .inr (8, [a0g_0, Value.ref a0_1, a0g_2, Value.int a0_3, Value.int j5l1, Value.int a0_5, Value.int a0_6, Value.int 0, Value.int j67a0_8, a0g_9, a0g_10, a0g_11, Value.ref a0_12, a0g_13, a0g_14, a0g_15, a0g_16, a0g_17, a0g_18, a0g_19, a0g_20, a0g_21, a0g_22, a0g_23, a0g_24, a0g_25, a0g_26, a0g_27, a0g_28, a0g_29, a0g_30, a0g_31, a0g_32, a0g_33, a0g_34, a0g_35, a0g_36, a0g_37, a0g_38, a0g_39])), (a0_1, .inl (ka0_1, 900, .inl (fa0_1))), (a0_12, .inl (ka0_12, 8, .inl (j67a0_12_a)))] H → va_D A [(a0, .inr (8, [a0g_0, Value.ref a0_1, a0g_2, Value.int a0_3, Value.int j5l1, Value.int a0_5, Value.int a0_6, Value.int 0, Value.int j67a0_8, a0g_9, a0g_10, a0g_11, Value.ref a0_12, a0g_13, a0g_14, a0g_15, a0g_16, a0g_17, a0g_18, a0g_19, a0g_20, a0g_21, a0g_22, a0g_23, a0g_24, a0g_25, a0g_26, a0g_27, a0g_28, a0g_29, a0g_30, a0g_31, a0g_32, a0g_33, a0g_34, a0g_35, a0g_36, a0g_37, a0g_38, a0g_39])), (a0_1, .inl (ka0_1, 900, .inl (fa0_1))), (a0_12, .inl (ka0_12, 8, .inl (j67a0_12_a)))] → va_S A s.heap H locs → lv_has ls 4 [(0, .ref a0), (1, .int j67l1)] → K H locs (F0 m 67 ls []) := by
                  intro n
                  induction n with
                  | zero =>
                    intro j67l1 j67a0_8 j67a0_12_a H locs ls hm bj67l1_l bj67l1_u bj67a0_8_l bj67a0_8_u ke67 nk67 hF0 hP hD hS hl
                    first | exact zg_0 hm bj67l1_u (by decide) | (have h8 := ai_min j67l1; have h9 := ai_max j67l1; exact absurd hm (by omega))
                  | succ n ih67 =>
                    intro j67l1 j67a0_8 j67a0_12_a H locs ls hm bj67l1_l bj67l1_u bj67a0_8_l bj67a0_8_u ke67 nk67 hF0 hP hD hS hl
                    refine (hK0 _ _ _).mpr ?_
                    have hm67 := hm
                    obtain ⟨SX67, hSX67⟩ : ∃ q9, Sf_X8_next_67_3 a0_3.toInt (fl_A fa0_1) j5l1.toInt j67l1.toInt j67a0_8.toInt (fl_A j67a0_12_a) = q9 := ⟨_, rfl⟩
                    have hF1 := hSX67.symm.trans (Sf_X8_next_67_3.eq_1 a0_3.toInt (fl_A fa0_1) j5l1.toInt j67l1.toInt j67a0_8.toInt (fl_A j67a0_12_a))
                    refine lv_aload_n hx hb dX8_next_67 rfl (lv_at hl 0 rfl) ?_
                    refine lv_iload_n hx hb dX8_next_68 rfl (lv_at hl 1 rfl) ?_
                    have hKc := hK.sub (tys' := [(ka0_1, .int)]) [0] rfl
                    refine va_calli (va_runV (As := [.int j67l1]) (rest := []) ⟨hx, hb, hml, hown, hts⟩ (f_X8_see l dC dI H.size a0 j67l1 a0g_0 a0g_2 (Value.int j5l1) (Value.int a0_5) (Value.int a0_6) (Value.int 0) (Value.int j67a0_8) a0g_9 a0g_10 a0g_11 (Value.ref a0_12) a0g_13 a0g_14 a0g_15 a0g_16 a0g_17 a0g_18 a0g_19 a0g_20 a0g_21 a0g_22 a0g_23 a0g_24 a0g_25 a0g_26 a0g_27 a0g_28 a0g_29 a0g_30 a0g_31 a0g_32 a0g_33 a0g_34 a0g_35 a0g_36 a0g_37 a0g_38 a0g_39 a0_1 a0_3 ka0_1 fa0_1 bj67l1_l bj67l1_u ba0_3_l ba0_3_u) (cwV 1 hts gX8_next_X8_see rfl rfl rfl zd_X8_see ⟨Nat.le_of_ble_eq_true rfl, Nat.le_of_ble_eq_true rfl⟩) ⟨ax_blind (fun _ _ _ _ _ => trivial), zr_8 hKc (zp_P2 hP) (q0 := 0) rfl, ax_pre (zp_P2 hP) hKc (zp_D2 hD) (fun _ _ => trivial)⟩ rfl rfl hl.1 rfl (lv_room (Nat.le_of_ble_eq_true rfl)) dX8_next_69 ⟨Nat.le_of_ble_eq_true rfl, Nat.le_of_ble_eq_true rfl⟩) hS (fun q _ h => zp_F2 hD hS hA q h) (zp_F2 hD hS hA) (fun r69 u t H locs ht hvm hw hB hz1 hk1 hS1 => zo2 hB ht hP hD hk1 (zp_F2 hD hS hA) hS1 (fun hP hK1 hD hS => ?_))
                    obtain ⟨hw, hfr69⟩ := hw
                    have hc69 : Ff_X8_see j67l1.toInt a0_3.toInt (fl_A fa0_1) = r69.toInt := hfr69.symm
                    have hF1 := hF1.trans (fl_lt_eq hc69.symm)
                    rcases hw with hw | hw
                    · obtain ⟨hw, h69⟩ := hw
                      subst hw
                      have hF1 := hF1.trans (if_pos (show a0_3.toInt ≤ j67l1.toInt from h69))
                      refine va_calli (va_runS (As := [.int (-1)]) (rest := []) ⟨hx, hb, hml, hown, hts⟩ (f_X8_isSmall l dC dI H.size (-1) ) (va_cwS 1 hts gX8_next_X8_isSmall rfl rfl rfl zd_X8_isSmall.2 ⟨Nat.le_of_ble_eq_true rfl, Nat.le_of_ble_eq_true rfl⟩) ⟨ax_blind (fun _ _ _ _ _ => trivial), ax_pre (zp_P0 hP) (zp_K hK) (zp_D0 hD) (fun _ _ => trivial)⟩ rfl rfl hl.1 rfl (lv_room (Nat.le_of_ble_eq_true rfl)) dX8_next_72 ⟨Nat.le_of_ble_eq_true rfl, Nat.le_of_ble_eq_true rfl⟩) hS (fun q _ h => zp_F0 hD hS hA q h) (zp_F0 hD hS hA) (fun r72 u t H locs ht hvm hw hB hz1 hk1 hS1 => zo0 hB ht hP hD hk1 (zp_F0 hD hS hA) hS1 (fun hP hK1 hD hS => ?_))
                      obtain ⟨hw, hfr72⟩ := hw
                      rw [show ((-1) : Int32).toInt = (-1) from by decide] at hfr72
                      have hc72 : Ff_X8_isSmall (-1) = r72.toInt := hfr72.symm
                      have hF1 := hF1.trans (fl_lt_eq hc72.symm)
                      rcases hw with hw | hw
                      · obtain ⟨hw, h72_0, h72_1⟩ := hw
                        subst hw
                        exact absurd h72_0 (by decide)
                      · subst hw
                        have hF1 := hF1.trans (if_neg (by decide))
                        refine lv_if_eq (tgt := 117) hx hb dX8_next_75 (by decide) (fun _ => ?_) (fun c75 => absurd (by decide +kernel) c75)
                        have hF0 := hF0.trans (fl_wh_r (hSX67.trans hF1))
                        refine lv_aload_n hx hb dX8_next_117 rfl (lv_at hl 0 rfl) ?_
                        refine lv_iload_n hx hb dX8_next_118 rfl (lv_at hl 1 rfl) ?_
                        refine va_put (D := (dC, dI)) (ci := 8) (v := .int j67l1) (ty := .int) (C := RX8) (T := TX8) (N := 40) hx hb hts zi_X8_next_8 tyX8 tyX8_ok nmX8 hown hK hP hD hS 0 rfl rfl 5 (by decide) (hts (.fieldLink RX8 71 "WaxTurnsModel" "end" "I") (List.mem_cons_of_mem _ (List.mem_append_left _ (List.mem_of_getElem? (i := 0) rfl)))) (fun _ h9 => h9) rfl (tyX8_ok 5 (by decide)) rfl rfl (Nat.le_of_ble_eq_true rfl) dX8_next_119 (fun H locs hP hD hS => ?_)
                        refine zs_0 (y := (a0, .inr (8, [a0g_0, Value.ref a0_1, a0g_2, Value.int a0_3, Value.int j5l1, Value.int j67l1, Value.int a0_6, Value.int 0, Value.int j67a0_8, a0g_9, a0g_10, a0g_11, Value.ref a0_12, a0g_13, a0g_14, a0g_15, a0g_16, a0g_17, a0g_18, a0g_19, a0g_20, a0g_21, a0g_22, a0g_23, a0g_24, a0g_25, a0g_26, a0g_27, a0g_28, a0g_29, a0g_30, a0g_31, a0g_32, a0g_33, a0g_34, a0g_35, a0g_36, a0g_37, a0g_38, a0g_39]))) hP hD rfl (fun hP hD => ?_)
                        refine lv_aload_n hx hb dX8_next_122 rfl (lv_at hl 0 rfl) ?_
                        refine lv_aload_n hx hb dX8_next_123 rfl (lv_at hl 0 rfl) ?_
                        refine va_get (D := (dC, dI)) (ci := 8) (v := .int j67a0_8) (C := RX8) (T := TX8) (N := 40) hx hb hts zi_X8_next_8 hown hK hP 0 rfl rfl 8 (by decide) (hts (.fieldLink RX8 81 "WaxTurnsModel" "nameSize" "I") (List.mem_cons_of_mem _ (List.mem_append_left _ (List.mem_of_getElem? (i := 2) rfl)))) (fun _ h9 => h9) rfl dX8_next_124 ?_
                        refine lv_bipush (v := 8) hx hb dX8_next_127 zk_bipush_8 ?_
                        refine lv_icmp_le (tgt := 136) hx hb dX8_next_129 (by decide) (fun c129 => ?_) (fun c129 => ?_)
                        · have gc129 := ai_le c129
                          have u129t_j67a0_8 : j67a0_8.toInt ≤ (8 : Int) := Int.le_trans gc129 zq28
                          have hF0 := hF0.trans (if_pos (show j67a0_8.toInt ≤ 8 from gc129))
                          refine lv_iconst (v := 2) hx hb dX8_next_136 zk_iconst_2 ?_
                          refine va_put (D := (dC, dI)) (ci := 8) (v := .int 2) (ty := .int) (C := RX8) (T := TX8) (N := 40) hx hb hts zi_X8_next_8 tyX8 tyX8_ok nmX8 hown hK hP hD hS 0 rfl rfl 6 (by decide) (hts (.fieldLink RX8 87 "WaxTurnsModel" "token" "I") (List.mem_cons_of_mem _ (List.mem_append_left _ (List.mem_of_getElem? (i := 4) rfl)))) (fun _ h9 => h9) rfl (tyX8_ok 6 (by decide)) rfl rfl (Nat.le_of_ble_eq_true rfl) dX8_next_137 (fun H locs hP hD hS => ?_)
                          refine zs_0 (y := (a0, .inr (8, [a0g_0, Value.ref a0_1, a0g_2, Value.int a0_3, Value.int j5l1, Value.int j67l1, Value.int 2, Value.int 0, Value.int j67a0_8, a0g_9, a0g_10, a0g_11, Value.ref a0_12, a0g_13, a0g_14, a0g_15, a0g_16, a0g_17, a0g_18, a0g_19, a0g_20, a0g_21, a0g_22, a0g_23, a0g_24, a0g_25, a0g_26, a0g_27, a0g_28, a0g_29, a0g_30, a0g_31, a0g_32, a0g_33, a0g_34, a0g_35, a0g_36, a0g_37, a0g_38, a0g_39]))) hP hD rfl (fun hP hD => ?_)
                          refine lv_goto (tgt := 241) hx hb dX8_next_140 (by decide) ?_
                          have hFe : FX = (j5l1.toInt, j67l1.toInt, 2, 0, j67a0_8.toInt, (fl_A j67a0_12_a)) := hF0
                          exact W.vret hx hb hr (fun t ht hW => ⟨⟨(), rfl, trivial, j5l1, j67l1, 2, 0, j67a0_8, j67a0_12_a, ⟨bj67l1_l, bj67l1_u⟩, ⟨bj67a0_8_l, Int.le_trans u129t_j67a0_8 (by decide)⟩, (fun _ => u129t_j67a0_8), ⟨by omega, Or.inl (by decide)⟩, hFe, by rw [ht]; exact hP, va_K.moved hW.alike hK, hD⟩, hS.F ht⟩) hS.2.2 dX8_next_241
                        · have gc129 := ai_nle c129
                          have l129f_j67a0_8 : (9 : Int) ≤ j67a0_8.toInt := ai_ltlo gc129 zq116
                          have hF0 := hF0.trans (if_neg (show ¬ (j67a0_8.toInt ≤ 8) from Int.not_le.mpr gc129))
                          refine lv_iconst (v := 1) hx hb dX8_next_132 zk_iconst_1 ?_
                          refine lv_goto (tgt := 137) hx hb dX8_next_133 (by decide) ?_
                          refine va_put (D := (dC, dI)) (ci := 8) (v := .int 1) (ty := .int) (C := RX8) (T := TX8) (N := 40) hx hb hts zi_X8_next_8 tyX8 tyX8_ok nmX8 hown hK hP hD hS 0 rfl rfl 6 (by decide) (hts (.fieldLink RX8 87 "WaxTurnsModel" "token" "I") (List.mem_cons_of_mem _ (List.mem_append_left _ (List.mem_of_getElem? (i := 4) rfl)))) (fun _ h9 => h9) rfl (tyX8_ok 6 (by decide)) rfl rfl (Nat.le_of_ble_eq_true rfl) dX8_next_137 (fun H locs hP hD hS => ?_)
                          refine zs_0 (y := (a0, .inr (8, [a0g_0, Value.ref a0_1, a0g_2, Value.int a0_3, Value.int j5l1, Value.int j67l1, Value.int 1, Value.int 0, Value.int j67a0_8, a0g_9, a0g_10, a0g_11, Value.ref a0_12, a0g_13, a0g_14, a0g_15, a0g_16, a0g_17, a0g_18, a0g_19, a0g_20, a0g_21, a0g_22, a0g_23, a0g_24, a0g_25, a0g_26, a0g_27, a0g_28, a0g_29, a0g_30, a0g_31, a0g_32, a0g_33, a0g_34, a0g_35, a0g_36, a0g_37, a0g_38, a0g_39]))) hP hD rfl (fun hP hD => ?_)
                          refine lv_goto (tgt := 241) hx hb dX8_next_140 (by decide) ?_
                          have hFe : FX = (j5l1.toInt, j67l1.toInt, 1, 0, j67a0_8.toInt, (fl_A j67a0_12_a)) := hF0
                          exact W.vret hx hb hr (fun t ht hW => ⟨⟨(), rfl, trivial, j5l1, j67l1, 1, 0, j67a0_8, j67a0_12_a, ⟨bj67l1_l, bj67l1_u⟩, ⟨Int.le_trans (by decide) l129f_j67a0_8, bj67a0_8_u⟩, (fun h9 => absurd h9 (by decide)), ⟨by omega, Or.inl (by decide)⟩, hFe, by rw [ht]; exact hP, va_K.moved hW.alike hK, hD⟩, hS.F ht⟩) hS.2.2 dX8_next_241
                    · have h69 := hw
                      have u69k1_j67l1 : j67l1.toInt ≤ (899 : Int) := by have h1 := h69; have h2 := ba0_3_u; omega
                      have hF1 := hF1.trans (if_neg (show ¬ (a0_3.toInt ≤ j67l1.toInt) from Int.not_le.mpr h69))
                      refine va_calli (va_runS (As := [.int r69]) (rest := []) ⟨hx, hb, hml, hown, hts⟩ (f_X8_isSmall l dC dI H.size r69 ) (va_cwS 1 hts gX8_next_X8_isSmall rfl rfl rfl zd_X8_isSmall.2 ⟨Nat.le_of_ble_eq_true rfl, Nat.le_of_ble_eq_true rfl⟩) ⟨ax_blind (fun _ _ _ _ _ => trivial), ax_pre (zp_P0 hP) (zp_K hK) (zp_D0 hD) (fun _ _ => trivial)⟩ rfl rfl hl.1 rfl (lv_room (Nat.le_of_ble_eq_true rfl)) dX8_next_72 ⟨Nat.le_of_ble_eq_true rfl, Nat.le_of_ble_eq_true rfl⟩) hS (fun q _ h => zp_F0 hD hS hA q h) (zp_F0 hD hS hA) (fun r72 u t H locs ht hvm hw hB hz1 hk1 hS1 => zo0 hB ht hP hD hk1 (zp_F0 hD hS hA) hS1 (fun hP hK1 hD hS => ?_))
                      obtain ⟨hw, hfr72⟩ := hw
                      have hc72 : Ff_X8_isSmall r69.toInt = r72.toInt := hfr72.symm
                      have hF1 := hF1.trans (fl_lt_eq hc72.symm)
                      rcases hw with hw | hw
                      · obtain ⟨hw, h72_0, h72_1⟩ := hw
                        subst hw
                        have l72k0_r69 : (97 : Int) ≤ r69.toInt := h72_0
                        have u72k0_r69 : r69.toInt ≤ (122 : Int) := h72_1
                        have hF1 := hF1.trans (if_pos (by decide))
                        refine lv_if_eq (tgt := 117) hx hb dX8_next_75 (by decide) (fun c75 => absurd c75 (by decide +kernel)) (fun _ => ?_)
                        refine lv_aload_n hx hb dX8_next_78 rfl (lv_at hl 0 rfl) ?_
                        refine va_get (D := (dC, dI)) (ci := 8) (v := .int j67a0_8) (C := RX8) (T := TX8) (N := 40) hx hb hts zi_X8_next_8 hown hK hP 0 rfl rfl 8 (by decide) (hts (.fieldLink RX8 81 "WaxTurnsModel" "nameSize" "I") (List.mem_cons_of_mem _ (List.mem_append_left _ (List.mem_of_getElem? (i := 2) rfl)))) (fun _ h9 => h9) rfl dX8_next_79 ?_
                        refine lv_bipush (v := 8) hx hb dX8_next_82 zk_bipush_8 ?_
                        have J101 : ∀ (j101a0_12_a : Nat → Int32) (H : Heap) (locs : List Loc) (ls : Array Slot), (SX67 = Gf_X8_next_101_3 j67l1.toInt j67a0_8.toInt (fl_A j101a0_12_a)) → va_P (dC, dI) vwCl [(a0, .inr (8, [a0g_0, Value.ref a0_1, a0g_2, Value.int a0_3, Value.int j5l1, Value.int a0_5, Value.int a0_6, Value.int 0, Value.int j67a0_8, a0g_9, a0g_10, a0g_11, Value.ref a0_12, a0g_13, a0g_14, a0g_15, a0g_16, a0g_17, a0g_18, a0g_19, a0g_20, a0g_21, a0g_22, a0g_23, a0g_24, a0g_25, a0g_26, a0g_27, a0g_28, a0g_29, a0g_30, a0g_31, a0g_32, a0g_33, a0g_34, a0g_35, a0g_36, a0g_37, a0g_38, a0g_39])), (a0_1, .inl (ka0_1, 900, .inl (fa0_1))), (a0_12, .inl (ka0_12, 8, .inl (j101a0_12_a)))] H → va_D A [(a0, .inr (8, [a0g_0, Value.ref a0_1, a0g_2, Value.int a0_3, Value.int j5l1, Value.int a0_5, Value.int a0_6, Value.int 0, Value.int j67a0_8, a0g_9, a0g_10, a0g_11, Value.ref a0_12, a0g_13, a0g_14, a0g_15, a0g_16, a0g_17, a0g_18, a0g_19, a0g_20, a0g_21, a0g_22, a0g_23, a0g_24, a0g_25, a0g_26, a0g_27, a0g_28, a0g_29, a0g_30, a0g_31, a0g_32, a0g_33, a0g_34, a0g_35, a0g_36, a0g_37, a0g_38, a0g_39])), (a0_1, .inl (ka0_1, 900, .inl (fa0_1))), (a0_12, .inl (ka0_12, 8, .inl (j101a0_12_a)))] → va_S A s.heap H locs → lv_has ls 4 [(0, .ref a0), (1, .int j67l1)] → K H locs (F0 m 101 ls []) := by
                          intro j101a0_12_a H locs ls  hF1 hP hD hS hl
                          refine (hK0 _ _ _).mpr ?_
                          have hF1 := hF1.trans (Gf_X8_next_101_3.eq_1 j67l1.toInt j67a0_8.toInt (fl_A j101a0_12_a))
                          refine lv_aload_n hx hb dX8_next_101 rfl (lv_at hl 0 rfl) ?_
                          refine lv_dup hx hb dX8_next_102 rfl ?_
                          refine va_get (D := (dC, dI)) (ci := 8) (v := .int j67a0_8) (C := RX8) (T := TX8) (N := 40) hx hb hts zi_X8_next_8 hown hK hP 0 rfl rfl 8 (by decide) (hts (.fieldLink RX8 81 "WaxTurnsModel" "nameSize" "I") (List.mem_cons_of_mem _ (List.mem_append_left _ (List.mem_of_getElem? (i := 2) rfl)))) (fun _ h9 => h9) rfl dX8_next_103 ?_
                          have u103z_j67a0_8 : j67a0_8.toInt ≤ (899 : Int) := by omega
                          refine lv_iconst (v := 1) hx hb dX8_next_106 zk_iconst_1 ?_
                          refine lv_iadd hx hb dX8_next_107 ?_
                          refine lv_topi (fun x107 ex107 => ?_)
                          have qx107 : x107.toInt = j67a0_8.toInt + (1 : Int32).toInt := ai_add ex107 ⟨bj67a0_8_l, u103z_j67a0_8⟩ ⟨zq1, zq0⟩ (by decide) (by decide)
                          have bx107 : (1 : Int) ≤ x107.toInt ∧ x107.toInt ≤ 900 := ⟨by rw [qx107]; exact Int.add_le_add bj67a0_8_l zq1, by rw [qx107]; exact Int.add_le_add u103z_j67a0_8 zq0⟩
                          have wx107 : x107.toInt = j67a0_8.toInt + 1 := qx107
                          have hF1 := hF1.trans (fl_lt_eq (show x107.toInt = j67a0_8.toInt + 1 from qx107))
                          refine va_put (D := (dC, dI)) (ci := 8) (v := .int x107) (ty := .int) (C := RX8) (T := TX8) (N := 40) hx hb hts zi_X8_next_8 tyX8 tyX8_ok nmX8 hown hK hP hD hS 0 rfl rfl 8 (by decide) (hts (.fieldLink RX8 81 "WaxTurnsModel" "nameSize" "I") (List.mem_cons_of_mem _ (List.mem_append_left _ (List.mem_of_getElem? (i := 2) rfl)))) (fun _ h9 => h9) rfl (tyX8_ok 8 (by decide)) rfl rfl (Nat.le_of_ble_eq_true rfl) dX8_next_108 (fun H locs hP hD hS => ?_)
                          refine zs_0 (y := (a0, .inr (8, [a0g_0, Value.ref a0_1, a0g_2, Value.int a0_3, Value.int j5l1, Value.int a0_5, Value.int a0_6, Value.int 0, Value.int x107, a0g_9, a0g_10, a0g_11, Value.ref a0_12, a0g_13, a0g_14, a0g_15, a0g_16, a0g_17, a0g_18, a0g_19, a0g_20, a0g_21, a0g_22, a0g_23, a0g_24, a0g_25, a0g_26, a0g_27, a0g_28, a0g_29, a0g_30, a0g_31, a0g_32, a0g_33, a0g_34, a0g_35, a0g_36, a0g_37, a0g_38, a0g_39]))) hP hD rfl (fun hP hD => ?_)
                          obtain ⟨x111, ex111⟩ : ∃ y : Int32, y = j67l1 + Int32.ofInt 1 := ⟨_, rfl⟩
                          have qx111 : x111.toInt = j67l1.toInt + 1 := ai_inc ex111 (by decide) (by decide) u69k1_j67l1 (by decide)
                          have bx111 : (1 : Int) ≤ x111.toInt ∧ x111.toInt ≤ 900 := ⟨by rw [qx111]; exact Int.add_le_add bj67l1_l (Int.le_refl _), by rw [qx111]; exact Int.add_le_add u69k1_j67l1 (Int.le_refl _)⟩
                          refine lv_iinc (v := x111) (lv' := [(1, .int x111), (0, .ref a0)]) hx hb dX8_next_111 hl (k := 1) rfl ex111.symm (by decide) rfl (fun ls hl => ?_)
                          have hF1 := hF1.trans (fl_lt_eq (show x111.toInt = j67l1.toInt + 1 from qx111))
                          refine lv_goto (tgt := 67) hx hb dX8_next_114 (by decide) ?_
                          exact (hK0 _ _ _).mp (ih67 x111 x107 j101a0_12_a _ _ _ (by first | exact zg_s hm67 qx111 | (have h0 := qx111; omega)) (Int.le_trans zq4 bx111.1) bx111.2 (Int.le_trans zq4 bx107.1) bx107.2 (by omega) (by omega) (hF0.trans (fl_wh_l (hSX67.trans hF1))) hP hD hS (lv_sub hl [1, 0] rfl))
                        refine lv_icmp_ge (tgt := 101) hx hb dX8_next_84 (by decide) (fun c84 => ?_) (fun c84 => ?_)
                        · have gc84 := ai_le c84
                          have l84t_j67a0_8 : (8 : Int) ≤ j67a0_8.toInt := Int.le_trans zq116 gc84
                          have hF1 := hF1.trans (if_pos (show 8 ≤ j67a0_8.toInt from gc84))
                          exact (hK0 _ _ _).mp (J101 j67a0_12_a _ _ _   hF1 hP hD hS (lv_sub hl [0, 1] rfl))
                        · have gc84 := ai_nle c84
                          have u84f_j67a0_8 : j67a0_8.toInt ≤ (7 : Int) := ai_lthi gc84 zq28
                          have hF1 := hF1.trans (if_neg (show ¬ (8 ≤ j67a0_8.toInt) from Int.not_le.mpr gc84))
                          refine lv_aload_n hx hb dX8_next_87 rfl (lv_at hl 0 rfl) ?_
                          refine va_get (D := (dC, dI)) (ci := 8) (v := .ref a0_12) (C := RX8) (T := TX8) (N := 40) hx hb hts zi_X8_next_8 hown hK hP 0 rfl rfl 12 (by decide) (hts (.fieldLink RX8 17 "WaxTurnsModel" "letters" "[I") (List.mem_cons_of_mem _ (List.mem_append_left _ (List.mem_of_getElem? (i := 5) rfl)))) (fun _ h9 => h9) rfl dX8_next_88 ?_
                          refine lv_aload_n hx hb dX8_next_91 rfl (lv_at hl 0 rfl) ?_
                          refine va_get (D := (dC, dI)) (ci := 8) (v := .int j67a0_8) (C := RX8) (T := TX8) (N := 40) hx hb hts zi_X8_next_8 hown hK hP 0 rfl rfl 8 (by decide) (hts (.fieldLink RX8 81 "WaxTurnsModel" "nameSize" "I") (List.mem_cons_of_mem _ (List.mem_append_left _ (List.mem_of_getElem? (i := 2) rfl)))) (fun _ h9 => h9) rfl dX8_next_92 ?_
                          refine lv_aload_n hx hb dX8_next_95 rfl (lv_at hl 0 rfl) ?_
                          refine lv_iload_n hx hb dX8_next_96 rfl (lv_at hl 1 rfl) ?_
                          have hKc := hK.sub (tys' := [(ka0_1, .int)]) [0] rfl
                          refine va_calli (va_runV (As := [.int j67l1]) (rest := [.int j67a0_8, .ref a0_12]) ⟨hx, hb, hml, hown, hts⟩ (f_X8_see l dC dI H.size a0 j67l1 a0g_0 a0g_2 (Value.int j5l1) (Value.int a0_5) (Value.int a0_6) (Value.int 0) (Value.int j67a0_8) a0g_9 a0g_10 a0g_11 (Value.ref a0_12) a0g_13 a0g_14 a0g_15 a0g_16 a0g_17 a0g_18 a0g_19 a0g_20 a0g_21 a0g_22 a0g_23 a0g_24 a0g_25 a0g_26 a0g_27 a0g_28 a0g_29 a0g_30 a0g_31 a0g_32 a0g_33 a0g_34 a0g_35 a0g_36 a0g_37 a0g_38 a0g_39 a0_1 a0_3 ka0_1 fa0_1 bj67l1_l (Int.le_trans u69k1_j67l1 zq145) ba0_3_l ba0_3_u) (cwV 1 hts gX8_next_X8_see rfl rfl rfl zd_X8_see ⟨Nat.le_of_ble_eq_true rfl, Nat.le_of_ble_eq_true rfl⟩) ⟨ax_blind (fun _ _ _ _ _ => trivial), zr_8 hKc (zp_P2 hP) (q0 := 0) rfl, ax_pre (zp_P2 hP) hKc (zp_D2 hD) (fun _ _ => trivial)⟩ rfl rfl hl.1 rfl (lv_room (Nat.le_of_ble_eq_true rfl)) dX8_next_97 ⟨Nat.le_of_ble_eq_true rfl, Nat.le_of_ble_eq_true rfl⟩) hS (fun q _ h => zp_F2 hD hS hA q h) (zp_F2 hD hS hA) (fun r97 u t H locs ht hvm hw hB hz1 hk1 hS1 => zo2 hB ht hP hD hk1 (zp_F2 hD hS hA) hS1 (fun hP hK1 hD hS => ?_))
                          obtain ⟨hw, hfr97⟩ := hw
                          have hc97 : Ff_X8_see j67l1.toInt a0_3.toInt (fl_A fa0_1) = r97.toInt := hfr97.symm
                          have hF1 := hF1.trans (fl_lt_eq hc97.symm)
                          rcases hw with hw | hw
                          · obtain ⟨hw, h97⟩ := hw
                            subst hw
                            have hF1 := hF1.trans (if_pos (show a0_3.toInt ≤ j67l1.toInt from h97))
                            refine va_iast hx hb hK hP hD hS 2 1 rfl rfl (ai_in bj67a0_8_l u84f_j67a0_8 (by decide) (by decide)) dX8_next_100 (fun H locs hP hD hS => ?_)
                            obtain ⟨f100, ef100⟩ : ∃ g9 : Nat → Int32, g9 = upd j67a0_12_a (j67a0_8 : Int32).toNatClampNeg ((-1) : Int32) := ⟨_, rfl⟩
                            refine zs_2 (y := (a0_12, .inl (ka0_12, 8, .inl (f100)))) hP hD (by rw [ef100]) (fun hP hD => ?_)
                            have fqf100 := fl_up_eq ef100
                            have hF1 := hF1.trans (fl_lt_eq (show (fl_A f100) = fl_up (fl_A j67a0_12_a) (j67a0_8.toInt.toNat) (-1) from fqf100))
                            exact (hK0 _ _ _).mp (J101 f100 _ _ _   hF1 hP hD hS (lv_sub hl [0, 1] rfl))
                          · have h97 := hw
                            have u97k1_j67l1 : j67l1.toInt ≤ (899 : Int) := u69k1_j67l1
                            have hF1 := hF1.trans (if_neg (show ¬ (a0_3.toInt ≤ j67l1.toInt) from Int.not_le.mpr h97))
                            refine va_iast hx hb hK hP hD hS 2 1 rfl rfl (ai_in bj67a0_8_l u84f_j67a0_8 (by decide) (by decide)) dX8_next_100 (fun H locs hP hD hS => ?_)
                            obtain ⟨f100, ef100⟩ : ∃ g9 : Nat → Int32, g9 = upd j67a0_12_a (j67a0_8 : Int32).toNatClampNeg r97 := ⟨_, rfl⟩
                            refine zs_2 (y := (a0_12, .inl (ka0_12, 8, .inl (f100)))) hP hD (by rw [ef100]) (fun hP hD => ?_)
                            have fqf100 := fl_up_eq ef100
                            have hF1 := hF1.trans (fl_lt_eq (show (fl_A f100) = fl_up (fl_A j67a0_12_a) (j67a0_8.toInt.toNat) r97.toInt from fqf100))
                            exact (hK0 _ _ _).mp (J101 f100 _ _ _   hF1 hP hD hS (lv_sub hl [0, 1] rfl))
                      · subst hw
                        have hF1 := hF1.trans (if_neg (by decide))
                        refine lv_if_eq (tgt := 117) hx hb dX8_next_75 (by decide) (fun _ => ?_) (fun c75 => absurd (by decide +kernel) c75)
                        have hF0 := hF0.trans (fl_wh_r (hSX67.trans hF1))
                        refine lv_aload_n hx hb dX8_next_117 rfl (lv_at hl 0 rfl) ?_
                        refine lv_iload_n hx hb dX8_next_118 rfl (lv_at hl 1 rfl) ?_
                        refine va_put (D := (dC, dI)) (ci := 8) (v := .int j67l1) (ty := .int) (C := RX8) (T := TX8) (N := 40) hx hb hts zi_X8_next_8 tyX8 tyX8_ok nmX8 hown hK hP hD hS 0 rfl rfl 5 (by decide) (hts (.fieldLink RX8 71 "WaxTurnsModel" "end" "I") (List.mem_cons_of_mem _ (List.mem_append_left _ (List.mem_of_getElem? (i := 0) rfl)))) (fun _ h9 => h9) rfl (tyX8_ok 5 (by decide)) rfl rfl (Nat.le_of_ble_eq_true rfl) dX8_next_119 (fun H locs hP hD hS => ?_)
                        refine zs_0 (y := (a0, .inr (8, [a0g_0, Value.ref a0_1, a0g_2, Value.int a0_3, Value.int j5l1, Value.int j67l1, Value.int a0_6, Value.int 0, Value.int j67a0_8, a0g_9, a0g_10, a0g_11, Value.ref a0_12, a0g_13, a0g_14, a0g_15, a0g_16, a0g_17, a0g_18, a0g_19, a0g_20, a0g_21, a0g_22, a0g_23, a0g_24, a0g_25, a0g_26, a0g_27, a0g_28, a0g_29, a0g_30, a0g_31, a0g_32, a0g_33, a0g_34, a0g_35, a0g_36, a0g_37, a0g_38, a0g_39]))) hP hD rfl (fun hP hD => ?_)
                        refine lv_aload_n hx hb dX8_next_122 rfl (lv_at hl 0 rfl) ?_
                        refine lv_aload_n hx hb dX8_next_123 rfl (lv_at hl 0 rfl) ?_
                        refine va_get (D := (dC, dI)) (ci := 8) (v := .int j67a0_8) (C := RX8) (T := TX8) (N := 40) hx hb hts zi_X8_next_8 hown hK hP 0 rfl rfl 8 (by decide) (hts (.fieldLink RX8 81 "WaxTurnsModel" "nameSize" "I") (List.mem_cons_of_mem _ (List.mem_append_left _ (List.mem_of_getElem? (i := 2) rfl)))) (fun _ h9 => h9) rfl dX8_next_124 ?_
                        refine lv_bipush (v := 8) hx hb dX8_next_127 zk_bipush_8 ?_
                        refine lv_icmp_le (tgt := 136) hx hb dX8_next_129 (by decide) (fun c129 => ?_) (fun c129 => ?_)
                        · have gc129 := ai_le c129
                          have u129t_j67a0_8 : j67a0_8.toInt ≤ (8 : Int) := Int.le_trans gc129 zq28
                          have hF0 := hF0.trans (if_pos (show j67a0_8.toInt ≤ 8 from gc129))
                          refine lv_iconst (v := 2) hx hb dX8_next_136 zk_iconst_2 ?_
                          refine va_put (D := (dC, dI)) (ci := 8) (v := .int 2) (ty := .int) (C := RX8) (T := TX8) (N := 40) hx hb hts zi_X8_next_8 tyX8 tyX8_ok nmX8 hown hK hP hD hS 0 rfl rfl 6 (by decide) (hts (.fieldLink RX8 87 "WaxTurnsModel" "token" "I") (List.mem_cons_of_mem _ (List.mem_append_left _ (List.mem_of_getElem? (i := 4) rfl)))) (fun _ h9 => h9) rfl (tyX8_ok 6 (by decide)) rfl rfl (Nat.le_of_ble_eq_true rfl) dX8_next_137 (fun H locs hP hD hS => ?_)
                          refine zs_0 (y := (a0, .inr (8, [a0g_0, Value.ref a0_1, a0g_2, Value.int a0_3, Value.int j5l1, Value.int j67l1, Value.int 2, Value.int 0, Value.int j67a0_8, a0g_9, a0g_10, a0g_11, Value.ref a0_12, a0g_13, a0g_14, a0g_15, a0g_16, a0g_17, a0g_18, a0g_19, a0g_20, a0g_21, a0g_22, a0g_23, a0g_24, a0g_25, a0g_26, a0g_27, a0g_28, a0g_29, a0g_30, a0g_31, a0g_32, a0g_33, a0g_34, a0g_35, a0g_36, a0g_37, a0g_38, a0g_39]))) hP hD rfl (fun hP hD => ?_)
                          refine lv_goto (tgt := 241) hx hb dX8_next_140 (by decide) ?_
                          have hFe : FX = (j5l1.toInt, j67l1.toInt, 2, 0, j67a0_8.toInt, (fl_A j67a0_12_a)) := hF0
                          exact W.vret hx hb hr (fun t ht hW => ⟨⟨(), rfl, trivial, j5l1, j67l1, 2, 0, j67a0_8, j67a0_12_a, ⟨bj67l1_l, Int.le_trans u69k1_j67l1 (by decide)⟩, ⟨bj67a0_8_l, Int.le_trans u129t_j67a0_8 (by decide)⟩, (fun _ => u129t_j67a0_8), ⟨by omega, Or.inl (by decide)⟩, hFe, by rw [ht]; exact hP, va_K.moved hW.alike hK, hD⟩, hS.F ht⟩) hS.2.2 dX8_next_241
                        · have gc129 := ai_nle c129
                          have l129f_j67a0_8 : (9 : Int) ≤ j67a0_8.toInt := ai_ltlo gc129 zq116
                          have hF0 := hF0.trans (if_neg (show ¬ (j67a0_8.toInt ≤ 8) from Int.not_le.mpr gc129))
                          refine lv_iconst (v := 1) hx hb dX8_next_132 zk_iconst_1 ?_
                          refine lv_goto (tgt := 137) hx hb dX8_next_133 (by decide) ?_
                          refine va_put (D := (dC, dI)) (ci := 8) (v := .int 1) (ty := .int) (C := RX8) (T := TX8) (N := 40) hx hb hts zi_X8_next_8 tyX8 tyX8_ok nmX8 hown hK hP hD hS 0 rfl rfl 6 (by decide) (hts (.fieldLink RX8 87 "WaxTurnsModel" "token" "I") (List.mem_cons_of_mem _ (List.mem_append_left _ (List.mem_of_getElem? (i := 4) rfl)))) (fun _ h9 => h9) rfl (tyX8_ok 6 (by decide)) rfl rfl (Nat.le_of_ble_eq_true rfl) dX8_next_137 (fun H locs hP hD hS => ?_)
                          refine zs_0 (y := (a0, .inr (8, [a0g_0, Value.ref a0_1, a0g_2, Value.int a0_3, Value.int j5l1, Value.int j67l1, Value.int 1, Value.int 0, Value.int j67a0_8, a0g_9, a0g_10, a0g_11, Value.ref a0_12, a0g_13, a0g_14, a0g_15, a0g_16, a0g_17, a0g_18, a0g_19, a0g_20, a0g_21, a0g_22, a0g_23, a0g_24, a0g_25, a0g_26, a0g_27, a0g_28, a0g_29, a0g_30, a0g_31, a0g_32, a0g_33, a0g_34, a0g_35, a0g_36, a0g_37, a0g_38, a0g_39]))) hP hD rfl (fun hP hD => ?_)
                          refine lv_goto (tgt := 241) hx hb dX8_next_140 (by decide) ?_
                          have hFe : FX = (j5l1.toInt, j67l1.toInt, 1, 0, j67a0_8.toInt, (fl_A j67a0_12_a)) := hF0
                          exact W.vret hx hb hr (fun t ht hW => ⟨⟨(), rfl, trivial, j5l1, j67l1, 1, 0, j67a0_8, j67a0_12_a, ⟨bj67l1_l, Int.le_trans u69k1_j67l1 (by decide)⟩, ⟨Int.le_trans (by decide) l129f_j67a0_8, bj67a0_8_u⟩, (fun h9 => absurd h9 (by decide)), ⟨by omega, Or.inl (by decide)⟩, hFe, by rw [ht]; exact hP, va_K.moved hW.alike hK, hD⟩, hS.F ht⟩) hS.2.2 dX8_next_241
                exact (hK0 _ _ _).mp (J67 901 j5l1 0 fa0_12 _ _ _ (by have h1 : (0 : Int) ≤ j5l1.toInt := bj5l1_l; have h2 : j5l1.toInt ≤ (899 : Int) := u28k1_j5l1; omega) bj5l1_l (Int.le_trans u28k1_j5l1 zq145) zq5 (Int.le_trans zq6 zq40) (by omega) (by have h1 : (0 : Int32).toInt = 0 := (by decide); omega) (by rw [show (0 : Int32).toInt = 0 from by decide]; exact hF0) hP hD hS (lv_sub hl [1, 2] rfl))
              · subst hw
                have hF0 := hF0.trans (if_neg (by decide))
                refine lv_if_eq (tgt := 143) hx hb dX8_next_64 (by decide) (fun _ => ?_) (fun c64 => absurd (by decide +kernel) c64)
                have J67 : ∀ (n : Nat) (j67l1 : Int32) (j67a0_8 : Int32) (j67a0_12_a : Nat → Int32) (H : Heap) (locs : List Loc) (ls : Array Slot), (901 : Int) - j67l1.toInt ≤ (n : Int) → (0 : Int) ≤ j67l1.toInt → j67l1.toInt ≤ (900 : Int) → (0 : Int) ≤ j67a0_8.toInt → j67a0_8.toInt ≤ (900 : Int) → (a0_5.toInt ≤ j67l1.toInt) → (j67a0_8.toInt ≤ j67l1.toInt) → (FX = fl_wh (fun t9 => Sf_X8_next_67_4 a0_3.toInt (fl_A fa0_1) j5l1.toInt t9.1 t9.2.1 t9.2.2) (0, 0, 0, 0, 0, (fun _ => 0)) n (j67l1.toInt, j67a0_8.toInt, (fl_A j67a0_12_a))) → va_P (dC, dI) vwCl [(a0, .inr (8, [a0g_0, Value.ref a0_1, a0g_2, Value.int a0_3, Value.int j5l1, Value.int a0_5, Value.int a0_6, Value.int 0, Value.int j67a0_8, a0g_9, a0g_10, a0g_11, Value.ref a0_12, a0g_13, a0g_14, a0g_15, a0g_16, a0g_17, a0g_18, a0g_19, a0g_20, a0g_21, a0g_22, a0g_23, a0g_24, a0g_25, a0g_26, a0g_27, a0g_28, a0g_29, a0g_30, a0g_31, a0g_32, a0g_33, a0g_34, a0g_35, a0g_36, a0g_37, a0g_38, a0g_39])), (a0_1, .inl (ka0_1, 900, .inl (fa0_1))), (a0_12, .inl (ka0_12, 8, .inl (j67a0_12_a)))] H → va_D A [(a0, .inr (8, [a0g_0, Value.ref a0_1, a0g_2, Value.int a0_3, Value.int j5l1, Value.int a0_5, Value.int a0_6, Value.int 0, Value.int j67a0_8, a0g_9, a0g_10, a0g_11, Value.ref a0_12, a0g_13, a0g_14, a0g_15, a0g_16, a0g_17, a0g_18, a0g_19, a0g_20, a0g_21, a0g_22, a0g_23, a0g_24, a0g_25, a0g_26, a0g_27, a0g_28, a0g_29, a0g_30, a0g_31, a0g_32, a0g_33, a0g_34, a0g_35, a0g_36, a0g_37, a0g_38, a0g_39])), (a0_1, .inl (ka0_1, 900, .inl (fa0_1))), (a0_12, .inl (ka0_12, 8, .inl (j67a0_12_a)))] → va_S A s.heap H locs → lv_has ls 4 [(0, .ref a0), (1, .int j67l1)] → K H locs (F0 m 67 ls []) := by
                  intro n
                  induction n with
                  | zero =>
                    intro j67l1 j67a0_8 j67a0_12_a H locs ls hm bj67l1_l bj67l1_u bj67a0_8_l bj67a0_8_u ke67 nk67 hF0 hP hD hS hl
                    first | exact zg_0 hm bj67l1_u (by decide) | (have h8 := ai_min j67l1; have h9 := ai_max j67l1; exact absurd hm (by omega))
                  | succ n ih67 =>
                    intro j67l1 j67a0_8 j67a0_12_a H locs ls hm bj67l1_l bj67l1_u bj67a0_8_l bj67a0_8_u ke67 nk67 hF0 hP hD hS hl
                    refine (hK0 _ _ _).mpr ?_
                    have hm67 := hm
                    obtain ⟨SX67, hSX67⟩ : ∃ q9, Sf_X8_next_67_4 a0_3.toInt (fl_A fa0_1) j5l1.toInt j67l1.toInt j67a0_8.toInt (fl_A j67a0_12_a) = q9 := ⟨_, rfl⟩
                    have hF1 := hSX67.symm.trans (Sf_X8_next_67_4.eq_1 a0_3.toInt (fl_A fa0_1) j5l1.toInt j67l1.toInt j67a0_8.toInt (fl_A j67a0_12_a))
                    refine lv_aload_n hx hb dX8_next_67 rfl (lv_at hl 0 rfl) ?_
                    refine lv_iload_n hx hb dX8_next_68 rfl (lv_at hl 1 rfl) ?_
                    have hKc := hK.sub (tys' := [(ka0_1, .int)]) [0] rfl
                    refine va_calli (va_runV (As := [.int j67l1]) (rest := []) ⟨hx, hb, hml, hown, hts⟩ (f_X8_see l dC dI H.size a0 j67l1 a0g_0 a0g_2 (Value.int j5l1) (Value.int a0_5) (Value.int a0_6) (Value.int 0) (Value.int j67a0_8) a0g_9 a0g_10 a0g_11 (Value.ref a0_12) a0g_13 a0g_14 a0g_15 a0g_16 a0g_17 a0g_18 a0g_19 a0g_20 a0g_21 a0g_22 a0g_23 a0g_24 a0g_25 a0g_26 a0g_27 a0g_28 a0g_29 a0g_30 a0g_31 a0g_32 a0g_33 a0g_34 a0g_35 a0g_36 a0g_37 a0g_38 a0g_39 a0_1 a0_3 ka0_1 fa0_1 bj67l1_l bj67l1_u ba0_3_l ba0_3_u) (cwV 1 hts gX8_next_X8_see rfl rfl rfl zd_X8_see ⟨Nat.le_of_ble_eq_true rfl, Nat.le_of_ble_eq_true rfl⟩) ⟨ax_blind (fun _ _ _ _ _ => trivial), zr_8 hKc (zp_P2 hP) (q0 := 0) rfl, ax_pre (zp_P2 hP) hKc (zp_D2 hD) (fun _ _ => trivial)⟩ rfl rfl hl.1 rfl (lv_room (Nat.le_of_ble_eq_true rfl)) dX8_next_69 ⟨Nat.le_of_ble_eq_true rfl, Nat.le_of_ble_eq_true rfl⟩) hS (fun q _ h => zp_F2 hD hS hA q h) (zp_F2 hD hS hA) (fun r69 u t H locs ht hvm hw hB hz1 hk1 hS1 => zo2 hB ht hP hD hk1 (zp_F2 hD hS hA) hS1 (fun hP hK1 hD hS => ?_))
                    obtain ⟨hw, hfr69⟩ := hw
                    have hc69 : Ff_X8_see j67l1.toInt a0_3.toInt (fl_A fa0_1) = r69.toInt := hfr69.symm
                    have hF1 := hF1.trans (fl_lt_eq hc69.symm)
                    rcases hw with hw | hw
                    · obtain ⟨hw, h69⟩ := hw
                      subst hw
                      have hF1 := hF1.trans (if_pos (show a0_3.toInt ≤ j67l1.toInt from h69))
                      refine va_calli (va_runS (As := [.int (-1)]) (rest := []) ⟨hx, hb, hml, hown, hts⟩ (f_X8_isSmall l dC dI H.size (-1) ) (va_cwS 1 hts gX8_next_X8_isSmall rfl rfl rfl zd_X8_isSmall.2 ⟨Nat.le_of_ble_eq_true rfl, Nat.le_of_ble_eq_true rfl⟩) ⟨ax_blind (fun _ _ _ _ _ => trivial), ax_pre (zp_P0 hP) (zp_K hK) (zp_D0 hD) (fun _ _ => trivial)⟩ rfl rfl hl.1 rfl (lv_room (Nat.le_of_ble_eq_true rfl)) dX8_next_72 ⟨Nat.le_of_ble_eq_true rfl, Nat.le_of_ble_eq_true rfl⟩) hS (fun q _ h => zp_F0 hD hS hA q h) (zp_F0 hD hS hA) (fun r72 u t H locs ht hvm hw hB hz1 hk1 hS1 => zo0 hB ht hP hD hk1 (zp_F0 hD hS hA) hS1 (fun hP hK1 hD hS => ?_))
                      obtain ⟨hw, hfr72⟩ := hw
                      rw [show ((-1) : Int32).toInt = (-1) from by decide] at hfr72
                      have hc72 : Ff_X8_isSmall (-1) = r72.toInt := hfr72.symm
                      have hF1 := hF1.trans (fl_lt_eq hc72.symm)
                      rcases hw with hw | hw
                      · obtain ⟨hw, h72_0, h72_1⟩ := hw
                        subst hw
                        exact absurd h72_0 (by decide)
                      · subst hw
                        have hF1 := hF1.trans (if_neg (by decide))
                        refine lv_if_eq (tgt := 117) hx hb dX8_next_75 (by decide) (fun _ => ?_) (fun c75 => absurd (by decide +kernel) c75)
                        have hF0 := hF0.trans (fl_wh_r (hSX67.trans hF1))
                        refine lv_aload_n hx hb dX8_next_117 rfl (lv_at hl 0 rfl) ?_
                        refine lv_iload_n hx hb dX8_next_118 rfl (lv_at hl 1 rfl) ?_
                        refine va_put (D := (dC, dI)) (ci := 8) (v := .int j67l1) (ty := .int) (C := RX8) (T := TX8) (N := 40) hx hb hts zi_X8_next_8 tyX8 tyX8_ok nmX8 hown hK hP hD hS 0 rfl rfl 5 (by decide) (hts (.fieldLink RX8 71 "WaxTurnsModel" "end" "I") (List.mem_cons_of_mem _ (List.mem_append_left _ (List.mem_of_getElem? (i := 0) rfl)))) (fun _ h9 => h9) rfl (tyX8_ok 5 (by decide)) rfl rfl (Nat.le_of_ble_eq_true rfl) dX8_next_119 (fun H locs hP hD hS => ?_)
                        refine zs_0 (y := (a0, .inr (8, [a0g_0, Value.ref a0_1, a0g_2, Value.int a0_3, Value.int j5l1, Value.int j67l1, Value.int a0_6, Value.int 0, Value.int j67a0_8, a0g_9, a0g_10, a0g_11, Value.ref a0_12, a0g_13, a0g_14, a0g_15, a0g_16, a0g_17, a0g_18, a0g_19, a0g_20, a0g_21, a0g_22, a0g_23, a0g_24, a0g_25, a0g_26, a0g_27, a0g_28, a0g_29, a0g_30, a0g_31, a0g_32, a0g_33, a0g_34, a0g_35, a0g_36, a0g_37, a0g_38, a0g_39]))) hP hD rfl (fun hP hD => ?_)
                        refine lv_aload_n hx hb dX8_next_122 rfl (lv_at hl 0 rfl) ?_
                        refine lv_aload_n hx hb dX8_next_123 rfl (lv_at hl 0 rfl) ?_
                        refine va_get (D := (dC, dI)) (ci := 8) (v := .int j67a0_8) (C := RX8) (T := TX8) (N := 40) hx hb hts zi_X8_next_8 hown hK hP 0 rfl rfl 8 (by decide) (hts (.fieldLink RX8 81 "WaxTurnsModel" "nameSize" "I") (List.mem_cons_of_mem _ (List.mem_append_left _ (List.mem_of_getElem? (i := 2) rfl)))) (fun _ h9 => h9) rfl dX8_next_124 ?_
                        refine lv_bipush (v := 8) hx hb dX8_next_127 zk_bipush_8 ?_
                        refine lv_icmp_le (tgt := 136) hx hb dX8_next_129 (by decide) (fun c129 => ?_) (fun c129 => ?_)
                        · have gc129 := ai_le c129
                          have u129t_j67a0_8 : j67a0_8.toInt ≤ (8 : Int) := Int.le_trans gc129 zq28
                          have hF0 := hF0.trans (if_pos (show j67a0_8.toInt ≤ 8 from gc129))
                          refine lv_iconst (v := 2) hx hb dX8_next_136 zk_iconst_2 ?_
                          refine va_put (D := (dC, dI)) (ci := 8) (v := .int 2) (ty := .int) (C := RX8) (T := TX8) (N := 40) hx hb hts zi_X8_next_8 tyX8 tyX8_ok nmX8 hown hK hP hD hS 0 rfl rfl 6 (by decide) (hts (.fieldLink RX8 87 "WaxTurnsModel" "token" "I") (List.mem_cons_of_mem _ (List.mem_append_left _ (List.mem_of_getElem? (i := 4) rfl)))) (fun _ h9 => h9) rfl (tyX8_ok 6 (by decide)) rfl rfl (Nat.le_of_ble_eq_true rfl) dX8_next_137 (fun H locs hP hD hS => ?_)
                          refine zs_0 (y := (a0, .inr (8, [a0g_0, Value.ref a0_1, a0g_2, Value.int a0_3, Value.int j5l1, Value.int j67l1, Value.int 2, Value.int 0, Value.int j67a0_8, a0g_9, a0g_10, a0g_11, Value.ref a0_12, a0g_13, a0g_14, a0g_15, a0g_16, a0g_17, a0g_18, a0g_19, a0g_20, a0g_21, a0g_22, a0g_23, a0g_24, a0g_25, a0g_26, a0g_27, a0g_28, a0g_29, a0g_30, a0g_31, a0g_32, a0g_33, a0g_34, a0g_35, a0g_36, a0g_37, a0g_38, a0g_39]))) hP hD rfl (fun hP hD => ?_)
                          refine lv_goto (tgt := 241) hx hb dX8_next_140 (by decide) ?_
                          have hFe : FX = (j5l1.toInt, j67l1.toInt, 2, 0, j67a0_8.toInt, (fl_A j67a0_12_a)) := hF0
                          exact W.vret hx hb hr (fun t ht hW => ⟨⟨(), rfl, trivial, j5l1, j67l1, 2, 0, j67a0_8, j67a0_12_a, ⟨bj67l1_l, bj67l1_u⟩, ⟨bj67a0_8_l, Int.le_trans u129t_j67a0_8 (by decide)⟩, (fun _ => u129t_j67a0_8), ⟨by omega, Or.inl (by decide)⟩, hFe, by rw [ht]; exact hP, va_K.moved hW.alike hK, hD⟩, hS.F ht⟩) hS.2.2 dX8_next_241
                        · have gc129 := ai_nle c129
                          have l129f_j67a0_8 : (9 : Int) ≤ j67a0_8.toInt := ai_ltlo gc129 zq116
                          have hF0 := hF0.trans (if_neg (show ¬ (j67a0_8.toInt ≤ 8) from Int.not_le.mpr gc129))
                          refine lv_iconst (v := 1) hx hb dX8_next_132 zk_iconst_1 ?_
                          refine lv_goto (tgt := 137) hx hb dX8_next_133 (by decide) ?_
                          refine va_put (D := (dC, dI)) (ci := 8) (v := .int 1) (ty := .int) (C := RX8) (T := TX8) (N := 40) hx hb hts zi_X8_next_8 tyX8 tyX8_ok nmX8 hown hK hP hD hS 0 rfl rfl 6 (by decide) (hts (.fieldLink RX8 87 "WaxTurnsModel" "token" "I") (List.mem_cons_of_mem _ (List.mem_append_left _ (List.mem_of_getElem? (i := 4) rfl)))) (fun _ h9 => h9) rfl (tyX8_ok 6 (by decide)) rfl rfl (Nat.le_of_ble_eq_true rfl) dX8_next_137 (fun H locs hP hD hS => ?_)
                          refine zs_0 (y := (a0, .inr (8, [a0g_0, Value.ref a0_1, a0g_2, Value.int a0_3, Value.int j5l1, Value.int j67l1, Value.int 1, Value.int 0, Value.int j67a0_8, a0g_9, a0g_10, a0g_11, Value.ref a0_12, a0g_13, a0g_14, a0g_15, a0g_16, a0g_17, a0g_18, a0g_19, a0g_20, a0g_21, a0g_22, a0g_23, a0g_24, a0g_25, a0g_26, a0g_27, a0g_28, a0g_29, a0g_30, a0g_31, a0g_32, a0g_33, a0g_34, a0g_35, a0g_36, a0g_37, a0g_38, a0g_39]))) hP hD rfl (fun hP hD => ?_)
                          refine lv_goto (tgt := 241) hx hb dX8_next_140 (by decide) ?_
                          have hFe : FX = (j5l1.toInt, j67l1.toInt, 1, 0, j67a0_8.toInt, (fl_A j67a0_12_a)) := hF0
                          exact W.vret hx hb hr (fun t ht hW => ⟨⟨(), rfl, trivial, j5l1, j67l1, 1, 0, j67a0_8, j67a0_12_a, ⟨bj67l1_l, bj67l1_u⟩, ⟨Int.le_trans (by decide) l129f_j67a0_8, bj67a0_8_u⟩, (fun h9 => absurd h9 (by decide)), ⟨by omega, Or.inl (by decide)⟩, hFe, by rw [ht]; exact hP, va_K.moved hW.alike hK, hD⟩, hS.F ht⟩) hS.2.2 dX8_next_241
                    · have h69 := hw
                      have u69k1_j67l1 : j67l1.toInt ≤ (899 : Int) := by have h1 := h69; have h2 := ba0_3_u; omega
                      have hF1 := hF1.trans (if_neg (show ¬ (a0_3.toInt ≤ j67l1.toInt) from Int.not_le.mpr h69))
                      refine va_calli (va_runS (As := [.int r69]) (rest := []) ⟨hx, hb, hml, hown, hts⟩ (f_X8_isSmall l dC dI H.size r69 ) (va_cwS 1 hts gX8_next_X8_isSmall rfl rfl rfl zd_X8_isSmall.2 ⟨Nat.le_of_ble_eq_true rfl, Nat.le_of_ble_eq_true rfl⟩) ⟨ax_blind (fun _ _ _ _ _ => trivial), ax_pre (zp_P0 hP) (zp_K hK) (zp_D0 hD) (fun _ _ => trivial)⟩ rfl rfl hl.1 rfl (lv_room (Nat.le_of_ble_eq_true rfl)) dX8_next_72 ⟨Nat.le_of_ble_eq_true rfl, Nat.le_of_ble_eq_true rfl⟩) hS (fun q _ h => zp_F0 hD hS hA q h) (zp_F0 hD hS hA) (fun r72 u t H locs ht hvm hw hB hz1 hk1 hS1 => zo0 hB ht hP hD hk1 (zp_F0 hD hS hA) hS1 (fun hP hK1 hD hS => ?_))
                      obtain ⟨hw, hfr72⟩ := hw
                      have hc72 : Ff_X8_isSmall r69.toInt = r72.toInt := hfr72.symm
                      have hF1 := hF1.trans (fl_lt_eq hc72.symm)
                      rcases hw with hw | hw
                      · obtain ⟨hw, h72_0, h72_1⟩ := hw
                        subst hw
                        have l72k0_r69 : (97 : Int) ≤ r69.toInt := h72_0
                        have u72k0_r69 : r69.toInt ≤ (122 : Int) := h72_1
                        have hF1 := hF1.trans (if_pos (by decide))
                        refine lv_if_eq (tgt := 117) hx hb dX8_next_75 (by decide) (fun c75 => absurd c75 (by decide +kernel)) (fun _ => ?_)
                        refine lv_aload_n hx hb dX8_next_78 rfl (lv_at hl 0 rfl) ?_
                        refine va_get (D := (dC, dI)) (ci := 8) (v := .int j67a0_8) (C := RX8) (T := TX8) (N := 40) hx hb hts zi_X8_next_8 hown hK hP 0 rfl rfl 8 (by decide) (hts (.fieldLink RX8 81 "WaxTurnsModel" "nameSize" "I") (List.mem_cons_of_mem _ (List.mem_append_left _ (List.mem_of_getElem? (i := 2) rfl)))) (fun _ h9 => h9) rfl dX8_next_79 ?_
                        refine lv_bipush (v := 8) hx hb dX8_next_82 zk_bipush_8 ?_
                        have J101 : ∀ (j101a0_12_a : Nat → Int32) (H : Heap) (locs : List Loc) (ls : Array Slot), (SX67 = Gf_X8_next_101_4 j67l1.toInt j67a0_8.toInt (fl_A j101a0_12_a)) → va_P (dC, dI) vwCl [(a0, .inr (8, [a0g_0, Value.ref a0_1, a0g_2, Value.int a0_3, Value.int j5l1, Value.int a0_5, Value.int a0_6, Value.int 0, Value.int j67a0_8, a0g_9, a0g_10, a0g_11, Value.ref a0_12, a0g_13, a0g_14, a0g_15, a0g_16, a0g_17, a0g_18, a0g_19, a0g_20, a0g_21, a0g_22, a0g_23, a0g_24, a0g_25, a0g_26, a0g_27, a0g_28, a0g_29, a0g_30, a0g_31, a0g_32, a0g_33, a0g_34, a0g_35, a0g_36, a0g_37, a0g_38, a0g_39])), (a0_1, .inl (ka0_1, 900, .inl (fa0_1))), (a0_12, .inl (ka0_12, 8, .inl (j101a0_12_a)))] H → va_D A [(a0, .inr (8, [a0g_0, Value.ref a0_1, a0g_2, Value.int a0_3, Value.int j5l1, Value.int a0_5, Value.int a0_6, Value.int 0, Value.int j67a0_8, a0g_9, a0g_10, a0g_11, Value.ref a0_12, a0g_13, a0g_14, a0g_15, a0g_16, a0g_17, a0g_18, a0g_19, a0g_20, a0g_21, a0g_22, a0g_23, a0g_24, a0g_25, a0g_26, a0g_27, a0g_28, a0g_29, a0g_30, a0g_31, a0g_32, a0g_33, a0g_34, a0g_35, a0g_36, a0g_37, a0g_38, a0g_39])), (a0_1, .inl (ka0_1, 900, .inl (fa0_1))), (a0_12, .inl (ka0_12, 8, .inl (j101a0_12_a)))] → va_S A s.heap H locs → lv_has ls 4 [(0, .ref a0), (1, .int j67l1)] → K H locs (F0 m 101 ls []) := by
                          intro j101a0_12_a H locs ls  hF1 hP hD hS hl
                          refine (hK0 _ _ _).mpr ?_
                          have hF1 := hF1.trans (Gf_X8_next_101_4.eq_1 j67l1.toInt j67a0_8.toInt (fl_A j101a0_12_a))
                          refine lv_aload_n hx hb dX8_next_101 rfl (lv_at hl 0 rfl) ?_
                          refine lv_dup hx hb dX8_next_102 rfl ?_
                          refine va_get (D := (dC, dI)) (ci := 8) (v := .int j67a0_8) (C := RX8) (T := TX8) (N := 40) hx hb hts zi_X8_next_8 hown hK hP 0 rfl rfl 8 (by decide) (hts (.fieldLink RX8 81 "WaxTurnsModel" "nameSize" "I") (List.mem_cons_of_mem _ (List.mem_append_left _ (List.mem_of_getElem? (i := 2) rfl)))) (fun _ h9 => h9) rfl dX8_next_103 ?_
                          have u103z_j67a0_8 : j67a0_8.toInt ≤ (899 : Int) := by omega
                          refine lv_iconst (v := 1) hx hb dX8_next_106 zk_iconst_1 ?_
                          refine lv_iadd hx hb dX8_next_107 ?_
                          refine lv_topi (fun x107 ex107 => ?_)
                          have qx107 : x107.toInt = j67a0_8.toInt + (1 : Int32).toInt := ai_add ex107 ⟨bj67a0_8_l, u103z_j67a0_8⟩ ⟨zq1, zq0⟩ (by decide) (by decide)
                          have bx107 : (1 : Int) ≤ x107.toInt ∧ x107.toInt ≤ 900 := ⟨by rw [qx107]; exact Int.add_le_add bj67a0_8_l zq1, by rw [qx107]; exact Int.add_le_add u103z_j67a0_8 zq0⟩
                          have wx107 : x107.toInt = j67a0_8.toInt + 1 := qx107
                          have hF1 := hF1.trans (fl_lt_eq (show x107.toInt = j67a0_8.toInt + 1 from qx107))
                          refine va_put (D := (dC, dI)) (ci := 8) (v := .int x107) (ty := .int) (C := RX8) (T := TX8) (N := 40) hx hb hts zi_X8_next_8 tyX8 tyX8_ok nmX8 hown hK hP hD hS 0 rfl rfl 8 (by decide) (hts (.fieldLink RX8 81 "WaxTurnsModel" "nameSize" "I") (List.mem_cons_of_mem _ (List.mem_append_left _ (List.mem_of_getElem? (i := 2) rfl)))) (fun _ h9 => h9) rfl (tyX8_ok 8 (by decide)) rfl rfl (Nat.le_of_ble_eq_true rfl) dX8_next_108 (fun H locs hP hD hS => ?_)
                          refine zs_0 (y := (a0, .inr (8, [a0g_0, Value.ref a0_1, a0g_2, Value.int a0_3, Value.int j5l1, Value.int a0_5, Value.int a0_6, Value.int 0, Value.int x107, a0g_9, a0g_10, a0g_11, Value.ref a0_12, a0g_13, a0g_14, a0g_15, a0g_16, a0g_17, a0g_18, a0g_19, a0g_20, a0g_21, a0g_22, a0g_23, a0g_24, a0g_25, a0g_26, a0g_27, a0g_28, a0g_29, a0g_30, a0g_31, a0g_32, a0g_33, a0g_34, a0g_35, a0g_36, a0g_37, a0g_38, a0g_39]))) hP hD rfl (fun hP hD => ?_)
                          obtain ⟨x111, ex111⟩ : ∃ y : Int32, y = j67l1 + Int32.ofInt 1 := ⟨_, rfl⟩
                          have qx111 : x111.toInt = j67l1.toInt + 1 := ai_inc ex111 (by decide) (by decide) u69k1_j67l1 (by decide)
                          have bx111 : (1 : Int) ≤ x111.toInt ∧ x111.toInt ≤ 900 := ⟨by rw [qx111]; exact Int.add_le_add bj67l1_l (Int.le_refl _), by rw [qx111]; exact Int.add_le_add u69k1_j67l1 (Int.le_refl _)⟩
                          refine lv_iinc (v := x111) (lv' := [(1, .int x111), (0, .ref a0)]) hx hb dX8_next_111 hl (k := 1) rfl ex111.symm (by decide) rfl (fun ls hl => ?_)
                          have hF1 := hF1.trans (fl_lt_eq (show x111.toInt = j67l1.toInt + 1 from qx111))
                          refine lv_goto (tgt := 67) hx hb dX8_next_114 (by decide) ?_
                          exact (hK0 _ _ _).mp (ih67 x111 x107 j101a0_12_a _ _ _ (by first | exact zg_s hm67 qx111 | (have h0 := qx111; omega)) (Int.le_trans zq4 bx111.1) bx111.2 (Int.le_trans zq4 bx107.1) bx107.2 (by omega) (by omega) (hF0.trans (fl_wh_l (hSX67.trans hF1))) hP hD hS (lv_sub hl [1, 0] rfl))
                        refine lv_icmp_ge (tgt := 101) hx hb dX8_next_84 (by decide) (fun c84 => ?_) (fun c84 => ?_)
                        · have gc84 := ai_le c84
                          have l84t_j67a0_8 : (8 : Int) ≤ j67a0_8.toInt := Int.le_trans zq116 gc84
                          have hF1 := hF1.trans (if_pos (show 8 ≤ j67a0_8.toInt from gc84))
                          exact (hK0 _ _ _).mp (J101 j67a0_12_a _ _ _   hF1 hP hD hS (lv_sub hl [0, 1] rfl))
                        · have gc84 := ai_nle c84
                          have u84f_j67a0_8 : j67a0_8.toInt ≤ (7 : Int) := ai_lthi gc84 zq28
                          have hF1 := hF1.trans (if_neg (show ¬ (8 ≤ j67a0_8.toInt) from Int.not_le.mpr gc84))
                          refine lv_aload_n hx hb dX8_next_87 rfl (lv_at hl 0 rfl) ?_
                          refine va_get (D := (dC, dI)) (ci := 8) (v := .ref a0_12) (C := RX8) (T := TX8) (N := 40) hx hb hts zi_X8_next_8 hown hK hP 0 rfl rfl 12 (by decide) (hts (.fieldLink RX8 17 "WaxTurnsModel" "letters" "[I") (List.mem_cons_of_mem _ (List.mem_append_left _ (List.mem_of_getElem? (i := 5) rfl)))) (fun _ h9 => h9) rfl dX8_next_88 ?_
                          refine lv_aload_n hx hb dX8_next_91 rfl (lv_at hl 0 rfl) ?_
                          refine va_get (D := (dC, dI)) (ci := 8) (v := .int j67a0_8) (C := RX8) (T := TX8) (N := 40) hx hb hts zi_X8_next_8 hown hK hP 0 rfl rfl 8 (by decide) (hts (.fieldLink RX8 81 "WaxTurnsModel" "nameSize" "I") (List.mem_cons_of_mem _ (List.mem_append_left _ (List.mem_of_getElem? (i := 2) rfl)))) (fun _ h9 => h9) rfl dX8_next_92 ?_
                          refine lv_aload_n hx hb dX8_next_95 rfl (lv_at hl 0 rfl) ?_
                          refine lv_iload_n hx hb dX8_next_96 rfl (lv_at hl 1 rfl) ?_
                          have hKc := hK.sub (tys' := [(ka0_1, .int)]) [0] rfl
                          refine va_calli (va_runV (As := [.int j67l1]) (rest := [.int j67a0_8, .ref a0_12]) ⟨hx, hb, hml, hown, hts⟩ (f_X8_see l dC dI H.size a0 j67l1 a0g_0 a0g_2 (Value.int j5l1) (Value.int a0_5) (Value.int a0_6) (Value.int 0) (Value.int j67a0_8) a0g_9 a0g_10 a0g_11 (Value.ref a0_12) a0g_13 a0g_14 a0g_15 a0g_16 a0g_17 a0g_18 a0g_19 a0g_20 a0g_21 a0g_22 a0g_23 a0g_24 a0g_25 a0g_26 a0g_27 a0g_28 a0g_29 a0g_30 a0g_31 a0g_32 a0g_33 a0g_34 a0g_35 a0g_36 a0g_37 a0g_38 a0g_39 a0_1 a0_3 ka0_1 fa0_1 bj67l1_l (Int.le_trans u69k1_j67l1 zq145) ba0_3_l ba0_3_u) (cwV 1 hts gX8_next_X8_see rfl rfl rfl zd_X8_see ⟨Nat.le_of_ble_eq_true rfl, Nat.le_of_ble_eq_true rfl⟩) ⟨ax_blind (fun _ _ _ _ _ => trivial), zr_8 hKc (zp_P2 hP) (q0 := 0) rfl, ax_pre (zp_P2 hP) hKc (zp_D2 hD) (fun _ _ => trivial)⟩ rfl rfl hl.1 rfl (lv_room (Nat.le_of_ble_eq_true rfl)) dX8_next_97 ⟨Nat.le_of_ble_eq_true rfl, Nat.le_of_ble_eq_true rfl⟩) hS (fun q _ h => zp_F2 hD hS hA q h) (zp_F2 hD hS hA) (fun r97 u t H locs ht hvm hw hB hz1 hk1 hS1 => zo2 hB ht hP hD hk1 (zp_F2 hD hS hA) hS1 (fun hP hK1 hD hS => ?_))
                          obtain ⟨hw, hfr97⟩ := hw
                          have hc97 : Ff_X8_see j67l1.toInt a0_3.toInt (fl_A fa0_1) = r97.toInt := hfr97.symm
                          have hF1 := hF1.trans (fl_lt_eq hc97.symm)
                          rcases hw with hw | hw
                          · obtain ⟨hw, h97⟩ := hw
                            subst hw
                            have hF1 := hF1.trans (if_pos (show a0_3.toInt ≤ j67l1.toInt from h97))
                            refine va_iast hx hb hK hP hD hS 2 1 rfl rfl (ai_in bj67a0_8_l u84f_j67a0_8 (by decide) (by decide)) dX8_next_100 (fun H locs hP hD hS => ?_)
                            obtain ⟨f100, ef100⟩ : ∃ g9 : Nat → Int32, g9 = upd j67a0_12_a (j67a0_8 : Int32).toNatClampNeg ((-1) : Int32) := ⟨_, rfl⟩
                            refine zs_2 (y := (a0_12, .inl (ka0_12, 8, .inl (f100)))) hP hD (by rw [ef100]) (fun hP hD => ?_)
                            have fqf100 := fl_up_eq ef100
                            have hF1 := hF1.trans (fl_lt_eq (show (fl_A f100) = fl_up (fl_A j67a0_12_a) (j67a0_8.toInt.toNat) (-1) from fqf100))
                            exact (hK0 _ _ _).mp (J101 f100 _ _ _   hF1 hP hD hS (lv_sub hl [0, 1] rfl))
                          · have h97 := hw
                            have u97k1_j67l1 : j67l1.toInt ≤ (899 : Int) := u69k1_j67l1
                            have hF1 := hF1.trans (if_neg (show ¬ (a0_3.toInt ≤ j67l1.toInt) from Int.not_le.mpr h97))
                            refine va_iast hx hb hK hP hD hS 2 1 rfl rfl (ai_in bj67a0_8_l u84f_j67a0_8 (by decide) (by decide)) dX8_next_100 (fun H locs hP hD hS => ?_)
                            obtain ⟨f100, ef100⟩ : ∃ g9 : Nat → Int32, g9 = upd j67a0_12_a (j67a0_8 : Int32).toNatClampNeg r97 := ⟨_, rfl⟩
                            refine zs_2 (y := (a0_12, .inl (ka0_12, 8, .inl (f100)))) hP hD (by rw [ef100]) (fun hP hD => ?_)
                            have fqf100 := fl_up_eq ef100
                            have hF1 := hF1.trans (fl_lt_eq (show (fl_A f100) = fl_up (fl_A j67a0_12_a) (j67a0_8.toInt.toNat) r97.toInt from fqf100))
                            exact (hK0 _ _ _).mp (J101 f100 _ _ _   hF1 hP hD hS (lv_sub hl [0, 1] rfl))
                      · subst hw
                        have hF1 := hF1.trans (if_neg (by decide))
                        refine lv_if_eq (tgt := 117) hx hb dX8_next_75 (by decide) (fun _ => ?_) (fun c75 => absurd (by decide +kernel) c75)
                        have hF0 := hF0.trans (fl_wh_r (hSX67.trans hF1))
                        refine lv_aload_n hx hb dX8_next_117 rfl (lv_at hl 0 rfl) ?_
                        refine lv_iload_n hx hb dX8_next_118 rfl (lv_at hl 1 rfl) ?_
                        refine va_put (D := (dC, dI)) (ci := 8) (v := .int j67l1) (ty := .int) (C := RX8) (T := TX8) (N := 40) hx hb hts zi_X8_next_8 tyX8 tyX8_ok nmX8 hown hK hP hD hS 0 rfl rfl 5 (by decide) (hts (.fieldLink RX8 71 "WaxTurnsModel" "end" "I") (List.mem_cons_of_mem _ (List.mem_append_left _ (List.mem_of_getElem? (i := 0) rfl)))) (fun _ h9 => h9) rfl (tyX8_ok 5 (by decide)) rfl rfl (Nat.le_of_ble_eq_true rfl) dX8_next_119 (fun H locs hP hD hS => ?_)
                        refine zs_0 (y := (a0, .inr (8, [a0g_0, Value.ref a0_1, a0g_2, Value.int a0_3, Value.int j5l1, Value.int j67l1, Value.int a0_6, Value.int 0, Value.int j67a0_8, a0g_9, a0g_10, a0g_11, Value.ref a0_12, a0g_13, a0g_14, a0g_15, a0g_16, a0g_17, a0g_18, a0g_19, a0g_20, a0g_21, a0g_22, a0g_23, a0g_24, a0g_25, a0g_26, a0g_27, a0g_28, a0g_29, a0g_30, a0g_31, a0g_32, a0g_33, a0g_34, a0g_35, a0g_36, a0g_37, a0g_38, a0g_39]))) hP hD rfl (fun hP hD => ?_)
                        refine lv_aload_n hx hb dX8_next_122 rfl (lv_at hl 0 rfl) ?_
                        refine lv_aload_n hx hb dX8_next_123 rfl (lv_at hl 0 rfl) ?_
                        refine va_get (D := (dC, dI)) (ci := 8) (v := .int j67a0_8) (C := RX8) (T := TX8) (N := 40) hx hb hts zi_X8_next_8 hown hK hP 0 rfl rfl 8 (by decide) (hts (.fieldLink RX8 81 "WaxTurnsModel" "nameSize" "I") (List.mem_cons_of_mem _ (List.mem_append_left _ (List.mem_of_getElem? (i := 2) rfl)))) (fun _ h9 => h9) rfl dX8_next_124 ?_
                        refine lv_bipush (v := 8) hx hb dX8_next_127 zk_bipush_8 ?_
                        refine lv_icmp_le (tgt := 136) hx hb dX8_next_129 (by decide) (fun c129 => ?_) (fun c129 => ?_)
                        · have gc129 := ai_le c129
                          have u129t_j67a0_8 : j67a0_8.toInt ≤ (8 : Int) := Int.le_trans gc129 zq28
                          have hF0 := hF0.trans (if_pos (show j67a0_8.toInt ≤ 8 from gc129))
                          refine lv_iconst (v := 2) hx hb dX8_next_136 zk_iconst_2 ?_
                          refine va_put (D := (dC, dI)) (ci := 8) (v := .int 2) (ty := .int) (C := RX8) (T := TX8) (N := 40) hx hb hts zi_X8_next_8 tyX8 tyX8_ok nmX8 hown hK hP hD hS 0 rfl rfl 6 (by decide) (hts (.fieldLink RX8 87 "WaxTurnsModel" "token" "I") (List.mem_cons_of_mem _ (List.mem_append_left _ (List.mem_of_getElem? (i := 4) rfl)))) (fun _ h9 => h9) rfl (tyX8_ok 6 (by decide)) rfl rfl (Nat.le_of_ble_eq_true rfl) dX8_next_137 (fun H locs hP hD hS => ?_)
                          refine zs_0 (y := (a0, .inr (8, [a0g_0, Value.ref a0_1, a0g_2, Value.int a0_3, Value.int j5l1, Value.int j67l1, Value.int 2, Value.int 0, Value.int j67a0_8, a0g_9, a0g_10, a0g_11, Value.ref a0_12, a0g_13, a0g_14, a0g_15, a0g_16, a0g_17, a0g_18, a0g_19, a0g_20, a0g_21, a0g_22, a0g_23, a0g_24, a0g_25, a0g_26, a0g_27, a0g_28, a0g_29, a0g_30, a0g_31, a0g_32, a0g_33, a0g_34, a0g_35, a0g_36, a0g_37, a0g_38, a0g_39]))) hP hD rfl (fun hP hD => ?_)
                          refine lv_goto (tgt := 241) hx hb dX8_next_140 (by decide) ?_
                          have hFe : FX = (j5l1.toInt, j67l1.toInt, 2, 0, j67a0_8.toInt, (fl_A j67a0_12_a)) := hF0
                          exact W.vret hx hb hr (fun t ht hW => ⟨⟨(), rfl, trivial, j5l1, j67l1, 2, 0, j67a0_8, j67a0_12_a, ⟨bj67l1_l, Int.le_trans u69k1_j67l1 (by decide)⟩, ⟨bj67a0_8_l, Int.le_trans u129t_j67a0_8 (by decide)⟩, (fun _ => u129t_j67a0_8), ⟨by omega, Or.inl (by decide)⟩, hFe, by rw [ht]; exact hP, va_K.moved hW.alike hK, hD⟩, hS.F ht⟩) hS.2.2 dX8_next_241
                        · have gc129 := ai_nle c129
                          have l129f_j67a0_8 : (9 : Int) ≤ j67a0_8.toInt := ai_ltlo gc129 zq116
                          have hF0 := hF0.trans (if_neg (show ¬ (j67a0_8.toInt ≤ 8) from Int.not_le.mpr gc129))
                          refine lv_iconst (v := 1) hx hb dX8_next_132 zk_iconst_1 ?_
                          refine lv_goto (tgt := 137) hx hb dX8_next_133 (by decide) ?_
                          refine va_put (D := (dC, dI)) (ci := 8) (v := .int 1) (ty := .int) (C := RX8) (T := TX8) (N := 40) hx hb hts zi_X8_next_8 tyX8 tyX8_ok nmX8 hown hK hP hD hS 0 rfl rfl 6 (by decide) (hts (.fieldLink RX8 87 "WaxTurnsModel" "token" "I") (List.mem_cons_of_mem _ (List.mem_append_left _ (List.mem_of_getElem? (i := 4) rfl)))) (fun _ h9 => h9) rfl (tyX8_ok 6 (by decide)) rfl rfl (Nat.le_of_ble_eq_true rfl) dX8_next_137 (fun H locs hP hD hS => ?_)
                          refine zs_0 (y := (a0, .inr (8, [a0g_0, Value.ref a0_1, a0g_2, Value.int a0_3, Value.int j5l1, Value.int j67l1, Value.int 1, Value.int 0, Value.int j67a0_8, a0g_9, a0g_10, a0g_11, Value.ref a0_12, a0g_13, a0g_14, a0g_15, a0g_16, a0g_17, a0g_18, a0g_19, a0g_20, a0g_21, a0g_22, a0g_23, a0g_24, a0g_25, a0g_26, a0g_27, a0g_28, a0g_29, a0g_30, a0g_31, a0g_32, a0g_33, a0g_34, a0g_35, a0g_36, a0g_37, a0g_38, a0g_39]))) hP hD rfl (fun hP hD => ?_)
                          refine lv_goto (tgt := 241) hx hb dX8_next_140 (by decide) ?_
                          have hFe : FX = (j5l1.toInt, j67l1.toInt, 1, 0, j67a0_8.toInt, (fl_A j67a0_12_a)) := hF0
                          exact W.vret hx hb hr (fun t ht hW => ⟨⟨(), rfl, trivial, j5l1, j67l1, 1, 0, j67a0_8, j67a0_12_a, ⟨bj67l1_l, Int.le_trans u69k1_j67l1 (by decide)⟩, ⟨Int.le_trans (by decide) l129f_j67a0_8, bj67a0_8_u⟩, (fun h9 => absurd h9 (by decide)), ⟨by omega, Or.inl (by decide)⟩, hFe, by rw [ht]; exact hP, va_K.moved hW.alike hK, hD⟩, hS.F ht⟩) hS.2.2 dX8_next_241
                refine lv_iload_n hx hb dX8_next_143 rfl (lv_at hl 0 rfl) ?_
                refine va_calli (va_runS (As := [.int r28]) (rest := []) ⟨hx, hb, hml, hown, hts⟩ (f_X8_isDigit l dC dI H.size r28 ) (va_cwS 1 hts gX8_next_X8_isDigit rfl rfl rfl zd_X8_isDigit.2 ⟨Nat.le_of_ble_eq_true rfl, Nat.le_of_ble_eq_true rfl⟩) ⟨ax_blind (fun _ _ _ _ _ => trivial), ax_pre (zp_P0 hP) (zp_K hK) (zp_D0 hD) (fun _ _ => trivial)⟩ rfl rfl hl.1 rfl (lv_room (Nat.le_of_ble_eq_true rfl)) dX8_next_144 ⟨Nat.le_of_ble_eq_true rfl, Nat.le_of_ble_eq_true rfl⟩) hS (fun q _ h => zp_F0 hD hS hA q h) (zp_F0 hD hS hA) (fun r144 u t H locs ht hvm hw hB hz1 hk1 hS1 => zo0 hB ht hP hD hk1 (zp_F0 hD hS hA) hS1 (fun hP hK1 hD hS => ?_))
                obtain ⟨hw, hfr144⟩ := hw
                have hc144 : Ff_X8_isDigit r28.toInt = r144.toInt := hfr144.symm
                have hF0 := hF0.trans (fl_lt_eq hc144.symm)
                rcases hw with hw | hw
                · obtain ⟨hw, h144_0, h144_1⟩ := hw
                  subst hw
                  have l144k0_r28 : (48 : Int) ≤ r28.toInt := h144_0
                  have u144k0_r28 : r28.toInt ≤ (57 : Int) := h144_1
                  have hF0 := hF0.trans (if_pos (by decide))
                  refine lv_if_eq (tgt := 219) hx hb dX8_next_147 (by decide) (fun c147 => absurd c147 (by decide +kernel)) (fun _ => ?_)
                  refine lv_iconst (v := 0) hx hb dX8_next_150 zk_iconst_0 ?_
                  refine lv_istore_n (lv' := [(3, .int 0), (2, .int r28), (0, .ref a0), (1, .int j5l1)]) hx hb dX8_next_151 rfl hl (by decide) rfl (fun ls hl => ?_)
                  have J152 : ∀ (n : Nat) (j152l3 : Int32) (j152l1 : Int32) (j152a0_7 : Int32) (H : Heap) (locs : List Loc) (ls : Array Slot), (901 : Int) - j152l1.toInt ≤ (n : Int) → (0 : Int) ≤ j152l1.toInt → j152l1.toInt ≤ (900 : Int) → (a0_5.toInt ≤ j152l1.toInt) → (FX = fl_wh (fun t9 => Sf_X8_next_152_2 a0_3.toInt (fl_A fa0_1) (fl_A fa0_12) j5l1.toInt t9.1 t9.2.1 t9.2.2) (0, 0, 0, 0, 0, (fun _ => 0)) n (j152l3.toInt, j152l1.toInt, j152a0_7.toInt)) → va_P (dC, dI) vwCl [(a0, .inr (8, [a0g_0, Value.ref a0_1, a0g_2, Value.int a0_3, Value.int j5l1, Value.int a0_5, Value.int a0_6, Value.int j152a0_7, Value.int 0, a0g_9, a0g_10, a0g_11, Value.ref a0_12, a0g_13, a0g_14, a0g_15, a0g_16, a0g_17, a0g_18, a0g_19, a0g_20, a0g_21, a0g_22, a0g_23, a0g_24, a0g_25, a0g_26, a0g_27, a0g_28, a0g_29, a0g_30, a0g_31, a0g_32, a0g_33, a0g_34, a0g_35, a0g_36, a0g_37, a0g_38, a0g_39])), (a0_1, .inl (ka0_1, 900, .inl (fa0_1))), (a0_12, .inl (ka0_12, 8, .inl (fa0_12)))] H → va_D A [(a0, .inr (8, [a0g_0, Value.ref a0_1, a0g_2, Value.int a0_3, Value.int j5l1, Value.int a0_5, Value.int a0_6, Value.int j152a0_7, Value.int 0, a0g_9, a0g_10, a0g_11, Value.ref a0_12, a0g_13, a0g_14, a0g_15, a0g_16, a0g_17, a0g_18, a0g_19, a0g_20, a0g_21, a0g_22, a0g_23, a0g_24, a0g_25, a0g_26, a0g_27, a0g_28, a0g_29, a0g_30, a0g_31, a0g_32, a0g_33, a0g_34, a0g_35, a0g_36, a0g_37, a0g_38, a0g_39])), (a0_1, .inl (ka0_1, 900, .inl (fa0_1))), (a0_12, .inl (ka0_12, 8, .inl (fa0_12)))] → va_S A s.heap H locs → lv_has ls 4 [(0, .ref a0), (1, .int j152l1), (3, .int j152l3)] → K H locs (F0 m 152 ls []) := by
                    intro n
                    induction n with
                    | zero =>
                      intro j152l3 j152l1 j152a0_7 H locs ls hm bj152l1_l bj152l1_u ke152 hF0 hP hD hS hl
                      first | exact zg_0 hm bj152l1_u (by decide) | (have h8 := ai_min j152l1; have h9 := ai_max j152l1; exact absurd hm (by omega))
                    | succ n ih152 =>
                      intro j152l3 j152l1 j152a0_7 H locs ls hm bj152l1_l bj152l1_u ke152 hF0 hP hD hS hl
                      refine (hK0 _ _ _).mpr ?_
                      have hm152 := hm
                      obtain ⟨SX152, hSX152⟩ : ∃ q9, Sf_X8_next_152_2 a0_3.toInt (fl_A fa0_1) (fl_A fa0_12) j5l1.toInt j152l3.toInt j152l1.toInt j152a0_7.toInt = q9 := ⟨_, rfl⟩
                      have hF1 := hSX152.symm.trans (Sf_X8_next_152_2.eq_1 a0_3.toInt (fl_A fa0_1) (fl_A fa0_12) j5l1.toInt j152l3.toInt j152l1.toInt j152a0_7.toInt)
                      refine lv_aload_n hx hb dX8_next_152 rfl (lv_at hl 0 rfl) ?_
                      refine lv_iload_n hx hb dX8_next_153 rfl (lv_at hl 1 rfl) ?_
                      have hKc := hK.sub (tys' := [(ka0_1, .int)]) [0] rfl
                      refine va_calli (va_runV (As := [.int j152l1]) (rest := []) ⟨hx, hb, hml, hown, hts⟩ (f_X8_see l dC dI H.size a0 j152l1 a0g_0 a0g_2 (Value.int j5l1) (Value.int a0_5) (Value.int a0_6) (Value.int j152a0_7) (Value.int 0) a0g_9 a0g_10 a0g_11 (Value.ref a0_12) a0g_13 a0g_14 a0g_15 a0g_16 a0g_17 a0g_18 a0g_19 a0g_20 a0g_21 a0g_22 a0g_23 a0g_24 a0g_25 a0g_26 a0g_27 a0g_28 a0g_29 a0g_30 a0g_31 a0g_32 a0g_33 a0g_34 a0g_35 a0g_36 a0g_37 a0g_38 a0g_39 a0_1 a0_3 ka0_1 fa0_1 bj152l1_l bj152l1_u ba0_3_l ba0_3_u) (cwV 1 hts gX8_next_X8_see rfl rfl rfl zd_X8_see ⟨Nat.le_of_ble_eq_true rfl, Nat.le_of_ble_eq_true rfl⟩) ⟨ax_blind (fun _ _ _ _ _ => trivial), zr_8 hKc (zp_P2 hP) (q0 := 0) rfl, ax_pre (zp_P2 hP) hKc (zp_D2 hD) (fun _ _ => trivial)⟩ rfl rfl hl.1 rfl (lv_room (Nat.le_of_ble_eq_true rfl)) dX8_next_154 ⟨Nat.le_of_ble_eq_true rfl, Nat.le_of_ble_eq_true rfl⟩) hS (fun q _ h => zp_F2 hD hS hA q h) (zp_F2 hD hS hA) (fun r154 u t H locs ht hvm hw hB hz1 hk1 hS1 => zo2 hB ht hP hD hk1 (zp_F2 hD hS hA) hS1 (fun hP hK1 hD hS => ?_))
                      obtain ⟨hw, hfr154⟩ := hw
                      have hc154 : Ff_X8_see j152l1.toInt a0_3.toInt (fl_A fa0_1) = r154.toInt := hfr154.symm
                      have hF1 := hF1.trans (fl_lt_eq hc154.symm)
                      rcases hw with hw | hw
                      · obtain ⟨hw, h154⟩ := hw
                        subst hw
                        have hF1 := hF1.trans (if_pos (show a0_3.toInt ≤ j152l1.toInt from h154))
                        refine va_calli (va_runS (As := [.int (-1)]) (rest := []) ⟨hx, hb, hml, hown, hts⟩ (f_X8_isDigit l dC dI H.size (-1) ) (va_cwS 1 hts gX8_next_X8_isDigit rfl rfl rfl zd_X8_isDigit.2 ⟨Nat.le_of_ble_eq_true rfl, Nat.le_of_ble_eq_true rfl⟩) ⟨ax_blind (fun _ _ _ _ _ => trivial), ax_pre (zp_P0 hP) (zp_K hK) (zp_D0 hD) (fun _ _ => trivial)⟩ rfl rfl hl.1 rfl (lv_room (Nat.le_of_ble_eq_true rfl)) dX8_next_157 ⟨Nat.le_of_ble_eq_true rfl, Nat.le_of_ble_eq_true rfl⟩) hS (fun q _ h => zp_F0 hD hS hA q h) (zp_F0 hD hS hA) (fun r157 u t H locs ht hvm hw hB hz1 hk1 hS1 => zo0 hB ht hP hD hk1 (zp_F0 hD hS hA) hS1 (fun hP hK1 hD hS => ?_))
                        obtain ⟨hw, hfr157⟩ := hw
                        rw [show ((-1) : Int32).toInt = (-1) from by decide] at hfr157
                        have hc157 : Ff_X8_isDigit (-1) = r157.toInt := hfr157.symm
                        have hF1 := hF1.trans (fl_lt_eq hc157.symm)
                        rcases hw with hw | hw
                        · obtain ⟨hw, h157_0, h157_1⟩ := hw
                          subst hw
                          exact absurd h157_0 (by decide)
                        · subst hw
                          have hF1 := hF1.trans (if_neg (by decide))
                          refine lv_if_eq (tgt := 197) hx hb dX8_next_160 (by decide) (fun _ => ?_) (fun c160 => absurd (by decide +kernel) c160)
                          have hF0 := hF0.trans (fl_wh_r (hSX152.trans hF1))
                          refine lv_aload_n hx hb dX8_next_197 rfl (lv_at hl 0 rfl) ?_
                          refine lv_iload_n hx hb dX8_next_198 rfl (lv_at hl 1 rfl) ?_
                          refine va_put (D := (dC, dI)) (ci := 8) (v := .int j152l1) (ty := .int) (C := RX8) (T := TX8) (N := 40) hx hb hts zi_X8_next_8 tyX8 tyX8_ok nmX8 hown hK hP hD hS 0 rfl rfl 5 (by decide) (hts (.fieldLink RX8 71 "WaxTurnsModel" "end" "I") (List.mem_cons_of_mem _ (List.mem_append_left _ (List.mem_of_getElem? (i := 0) rfl)))) (fun _ h9 => h9) rfl (tyX8_ok 5 (by decide)) rfl rfl (Nat.le_of_ble_eq_true rfl) dX8_next_199 (fun H locs hP hD hS => ?_)
                          refine zs_0 (y := (a0, .inr (8, [a0g_0, Value.ref a0_1, a0g_2, Value.int a0_3, Value.int j5l1, Value.int j152l1, Value.int a0_6, Value.int j152a0_7, Value.int 0, a0g_9, a0g_10, a0g_11, Value.ref a0_12, a0g_13, a0g_14, a0g_15, a0g_16, a0g_17, a0g_18, a0g_19, a0g_20, a0g_21, a0g_22, a0g_23, a0g_24, a0g_25, a0g_26, a0g_27, a0g_28, a0g_29, a0g_30, a0g_31, a0g_32, a0g_33, a0g_34, a0g_35, a0g_36, a0g_37, a0g_38, a0g_39]))) hP hD rfl (fun hP hD => ?_)
                          refine lv_aload_n hx hb dX8_next_202 rfl (lv_at hl 0 rfl) ?_
                          refine lv_iload_n hx hb dX8_next_203 rfl (lv_at hl 2 rfl) ?_
                          refine lv_iconst (v := 3) hx hb dX8_next_204 zk_iconst_3 ?_
                          refine lv_icmp_le (tgt := 212) hx hb dX8_next_205 (by decide) (fun c205 => ?_) (fun c205 => ?_)
                          · have gc205 := ai_le c205
                            have u205t_j152l3 : j152l3.toInt ≤ (3 : Int) := Int.le_trans gc205 zq9
                            have hF0 := hF0.trans (if_pos (show j152l3.toInt ≤ 3 from gc205))
                            refine lv_iconst (v := 3) hx hb dX8_next_212 zk_iconst_3 ?_
                            refine va_put (D := (dC, dI)) (ci := 8) (v := .int 3) (ty := .int) (C := RX8) (T := TX8) (N := 40) hx hb hts zi_X8_next_8 tyX8 tyX8_ok nmX8 hown hK hP hD hS 0 rfl rfl 6 (by decide) (hts (.fieldLink RX8 87 "WaxTurnsModel" "token" "I") (List.mem_cons_of_mem _ (List.mem_append_left _ (List.mem_of_getElem? (i := 4) rfl)))) (fun _ h9 => h9) rfl (tyX8_ok 6 (by decide)) rfl rfl (Nat.le_of_ble_eq_true rfl) dX8_next_213 (fun H locs hP hD hS => ?_)
                            refine zs_0 (y := (a0, .inr (8, [a0g_0, Value.ref a0_1, a0g_2, Value.int a0_3, Value.int j5l1, Value.int j152l1, Value.int 3, Value.int j152a0_7, Value.int 0, a0g_9, a0g_10, a0g_11, Value.ref a0_12, a0g_13, a0g_14, a0g_15, a0g_16, a0g_17, a0g_18, a0g_19, a0g_20, a0g_21, a0g_22, a0g_23, a0g_24, a0g_25, a0g_26, a0g_27, a0g_28, a0g_29, a0g_30, a0g_31, a0g_32, a0g_33, a0g_34, a0g_35, a0g_36, a0g_37, a0g_38, a0g_39]))) hP hD rfl (fun hP hD => ?_)
                            refine lv_goto (tgt := 241) hx hb dX8_next_216 (by decide) ?_
                            have hFe : FX = (j5l1.toInt, j152l1.toInt, 3, j152a0_7.toInt, 0, (fl_A fa0_12)) := hF0
                            exact W.vret hx hb hr (fun t ht hW => ⟨⟨(), rfl, trivial, j5l1, j152l1, 3, j152a0_7, 0, fa0_12, ⟨bj152l1_l, bj152l1_u⟩, ⟨zq5, Int.le_trans zq6 (by decide)⟩, (fun h9 => absurd h9 (by decide)), ⟨by omega, Or.inl (by decide)⟩, hFe, by rw [ht]; exact hP, va_K.moved hW.alike hK, hD⟩, hS.F ht⟩) hS.2.2 dX8_next_241
                          · have gc205 := ai_nle c205
                            have l205f_j152l3 : (4 : Int) ≤ j152l3.toInt := ai_ltlo gc205 zq8
                            have hF0 := hF0.trans (if_neg (show ¬ (j152l3.toInt ≤ 3) from Int.not_le.mpr gc205))
                            refine lv_iconst (v := 1) hx hb dX8_next_208 zk_iconst_1 ?_
                            refine lv_goto (tgt := 213) hx hb dX8_next_209 (by decide) ?_
                            refine va_put (D := (dC, dI)) (ci := 8) (v := .int 1) (ty := .int) (C := RX8) (T := TX8) (N := 40) hx hb hts zi_X8_next_8 tyX8 tyX8_ok nmX8 hown hK hP hD hS 0 rfl rfl 6 (by decide) (hts (.fieldLink RX8 87 "WaxTurnsModel" "token" "I") (List.mem_cons_of_mem _ (List.mem_append_left _ (List.mem_of_getElem? (i := 4) rfl)))) (fun _ h9 => h9) rfl (tyX8_ok 6 (by decide)) rfl rfl (Nat.le_of_ble_eq_true rfl) dX8_next_213 (fun H locs hP hD hS => ?_)
                            refine zs_0 (y := (a0, .inr (8, [a0g_0, Value.ref a0_1, a0g_2, Value.int a0_3, Value.int j5l1, Value.int j152l1, Value.int 1, Value.int j152a0_7, Value.int 0, a0g_9, a0g_10, a0g_11, Value.ref a0_12, a0g_13, a0g_14, a0g_15, a0g_16, a0g_17, a0g_18, a0g_19, a0g_20, a0g_21, a0g_22, a0g_23, a0g_24, a0g_25, a0g_26, a0g_27, a0g_28, a0g_29, a0g_30, a0g_31, a0g_32, a0g_33, a0g_34, a0g_35, a0g_36, a0g_37, a0g_38, a0g_39]))) hP hD rfl (fun hP hD => ?_)
                            refine lv_goto (tgt := 241) hx hb dX8_next_216 (by decide) ?_
                            have hFe : FX = (j5l1.toInt, j152l1.toInt, 1, j152a0_7.toInt, 0, (fl_A fa0_12)) := hF0
                            exact W.vret hx hb hr (fun t ht hW => ⟨⟨(), rfl, trivial, j5l1, j152l1, 1, j152a0_7, 0, fa0_12, ⟨bj152l1_l, bj152l1_u⟩, ⟨zq5, Int.le_trans zq6 (by decide)⟩, (fun h9 => absurd h9 (by decide)), ⟨by omega, Or.inl (by decide)⟩, hFe, by rw [ht]; exact hP, va_K.moved hW.alike hK, hD⟩, hS.F ht⟩) hS.2.2 dX8_next_241
                      · have h154 := hw
                        have u154k1_j152l1 : j152l1.toInt ≤ (899 : Int) := by have h1 := h154; have h2 := ba0_3_u; omega
                        have hF1 := hF1.trans (if_neg (show ¬ (a0_3.toInt ≤ j152l1.toInt) from Int.not_le.mpr h154))
                        refine va_calli (va_runS (As := [.int r154]) (rest := []) ⟨hx, hb, hml, hown, hts⟩ (f_X8_isDigit l dC dI H.size r154 ) (va_cwS 1 hts gX8_next_X8_isDigit rfl rfl rfl zd_X8_isDigit.2 ⟨Nat.le_of_ble_eq_true rfl, Nat.le_of_ble_eq_true rfl⟩) ⟨ax_blind (fun _ _ _ _ _ => trivial), ax_pre (zp_P0 hP) (zp_K hK) (zp_D0 hD) (fun _ _ => trivial)⟩ rfl rfl hl.1 rfl (lv_room (Nat.le_of_ble_eq_true rfl)) dX8_next_157 ⟨Nat.le_of_ble_eq_true rfl, Nat.le_of_ble_eq_true rfl⟩) hS (fun q _ h => zp_F0 hD hS hA q h) (zp_F0 hD hS hA) (fun r157 u t H locs ht hvm hw hB hz1 hk1 hS1 => zo0 hB ht hP hD hk1 (zp_F0 hD hS hA) hS1 (fun hP hK1 hD hS => ?_))
                        obtain ⟨hw, hfr157⟩ := hw
                        have hc157 : Ff_X8_isDigit r154.toInt = r157.toInt := hfr157.symm
                        have hF1 := hF1.trans (fl_lt_eq hc157.symm)
                        rcases hw with hw | hw
                        · obtain ⟨hw, h157_0, h157_1⟩ := hw
                          subst hw
                          have l157k0_r154 : (48 : Int) ≤ r154.toInt := h157_0
                          have u157k0_r154 : r154.toInt ≤ (57 : Int) := h157_1
                          have hF1 := hF1.trans (if_pos (by decide))
                          refine lv_if_eq (tgt := 197) hx hb dX8_next_160 (by decide) (fun c160 => absurd c160 (by decide +kernel)) (fun _ => ?_)
                          refine lv_iload_n hx hb dX8_next_163 rfl (lv_at hl 2 rfl) ?_
                          refine lv_iconst (v := 3) hx hb dX8_next_164 zk_iconst_3 ?_
                          have J188 : ∀ (j188a0_7 : Int32) (H : Heap) (locs : List Loc) (ls : Array Slot), (SX152 = Gf_X8_next_188_2 j152l3.toInt j152l1.toInt j188a0_7.toInt) → va_P (dC, dI) vwCl [(a0, .inr (8, [a0g_0, Value.ref a0_1, a0g_2, Value.int a0_3, Value.int j5l1, Value.int a0_5, Value.int a0_6, Value.int j188a0_7, Value.int 0, a0g_9, a0g_10, a0g_11, Value.ref a0_12, a0g_13, a0g_14, a0g_15, a0g_16, a0g_17, a0g_18, a0g_19, a0g_20, a0g_21, a0g_22, a0g_23, a0g_24, a0g_25, a0g_26, a0g_27, a0g_28, a0g_29, a0g_30, a0g_31, a0g_32, a0g_33, a0g_34, a0g_35, a0g_36, a0g_37, a0g_38, a0g_39])), (a0_1, .inl (ka0_1, 900, .inl (fa0_1))), (a0_12, .inl (ka0_12, 8, .inl (fa0_12)))] H → va_D A [(a0, .inr (8, [a0g_0, Value.ref a0_1, a0g_2, Value.int a0_3, Value.int j5l1, Value.int a0_5, Value.int a0_6, Value.int j188a0_7, Value.int 0, a0g_9, a0g_10, a0g_11, Value.ref a0_12, a0g_13, a0g_14, a0g_15, a0g_16, a0g_17, a0g_18, a0g_19, a0g_20, a0g_21, a0g_22, a0g_23, a0g_24, a0g_25, a0g_26, a0g_27, a0g_28, a0g_29, a0g_30, a0g_31, a0g_32, a0g_33, a0g_34, a0g_35, a0g_36, a0g_37, a0g_38, a0g_39])), (a0_1, .inl (ka0_1, 900, .inl (fa0_1))), (a0_12, .inl (ka0_12, 8, .inl (fa0_12)))] → va_S A s.heap H locs → lv_has ls 4 [(0, .ref a0), (1, .int j152l1), (3, .int j152l3)] → K H locs (F0 m 188 ls []) := by
                            intro j188a0_7 H locs ls  hF1 hP hD hS hl
                            refine (hK0 _ _ _).mpr ?_
                            have hF1 := hF1.trans (Gf_X8_next_188_2.eq_1 j152l3.toInt j152l1.toInt j188a0_7.toInt)
                            obtain ⟨x188, ex188⟩ : ∃ y : Int32, y = j152l3 + Int32.ofInt 1 := ⟨_, rfl⟩
                            refine lv_iinc (v := x188) (lv' := [(3, .int x188), (0, .ref a0), (1, .int j152l1)]) hx hb dX8_next_188 hl (k := 2) rfl ex188.symm (by decide) rfl (fun ls hl => ?_)
                            have fqx188 := fl_iadd_eq ex188
                            have hF1 := hF1.trans (fl_lt_eq (show x188.toInt = fl_iadd j152l3.toInt 1 from fqx188))
                            obtain ⟨x191, ex191⟩ : ∃ y : Int32, y = j152l1 + Int32.ofInt 1 := ⟨_, rfl⟩
                            have qx191 : x191.toInt = j152l1.toInt + 1 := ai_inc ex191 (by decide) (by decide) u154k1_j152l1 (by decide)
                            have bx191 : (1 : Int) ≤ x191.toInt ∧ x191.toInt ≤ 900 := ⟨by rw [qx191]; exact Int.add_le_add bj152l1_l (Int.le_refl _), by rw [qx191]; exact Int.add_le_add u154k1_j152l1 (Int.le_refl _)⟩
                            refine lv_iinc (v := x191) (lv' := [(1, .int x191), (3, .int x188), (0, .ref a0)]) hx hb dX8_next_191 hl (k := 2) rfl ex191.symm (by decide) rfl (fun ls hl => ?_)
                            have hF1 := hF1.trans (fl_lt_eq (show x191.toInt = j152l1.toInt + 1 from qx191))
                            refine lv_goto (tgt := 152) hx hb dX8_next_194 (by decide) ?_
                            exact (hK0 _ _ _).mp (ih152 x188 x191 j188a0_7 _ _ _ (by first | exact zg_s hm152 qx191 | (have h0 := qx191; omega)) (Int.le_trans zq4 bx191.1) bx191.2 (by omega) (hF0.trans (fl_wh_l (hSX152.trans hF1))) hP hD hS (lv_sub hl [2, 0, 1] rfl))
                          refine lv_icmp_ge (tgt := 188) hx hb dX8_next_165 (by decide) (fun c165 => ?_) (fun c165 => ?_)
                          · have gc165 := ai_le c165
                            have l165t_j152l3 : (3 : Int) ≤ j152l3.toInt := Int.le_trans zq8 gc165
                            have hF1 := hF1.trans (if_pos (show 3 ≤ j152l3.toInt from gc165))
                            exact (hK0 _ _ _).mp (J188 j152a0_7 _ _ _   hF1 hP hD hS (lv_sub hl [0, 1, 2] rfl))
                          · have gc165 := ai_nle c165
                            have u165f_j152l3 : j152l3.toInt ≤ (2 : Int) := ai_lthi gc165 zq9
                            have hF1 := hF1.trans (if_neg (show ¬ (3 ≤ j152l3.toInt) from Int.not_le.mpr gc165))
                            refine lv_aload_n hx hb dX8_next_168 rfl (lv_at hl 0 rfl) ?_
                            refine lv_bipush (v := 10) hx hb dX8_next_169 zk_bipush_10 ?_
                            refine lv_aload_n hx hb dX8_next_171 rfl (lv_at hl 0 rfl) ?_
                            refine va_get (D := (dC, dI)) (ci := 8) (v := .int j152a0_7) (C := RX8) (T := TX8) (N := 40) hx hb hts zi_X8_next_8 hown hK hP 0 rfl rfl 7 (by decide) (hts (.fieldLink RX8 84 "WaxTurnsModel" "whole" "I") (List.mem_cons_of_mem _ (List.mem_append_left _ (List.mem_of_getElem? (i := 3) rfl)))) (fun _ h9 => h9) rfl dX8_next_172 ?_
                            refine lv_imul hx hb dX8_next_175 ?_
                            refine lv_topi (fun x175 ex175 => ?_)
                            have fqx175 := fl_imul_eq ex175
                            have hF1 := hF1.trans (fl_lt_eq (show x175.toInt = fl_imul 10 j152a0_7.toInt from fqx175))
                            refine lv_aload_n hx hb dX8_next_176 rfl (lv_at hl 0 rfl) ?_
                            refine lv_iload_n hx hb dX8_next_177 rfl (lv_at hl 1 rfl) ?_
                            have hKc := hK.sub (tys' := [(ka0_1, .int)]) [0] rfl
                            refine va_calli (va_runV (As := [.int j152l1]) (rest := [.int x175, .ref a0]) ⟨hx, hb, hml, hown, hts⟩ (f_X8_see l dC dI H.size a0 j152l1 a0g_0 a0g_2 (Value.int j5l1) (Value.int a0_5) (Value.int a0_6) (Value.int j152a0_7) (Value.int 0) a0g_9 a0g_10 a0g_11 (Value.ref a0_12) a0g_13 a0g_14 a0g_15 a0g_16 a0g_17 a0g_18 a0g_19 a0g_20 a0g_21 a0g_22 a0g_23 a0g_24 a0g_25 a0g_26 a0g_27 a0g_28 a0g_29 a0g_30 a0g_31 a0g_32 a0g_33 a0g_34 a0g_35 a0g_36 a0g_37 a0g_38 a0g_39 a0_1 a0_3 ka0_1 fa0_1 bj152l1_l (Int.le_trans u154k1_j152l1 zq145) ba0_3_l ba0_3_u) (cwV 1 hts gX8_next_X8_see rfl rfl rfl zd_X8_see ⟨Nat.le_of_ble_eq_true rfl, Nat.le_of_ble_eq_true rfl⟩) ⟨ax_blind (fun _ _ _ _ _ => trivial), zr_8 hKc (zp_P2 hP) (q0 := 0) rfl, ax_pre (zp_P2 hP) hKc (zp_D2 hD) (fun _ _ => trivial)⟩ rfl rfl hl.1 rfl (lv_room (Nat.le_of_ble_eq_true rfl)) dX8_next_178 ⟨Nat.le_of_ble_eq_true rfl, Nat.le_of_ble_eq_true rfl⟩) hS (fun q _ h => zp_F2 hD hS hA q h) (zp_F2 hD hS hA) (fun r178 u t H locs ht hvm hw hB hz1 hk1 hS1 => zo2 hB ht hP hD hk1 (zp_F2 hD hS hA) hS1 (fun hP hK1 hD hS => ?_))
                            obtain ⟨hw, hfr178⟩ := hw
                            have hc178 : Ff_X8_see j152l1.toInt a0_3.toInt (fl_A fa0_1) = r178.toInt := hfr178.symm
                            have hF1 := hF1.trans (fl_lt_eq hc178.symm)
                            rcases hw with hw | hw
                            · obtain ⟨hw, h178⟩ := hw
                              subst hw
                              have hF1 := hF1.trans (if_pos (show a0_3.toInt ≤ j152l1.toInt from h178))
                              refine lv_iadd hx hb dX8_next_181 ?_
                              refine lv_topi (fun x181 ex181 => ?_)
                              have fqx181 := fl_iadd_eq ex181
                              have hF1 := hF1.trans (fl_lt_eq (show x181.toInt = fl_iadd x175.toInt (-1) from fqx181))
                              refine lv_bipush (v := 48) hx hb dX8_next_182 zk_bipush_48 ?_
                              refine lv_isub hx hb dX8_next_184 ?_
                              refine lv_topi (fun x184 ex184 => ?_)
                              have fqx184 := fl_isub_eq ex184
                              have hF1 := hF1.trans (fl_lt_eq (show x184.toInt = fl_isub x181.toInt 48 from fqx184))
                              refine va_put (D := (dC, dI)) (ci := 8) (v := .int x184) (ty := .int) (C := RX8) (T := TX8) (N := 40) hx hb hts zi_X8_next_8 tyX8 tyX8_ok nmX8 hown hK hP hD hS 0 rfl rfl 7 (by decide) (hts (.fieldLink RX8 84 "WaxTurnsModel" "whole" "I") (List.mem_cons_of_mem _ (List.mem_append_left _ (List.mem_of_getElem? (i := 3) rfl)))) (fun _ h9 => h9) rfl (tyX8_ok 7 (by decide)) rfl rfl (Nat.le_of_ble_eq_true rfl) dX8_next_185 (fun H locs hP hD hS => ?_)
                              refine zs_0 (y := (a0, .inr (8, [a0g_0, Value.ref a0_1, a0g_2, Value.int a0_3, Value.int j5l1, Value.int a0_5, Value.int a0_6, Value.int x184, Value.int 0, a0g_9, a0g_10, a0g_11, Value.ref a0_12, a0g_13, a0g_14, a0g_15, a0g_16, a0g_17, a0g_18, a0g_19, a0g_20, a0g_21, a0g_22, a0g_23, a0g_24, a0g_25, a0g_26, a0g_27, a0g_28, a0g_29, a0g_30, a0g_31, a0g_32, a0g_33, a0g_34, a0g_35, a0g_36, a0g_37, a0g_38, a0g_39]))) hP hD rfl (fun hP hD => ?_)
                              exact (hK0 _ _ _).mp (J188 x184 _ _ _   hF1 hP hD hS (lv_sub hl [0, 1, 2] rfl))
                            · have h178 := hw
                              have u178k1_j152l1 : j152l1.toInt ≤ (899 : Int) := u154k1_j152l1
                              have hF1 := hF1.trans (if_neg (show ¬ (a0_3.toInt ≤ j152l1.toInt) from Int.not_le.mpr h178))
                              refine lv_iadd hx hb dX8_next_181 ?_
                              refine lv_topi (fun x181 ex181 => ?_)
                              have fqx181 := fl_iadd_eq ex181
                              have hF1 := hF1.trans (fl_lt_eq (show x181.toInt = fl_iadd x175.toInt r178.toInt from fqx181))
                              refine lv_bipush (v := 48) hx hb dX8_next_182 zk_bipush_48 ?_
                              refine lv_isub hx hb dX8_next_184 ?_
                              refine lv_topi (fun x184 ex184 => ?_)
                              have fqx184 := fl_isub_eq ex184
                              have hF1 := hF1.trans (fl_lt_eq (show x184.toInt = fl_isub x181.toInt 48 from fqx184))
                              refine va_put (D := (dC, dI)) (ci := 8) (v := .int x184) (ty := .int) (C := RX8) (T := TX8) (N := 40) hx hb hts zi_X8_next_8 tyX8 tyX8_ok nmX8 hown hK hP hD hS 0 rfl rfl 7 (by decide) (hts (.fieldLink RX8 84 "WaxTurnsModel" "whole" "I") (List.mem_cons_of_mem _ (List.mem_append_left _ (List.mem_of_getElem? (i := 3) rfl)))) (fun _ h9 => h9) rfl (tyX8_ok 7 (by decide)) rfl rfl (Nat.le_of_ble_eq_true rfl) dX8_next_185 (fun H locs hP hD hS => ?_)
                              refine zs_0 (y := (a0, .inr (8, [a0g_0, Value.ref a0_1, a0g_2, Value.int a0_3, Value.int j5l1, Value.int a0_5, Value.int a0_6, Value.int x184, Value.int 0, a0g_9, a0g_10, a0g_11, Value.ref a0_12, a0g_13, a0g_14, a0g_15, a0g_16, a0g_17, a0g_18, a0g_19, a0g_20, a0g_21, a0g_22, a0g_23, a0g_24, a0g_25, a0g_26, a0g_27, a0g_28, a0g_29, a0g_30, a0g_31, a0g_32, a0g_33, a0g_34, a0g_35, a0g_36, a0g_37, a0g_38, a0g_39]))) hP hD rfl (fun hP hD => ?_)
                              exact (hK0 _ _ _).mp (J188 x184 _ _ _   hF1 hP hD hS (lv_sub hl [0, 1, 2] rfl))
                        · subst hw
                          have hF1 := hF1.trans (if_neg (by decide))
                          refine lv_if_eq (tgt := 197) hx hb dX8_next_160 (by decide) (fun _ => ?_) (fun c160 => absurd (by decide +kernel) c160)
                          have hF0 := hF0.trans (fl_wh_r (hSX152.trans hF1))
                          refine lv_aload_n hx hb dX8_next_197 rfl (lv_at hl 0 rfl) ?_
                          refine lv_iload_n hx hb dX8_next_198 rfl (lv_at hl 1 rfl) ?_
                          refine va_put (D := (dC, dI)) (ci := 8) (v := .int j152l1) (ty := .int) (C := RX8) (T := TX8) (N := 40) hx hb hts zi_X8_next_8 tyX8 tyX8_ok nmX8 hown hK hP hD hS 0 rfl rfl 5 (by decide) (hts (.fieldLink RX8 71 "WaxTurnsModel" "end" "I") (List.mem_cons_of_mem _ (List.mem_append_left _ (List.mem_of_getElem? (i := 0) rfl)))) (fun _ h9 => h9) rfl (tyX8_ok 5 (by decide)) rfl rfl (Nat.le_of_ble_eq_true rfl) dX8_next_199 (fun H locs hP hD hS => ?_)
                          refine zs_0 (y := (a0, .inr (8, [a0g_0, Value.ref a0_1, a0g_2, Value.int a0_3, Value.int j5l1, Value.int j152l1, Value.int a0_6, Value.int j152a0_7, Value.int 0, a0g_9, a0g_10, a0g_11, Value.ref a0_12, a0g_13, a0g_14, a0g_15, a0g_16, a0g_17, a0g_18, a0g_19, a0g_20, a0g_21, a0g_22, a0g_23, a0g_24, a0g_25, a0g_26, a0g_27, a0g_28, a0g_29, a0g_30, a0g_31, a0g_32, a0g_33, a0g_34, a0g_35, a0g_36, a0g_37, a0g_38, a0g_39]))) hP hD rfl (fun hP hD => ?_)
                          refine lv_aload_n hx hb dX8_next_202 rfl (lv_at hl 0 rfl) ?_
                          refine lv_iload_n hx hb dX8_next_203 rfl (lv_at hl 2 rfl) ?_
                          refine lv_iconst (v := 3) hx hb dX8_next_204 zk_iconst_3 ?_
                          refine lv_icmp_le (tgt := 212) hx hb dX8_next_205 (by decide) (fun c205 => ?_) (fun c205 => ?_)
                          · have gc205 := ai_le c205
                            have u205t_j152l3 : j152l3.toInt ≤ (3 : Int) := Int.le_trans gc205 zq9
                            have hF0 := hF0.trans (if_pos (show j152l3.toInt ≤ 3 from gc205))
                            refine lv_iconst (v := 3) hx hb dX8_next_212 zk_iconst_3 ?_
                            refine va_put (D := (dC, dI)) (ci := 8) (v := .int 3) (ty := .int) (C := RX8) (T := TX8) (N := 40) hx hb hts zi_X8_next_8 tyX8 tyX8_ok nmX8 hown hK hP hD hS 0 rfl rfl 6 (by decide) (hts (.fieldLink RX8 87 "WaxTurnsModel" "token" "I") (List.mem_cons_of_mem _ (List.mem_append_left _ (List.mem_of_getElem? (i := 4) rfl)))) (fun _ h9 => h9) rfl (tyX8_ok 6 (by decide)) rfl rfl (Nat.le_of_ble_eq_true rfl) dX8_next_213 (fun H locs hP hD hS => ?_)
                            refine zs_0 (y := (a0, .inr (8, [a0g_0, Value.ref a0_1, a0g_2, Value.int a0_3, Value.int j5l1, Value.int j152l1, Value.int 3, Value.int j152a0_7, Value.int 0, a0g_9, a0g_10, a0g_11, Value.ref a0_12, a0g_13, a0g_14, a0g_15, a0g_16, a0g_17, a0g_18, a0g_19, a0g_20, a0g_21, a0g_22, a0g_23, a0g_24, a0g_25, a0g_26, a0g_27, a0g_28, a0g_29, a0g_30, a0g_31, a0g_32, a0g_33, a0g_34, a0g_35, a0g_36, a0g_37, a0g_38, a0g_39]))) hP hD rfl (fun hP hD => ?_)
                            refine lv_goto (tgt := 241) hx hb dX8_next_216 (by decide) ?_
                            have hFe : FX = (j5l1.toInt, j152l1.toInt, 3, j152a0_7.toInt, 0, (fl_A fa0_12)) := hF0
                            exact W.vret hx hb hr (fun t ht hW => ⟨⟨(), rfl, trivial, j5l1, j152l1, 3, j152a0_7, 0, fa0_12, ⟨bj152l1_l, Int.le_trans u154k1_j152l1 (by decide)⟩, ⟨zq5, Int.le_trans zq6 (by decide)⟩, (fun h9 => absurd h9 (by decide)), ⟨by omega, Or.inl (by decide)⟩, hFe, by rw [ht]; exact hP, va_K.moved hW.alike hK, hD⟩, hS.F ht⟩) hS.2.2 dX8_next_241
                          · have gc205 := ai_nle c205
                            have l205f_j152l3 : (4 : Int) ≤ j152l3.toInt := ai_ltlo gc205 zq8
                            have hF0 := hF0.trans (if_neg (show ¬ (j152l3.toInt ≤ 3) from Int.not_le.mpr gc205))
                            refine lv_iconst (v := 1) hx hb dX8_next_208 zk_iconst_1 ?_
                            refine lv_goto (tgt := 213) hx hb dX8_next_209 (by decide) ?_
                            refine va_put (D := (dC, dI)) (ci := 8) (v := .int 1) (ty := .int) (C := RX8) (T := TX8) (N := 40) hx hb hts zi_X8_next_8 tyX8 tyX8_ok nmX8 hown hK hP hD hS 0 rfl rfl 6 (by decide) (hts (.fieldLink RX8 87 "WaxTurnsModel" "token" "I") (List.mem_cons_of_mem _ (List.mem_append_left _ (List.mem_of_getElem? (i := 4) rfl)))) (fun _ h9 => h9) rfl (tyX8_ok 6 (by decide)) rfl rfl (Nat.le_of_ble_eq_true rfl) dX8_next_213 (fun H locs hP hD hS => ?_)
                            refine zs_0 (y := (a0, .inr (8, [a0g_0, Value.ref a0_1, a0g_2, Value.int a0_3, Value.int j5l1, Value.int j152l1, Value.int 1, Value.int j152a0_7, Value.int 0, a0g_9, a0g_10, a0g_11, Value.ref a0_12, a0g_13, a0g_14, a0g_15, a0g_16, a0g_17, a0g_18, a0g_19, a0g_20, a0g_21, a0g_22, a0g_23, a0g_24, a0g_25, a0g_26, a0g_27, a0g_28, a0g_29, a0g_30, a0g_31, a0g_32, a0g_33, a0g_34, a0g_35, a0g_36, a0g_37, a0g_38, a0g_39]))) hP hD rfl (fun hP hD => ?_)
                            refine lv_goto (tgt := 241) hx hb dX8_next_216 (by decide) ?_
                            have hFe : FX = (j5l1.toInt, j152l1.toInt, 1, j152a0_7.toInt, 0, (fl_A fa0_12)) := hF0
                            exact W.vret hx hb hr (fun t ht hW => ⟨⟨(), rfl, trivial, j5l1, j152l1, 1, j152a0_7, 0, fa0_12, ⟨bj152l1_l, Int.le_trans u154k1_j152l1 (by decide)⟩, ⟨zq5, Int.le_trans zq6 (by decide)⟩, (fun h9 => absurd h9 (by decide)), ⟨by omega, Or.inl (by decide)⟩, hFe, by rw [ht]; exact hP, va_K.moved hW.alike hK, hD⟩, hS.F ht⟩) hS.2.2 dX8_next_241
                  exact (hK0 _ _ _).mp (J152 901 0 j5l1 0 _ _ _ (by have h1 : (0 : Int) ≤ j5l1.toInt := bj5l1_l; have h2 : j5l1.toInt ≤ (899 : Int) := u28k1_j5l1; omega) bj5l1_l (Int.le_trans u28k1_j5l1 zq145) (by omega) (by rw [show (0 : Int32).toInt = 0 from by decide]; exact hF0) hP hD hS (lv_sub hl [2, 3, 0] rfl))
                · subst hw
                  have hF0 := hF0.trans (if_neg (by decide))
                  refine lv_if_eq (tgt := 219) hx hb dX8_next_147 (by decide) (fun _ => ?_) (fun c147 => absurd (by decide +kernel) c147)
                  refine lv_aload_n hx hb dX8_next_219 rfl (lv_at hl 1 rfl) ?_
                  refine lv_iload_n hx hb dX8_next_220 rfl (lv_at hl 2 rfl) ?_
                  refine lv_iconst (v := 1) hx hb dX8_next_221 zk_iconst_1 ?_
                  refine lv_iadd hx hb dX8_next_222 ?_
                  refine lv_topi (fun x222 ex222 => ?_)
                  have qx222 : x222.toInt = j5l1.toInt + (1 : Int32).toInt := ai_add ex222 ⟨bj5l1_l, u28k1_j5l1⟩ ⟨zq1, zq0⟩ (by decide) (by decide)
                  have bx222 : (1 : Int) ≤ x222.toInt ∧ x222.toInt ≤ 900 := ⟨by rw [qx222]; exact Int.add_le_add bj5l1_l zq1, by rw [qx222]; exact Int.add_le_add u28k1_j5l1 zq0⟩
                  have wx222 : x222.toInt = j5l1.toInt + 1 := qx222
                  have hF0 := hF0.trans (fl_lt_eq (show x222.toInt = j5l1.toInt + 1 from qx222))
                  refine va_put (D := (dC, dI)) (ci := 8) (v := .int x222) (ty := .int) (C := RX8) (T := TX8) (N := 40) hx hb hts zi_X8_next_8 tyX8 tyX8_ok nmX8 hown hK hP hD hS 0 rfl rfl 5 (by decide) (hts (.fieldLink RX8 71 "WaxTurnsModel" "end" "I") (List.mem_cons_of_mem _ (List.mem_append_left _ (List.mem_of_getElem? (i := 0) rfl)))) (fun _ h9 => h9) rfl (tyX8_ok 5 (by decide)) rfl rfl (Nat.le_of_ble_eq_true rfl) dX8_next_223 (fun H locs hP hD hS => ?_)
                  refine zs_0 (y := (a0, .inr (8, [a0g_0, Value.ref a0_1, a0g_2, Value.int a0_3, Value.int j5l1, Value.int x222, Value.int a0_6, Value.int 0, Value.int 0, a0g_9, a0g_10, a0g_11, Value.ref a0_12, a0g_13, a0g_14, a0g_15, a0g_16, a0g_17, a0g_18, a0g_19, a0g_20, a0g_21, a0g_22, a0g_23, a0g_24, a0g_25, a0g_26, a0g_27, a0g_28, a0g_29, a0g_30, a0g_31, a0g_32, a0g_33, a0g_34, a0g_35, a0g_36, a0g_37, a0g_38, a0g_39]))) hP hD rfl (fun hP hD => ?_)
                  refine lv_aload_n hx hb dX8_next_226 rfl (lv_at hl 1 rfl) ?_
                  refine lv_iload_n hx hb dX8_next_227 rfl (lv_at hl 0 rfl) ?_
                  refine lv_bipush (v := 59) hx hb dX8_next_228 zk_bipush_59 ?_
                  refine lv_icmp_ne (tgt := 237) hx hb dX8_next_230 (by decide) (fun c230 => ?_) (fun c230 => ?_)
                  · have gc230 := ai_ne c230
                    have hF0 := hF0.trans (if_neg (show ¬ (r28.toInt = 59) from  gc230))
                    refine lv_iconst (v := 1) hx hb dX8_next_237 zk_iconst_1 ?_
                    refine va_put (D := (dC, dI)) (ci := 8) (v := .int 1) (ty := .int) (C := RX8) (T := TX8) (N := 40) hx hb hts zi_X8_next_8 tyX8 tyX8_ok nmX8 hown hK hP hD hS 0 rfl rfl 6 (by decide) (hts (.fieldLink RX8 87 "WaxTurnsModel" "token" "I") (List.mem_cons_of_mem _ (List.mem_append_left _ (List.mem_of_getElem? (i := 4) rfl)))) (fun _ h9 => h9) rfl (tyX8_ok 6 (by decide)) rfl rfl (Nat.le_of_ble_eq_true rfl) dX8_next_238 (fun H locs hP hD hS => ?_)
                    refine zs_0 (y := (a0, .inr (8, [a0g_0, Value.ref a0_1, a0g_2, Value.int a0_3, Value.int j5l1, Value.int x222, Value.int 1, Value.int 0, Value.int 0, a0g_9, a0g_10, a0g_11, Value.ref a0_12, a0g_13, a0g_14, a0g_15, a0g_16, a0g_17, a0g_18, a0g_19, a0g_20, a0g_21, a0g_22, a0g_23, a0g_24, a0g_25, a0g_26, a0g_27, a0g_28, a0g_29, a0g_30, a0g_31, a0g_32, a0g_33, a0g_34, a0g_35, a0g_36, a0g_37, a0g_38, a0g_39]))) hP hD rfl (fun hP hD => ?_)
                    have hFe : FX = (j5l1.toInt, x222.toInt, 1, 0, 0, (fl_A fa0_12)) := hF0
                    exact W.vret hx hb hr (fun t ht hW => ⟨⟨(), rfl, trivial, j5l1, x222, 1, 0, 0, fa0_12, ⟨Int.le_trans (by decide) bx222.1, bx222.2⟩, ⟨zq5, Int.le_trans zq6 (by decide)⟩, (fun h9 => absurd h9 (by decide)), ⟨by omega, Or.inl (by decide)⟩, hFe, by rw [ht]; exact hP, va_K.moved hW.alike hK, hD⟩, hS.F ht⟩) hS.2.2 dX8_next_241
                  · have gc230 := ai_eq c230
                    have u230f_r28 : r28.toInt ≤ (59 : Int) := Int.le_trans (Int.le_of_eq gc230) zq146
                    have l230f_r28 : (59 : Int) ≤ r28.toInt := Int.le_trans zq147 (Int.le_of_eq gc230.symm)
                    have hF0 := hF0.trans (if_pos (show r28.toInt = 59 from gc230))
                    refine lv_iload_n hx hb dX8_next_233 rfl (lv_at hl 0 rfl) ?_
                    refine lv_goto (tgt := 238) hx hb dX8_next_234 (by decide) ?_
                    refine va_put (D := (dC, dI)) (ci := 8) (v := .int r28) (ty := .int) (C := RX8) (T := TX8) (N := 40) hx hb hts zi_X8_next_8 tyX8 tyX8_ok nmX8 hown hK hP hD hS 0 rfl rfl 6 (by decide) (hts (.fieldLink RX8 87 "WaxTurnsModel" "token" "I") (List.mem_cons_of_mem _ (List.mem_append_left _ (List.mem_of_getElem? (i := 4) rfl)))) (fun _ h9 => h9) rfl (tyX8_ok 6 (by decide)) rfl rfl (Nat.le_of_ble_eq_true rfl) dX8_next_238 (fun H locs hP hD hS => ?_)
                    refine zs_0 (y := (a0, .inr (8, [a0g_0, Value.ref a0_1, a0g_2, Value.int a0_3, Value.int j5l1, Value.int x222, Value.int r28, Value.int 0, Value.int 0, a0g_9, a0g_10, a0g_11, Value.ref a0_12, a0g_13, a0g_14, a0g_15, a0g_16, a0g_17, a0g_18, a0g_19, a0g_20, a0g_21, a0g_22, a0g_23, a0g_24, a0g_25, a0g_26, a0g_27, a0g_28, a0g_29, a0g_30, a0g_31, a0g_32, a0g_33, a0g_34, a0g_35, a0g_36, a0g_37, a0g_38, a0g_39]))) hP hD rfl (fun hP hD => ?_)
                    have hFe : FX = (j5l1.toInt, x222.toInt, r28.toInt, 0, 0, (fl_A fa0_12)) := hF0
                    exact W.vret hx hb hr (fun t ht hW => ⟨⟨(), rfl, trivial, j5l1, x222, r28, 0, 0, fa0_12, ⟨Int.le_trans (by decide) bx222.1, bx222.2⟩, ⟨zq5, Int.le_trans zq6 (by decide)⟩, (fun _ => by decide), ⟨by omega, Or.inr (by omega)⟩, hFe, by rw [ht]; exact hP, va_K.moved hW.alike hK, hD⟩, hS.F ht⟩) hS.2.2 dX8_next_241
            · have gc44 := ai_eq c44
              have u44f_r28 : r28.toInt ≤ (-1 : Int) := Int.le_trans (Int.le_of_eq gc44) zq71
              have l44f_r28 : (-1 : Int) ≤ r28.toInt := Int.le_trans zq70 (Int.le_of_eq gc44.symm)
              have hF0 := hF0.trans (if_pos (show r28.toInt = (-1) from gc44))
              refine lv_aload_n hx hb dX8_next_47 rfl (lv_at hl 1 rfl) ?_
              refine lv_iconst (v := 0) hx hb dX8_next_48 zk_iconst_0 ?_
              refine va_put (D := (dC, dI)) (ci := 8) (v := .int 0) (ty := .int) (C := RX8) (T := TX8) (N := 40) hx hb hts zi_X8_next_8 tyX8 tyX8_ok nmX8 hown hK hP hD hS 0 rfl rfl 6 (by decide) (hts (.fieldLink RX8 87 "WaxTurnsModel" "token" "I") (List.mem_cons_of_mem _ (List.mem_append_left _ (List.mem_of_getElem? (i := 4) rfl)))) (fun _ h9 => h9) rfl (tyX8_ok 6 (by decide)) rfl rfl (Nat.le_of_ble_eq_true rfl) dX8_next_49 (fun H locs hP hD hS => ?_)
              refine zs_0 (y := (a0, .inr (8, [a0g_0, Value.ref a0_1, a0g_2, Value.int a0_3, Value.int j5l1, Value.int a0_5, Value.int 0, Value.int 0, Value.int 0, a0g_9, a0g_10, a0g_11, Value.ref a0_12, a0g_13, a0g_14, a0g_15, a0g_16, a0g_17, a0g_18, a0g_19, a0g_20, a0g_21, a0g_22, a0g_23, a0g_24, a0g_25, a0g_26, a0g_27, a0g_28, a0g_29, a0g_30, a0g_31, a0g_32, a0g_33, a0g_34, a0g_35, a0g_36, a0g_37, a0g_38, a0g_39]))) hP hD rfl (fun hP hD => ?_)
              refine lv_aload_n hx hb dX8_next_52 rfl (lv_at hl 1 rfl) ?_
              refine lv_iload_n hx hb dX8_next_53 rfl (lv_at hl 2 rfl) ?_
              refine va_put (D := (dC, dI)) (ci := 8) (v := .int j5l1) (ty := .int) (C := RX8) (T := TX8) (N := 40) hx hb hts zi_X8_next_8 tyX8 tyX8_ok nmX8 hown hK hP hD hS 0 rfl rfl 5 (by decide) (hts (.fieldLink RX8 71 "WaxTurnsModel" "end" "I") (List.mem_cons_of_mem _ (List.mem_append_left _ (List.mem_of_getElem? (i := 0) rfl)))) (fun _ h9 => h9) rfl (tyX8_ok 5 (by decide)) rfl rfl (Nat.le_of_ble_eq_true rfl) dX8_next_54 (fun H locs hP hD hS => ?_)
              refine zs_0 (y := (a0, .inr (8, [a0g_0, Value.ref a0_1, a0g_2, Value.int a0_3, Value.int j5l1, Value.int j5l1, Value.int 0, Value.int 0, Value.int 0, a0g_9, a0g_10, a0g_11, Value.ref a0_12, a0g_13, a0g_14, a0g_15, a0g_16, a0g_17, a0g_18, a0g_19, a0g_20, a0g_21, a0g_22, a0g_23, a0g_24, a0g_25, a0g_26, a0g_27, a0g_28, a0g_29, a0g_30, a0g_31, a0g_32, a0g_33, a0g_34, a0g_35, a0g_36, a0g_37, a0g_38, a0g_39]))) hP hD rfl (fun hP hD => ?_)
              refine lv_goto (tgt := 241) hx hb dX8_next_57 (by decide) ?_
              have hFe : FX = (j5l1.toInt, j5l1.toInt, 0, 0, 0, (fl_A fa0_12)) := hF0
              exact W.vret hx hb hr (fun t ht hW => ⟨⟨(), rfl, trivial, j5l1, j5l1, 0, 0, 0, fa0_12, ⟨bj5l1_l, Int.le_trans u28k1_j5l1 (by decide)⟩, ⟨zq5, Int.le_trans zq6 (by decide)⟩, (fun h9 => absurd h9 (by decide)), ⟨by omega, Or.inl (by decide)⟩, hFe, by rw [ht]; exact hP, va_K.moved hW.alike hK, hD⟩, hS.F ht⟩) hS.2.2 dX8_next_241
        · have gc12 := ai_eq c12
          have u12f_r7 : r7.toInt ≤ (32 : Int) := Int.le_trans (Int.le_of_eq gc12) zq148
          have l12f_r7 : (32 : Int) ≤ r7.toInt := Int.le_trans zq149 (Int.le_of_eq gc12.symm)
          have hF1 := hF1.trans (if_pos (show r7.toInt = 32 from gc12))
          obtain ⟨x15, ex15⟩ : ∃ y : Int32, y = j5l1 + Int32.ofInt 1 := ⟨_, rfl⟩
          have qx15 : x15.toInt = j5l1.toInt + 1 := ai_inc ex15 (by decide) (by decide) u7k1_j5l1 (by decide)
          have bx15 : (1 : Int) ≤ x15.toInt ∧ x15.toInt ≤ 900 := ⟨by rw [qx15]; exact Int.add_le_add bj5l1_l (Int.le_refl _), by rw [qx15]; exact Int.add_le_add u7k1_j5l1 (Int.le_refl _)⟩
          refine lv_iinc (v := x15) (lv' := [(1, .int x15), (0, .ref a0)]) hx hb dX8_next_15 hl (k := 1) rfl ex15.symm (by decide) rfl (fun ls hl => ?_)
          have hF1 := hF1.trans (fl_lt_eq (show x15.toInt = j5l1.toInt + 1 from qx15))
          refine lv_goto (tgt := 5) hx hb dX8_next_18 (by decide) ?_
          exact (hK0 _ _ _).mp (ih5 x15 _ _ _ (by first | exact zg_s hm5 qx15 | (have h0 := qx15; omega)) (Int.le_trans zq4 bx15.1) bx15.2 (by omega) (hF0.trans (fl_wh_l (hSX5.trans hF1))) hP hD hS (lv_sub hl [1, 0] rfl))
  exact (hK0 _ _ _).mp (J5 901 a0_5 _ _ _ (by have h1 : (0 : Int) ≤ a0_5.toInt := ba0_5_l; have h2 : a0_5.toInt ≤ (900 : Int) := ba0_5_u; omega) ba0_5_l ba0_5_u (by omega) hF0 hP hD hS (lv_sub hl [1, 0] rfl))
