section P250_03_safe
set_option maxHeartbeats 4000000 in
set_option maxRecDepth 100000 in
theorem c_X8_lookLeaves (l : Launch) (dC : Nat → ClassId) (dI : Nat → Nat → Nat) (sz : Nat) (a0 : Nat) (a0_0 : Int32) (a0g_1 a0g_2 a0g_3 a0g_4 a0g_5 a0g_6 a0g_7 a0g_8 a0g_9 a0g_10 a0g_12 a0g_13 a0g_16 a0g_17 a0g_18 a0g_19 a0g_20 a0g_21 a0g_22 a0g_23 a0g_24 a0g_25 a0g_26 a0g_27 a0g_28 a0g_29 a0g_30 a0g_31 a0g_32 a0g_33 a0g_37 a0g_38 a0g_39 : Value) (a0_11 : Int32) (a0_14 : Int32) (a0_15 : Nat) (a0_34 : Nat) (a0_35 : Nat) (a0_36 : Int32) (ka0_15 : ClassId) (fa0_15 : Nat → Int32) (ka0_35 : ClassId) (fa0_35 : Nat → Int32) (ka0_34 : ClassId) (fa0_34 : Nat → Int32) (ba0_14_l : (1 : Int) ≤ a0_14.toInt) (ba0_14_u : a0_14.toInt ≤ (1 : Int)) (bfa0_15 : ((∀ k : Nat, 0 ≤ k → k ≤ 0 → (2 : Int) ≤ (fa0_15 k).toInt ∧ (fa0_15 k).toInt ≤ 9) ∧ (∀ k : Nat, 1 ≤ k → k ≤ 1 → (1 : Int) ≤ (fa0_15 k).toInt ∧ (fa0_15 k).toInt ≤ 20) ∧ (∀ k : Nat, 2 ≤ k → k ≤ 2 → (0 : Int) ≤ (fa0_15 k).toInt ∧ (fa0_15 k).toInt ≤ 8) ∧ (∀ k : Nat, 3 ≤ k → k ≤ 3 → (0 : Int) ≤ (fa0_15 k).toInt ∧ (fa0_15 k).toInt ≤ 100) ∧ (∀ k : Nat, 4 ≤ k → k ≤ 4 → (0 : Int) ≤ (fa0_15 k).toInt ∧ (fa0_15 k).toInt ≤ 9) ∧ (∀ k : Nat, 5 ≤ k → k ≤ 5 → (0 : Int) ≤ (fa0_15 k).toInt ∧ (fa0_15 k).toInt ≤ 3) ∧ (∀ k : Nat, 6 ≤ k → k ≤ 6 → (0 : Int) ≤ (fa0_15 k).toInt ∧ (fa0_15 k).toInt ≤ 6) ∧ (∀ k : Nat, 7 ≤ k → k ≤ 9 → (0 : Int) ≤ (fa0_15 k).toInt ∧ (fa0_15 k).toInt ≤ 8) ∧ (∀ k : Nat, 12 ≤ k → k ≤ 29 → (0 : Int) ≤ (fa0_15 k).toInt ∧ (fa0_15 k).toInt ≤ 20) ∧ (∀ k : Nat, 30 ≤ k → k ≤ 35 → (0 : Int) ≤ (fa0_15 k).toInt ∧ (fa0_15 k).toInt ≤ 8) ∧ (∀ k : Nat, 36 ≤ k → k ≤ 47 → (0 : Int) ≤ (fa0_15 k).toInt ∧ (fa0_15 k).toInt ≤ 999))) : zm l yX8_lookLeaves wsX8_lookLeaves ({ frames := 5, cells := 0, slots := 0, locals := 118 }) [.ref a0] dC dI sz [(a0, .inr (8, [Value.int a0_0, a0g_1, a0g_2, a0g_3, a0g_4, a0g_5, a0g_6, a0g_7, a0g_8, a0g_9, a0g_10, Value.int a0_11, a0g_12, a0g_13, Value.int a0_14, Value.ref a0_15, a0g_16, a0g_17, a0g_18, a0g_19, a0g_20, a0g_21, a0g_22, a0g_23, a0g_24, a0g_25, a0g_26, a0g_27, a0g_28, a0g_29, a0g_30, a0g_31, a0g_32, a0g_33, Value.ref a0_34, Value.ref a0_35, Value.int a0_36, a0g_37, a0g_38, a0g_39])), (a0_15, .inl (ka0_15, 156, .inl (fa0_15))), (a0_35, .inl (ka0_35, 9, .inl (fa0_35))), (a0_34, .inl (ka0_34, 9, .inl (fa0_34)))] [(ka0_15, .int), (ka0_35, .int), (ka0_34, .int)] (fun A _ => True) (fun A => va_Qi (fun (r : Int32) (_ : Unit) => True) (fun (_ : Unit) (t : State) => ∃ na0_0 : Int32, ∃ na0_11 : Int32, ∃ na0_36 : Int32, ∃ nfa0_35 : Nat → Int32, ∃ nfa0_34 : Nat → Int32, ax_B dC dI A [(a0, .inr (8, [Value.int na0_0, a0g_1, a0g_2, a0g_3, a0g_4, a0g_5, a0g_6, a0g_7, a0g_8, a0g_9, a0g_10, Value.int na0_11, a0g_12, a0g_13, Value.int a0_14, Value.ref a0_15, a0g_16, a0g_17, a0g_18, a0g_19, a0g_20, a0g_21, a0g_22, a0g_23, a0g_24, a0g_25, a0g_26, a0g_27, a0g_28, a0g_29, a0g_30, a0g_31, a0g_32, a0g_33, Value.ref a0_34, Value.ref a0_35, Value.int na0_36, a0g_37, a0g_38, a0g_39])), (a0_15, .inl (ka0_15, 156, .inl (fa0_15))), (a0_35, .inl (ka0_35, 9, .inl (nfa0_35))), (a0_34, .inl (ka0_34, 9, .inl (nfa0_34)))] [(ka0_15, .int), (ka0_35, .int), (ka0_34, .int)] t) A) := by
  refine zh (cc := cX8_lookLeaves) (maxL := 1) (ret := (some .int)) zn_RX8 rfl (Nat.le_of_ble_eq_true rfl) (fun p e s m below meth c A ls hx hb hml hr hts (hown : s.vm.findClass RX8 = some m.cls) hlocks hA hS hP hK hD hE (hl : lv_has ls 1 [(0, .ref a0)]) => ?_)
  refine lv_aload_n hx hb dX8_lookLeaves_0 rfl (lv_at hl 0 rfl) ?_
  refine va_callv (va_runV (As := []) (rest := []) ⟨hx, hb, hml, hown, hts⟩ (c_X8_good l dC dI s.heap.size a0 a0_0 a0g_1 a0g_2 a0g_3 a0g_4 a0g_5 a0g_6 a0g_7 a0g_8 a0g_9 a0g_10 a0g_12 a0g_13 (Value.int a0_14) (Value.ref a0_15) a0g_16 a0g_17 a0g_18 a0g_19 a0g_20 a0g_21 a0g_22 a0g_23 a0g_24 a0g_25 a0g_26 a0g_27 a0g_28 a0g_29 a0g_30 a0g_31 a0g_32 a0g_33 (Value.ref a0_34) (Value.ref a0_35) (Value.int a0_36) a0g_37 a0g_38 a0g_39 a0_11 ) (cwV 0 hts gX8_lookLeaves_X8_good rfl rfl rfl zd_X8_good ⟨Nat.le_of_ble_eq_true rfl, Nat.le_of_ble_eq_true rfl⟩) ⟨ax_blind (fun _ _ _ _ _ => trivial), zr_8 (zp_K hK) (zp_P1 hP) (q0 := 0) rfl, ax_pre (zp_P1 hP) (zp_K hK) (zp_D1 hD) (fun _ _ => trivial)⟩ rfl rfl hl.1 rfl (lv_room (Nat.le_of_ble_eq_true rfl)) dX8_lookLeaves_1 ⟨Nat.le_of_ble_eq_true rfl, Nat.le_of_ble_eq_true rfl⟩) hS (fun q _ h => zp_F1 hD hS hA q h) (zp_F1 hD hS hA) (fun u t H locs ht hvm hw => zx_2 (fun v1na0_0 v1na0_11 hB hz1 hk1 hS1 => zo1 hB ht hP hD hk1 (zp_F1 hD hS hA) hS1 (fun hP hK1 hD hS => ?_)))
  refine lv_aload_n hx hb dX8_lookLeaves_4 rfl (lv_at hl 0 rfl) ?_
  refine va_get (D := (dC, dI)) (ci := 8) (v := .int a0_14) (C := RX8) (T := TX8) (N := 40) hx hb hts zi_X8_lookLeaves_8 hown hK hP 0 rfl rfl 14 (by decide) (hts (.fieldLink RX8 173 "WaxTurnsModel" "hasGallery" "Z") (zm_X8_lookLeaves_r1 (List.mem_of_getElem? (i := 0) rfl))) (fun _ h9 => h9) rfl dX8_lookLeaves_5 ?_
  refine lv_if_ne (tgt := 17) hx hb dX8_lookLeaves_8 (by decide) (fun c8 => ?_) (fun c8 => ?_)
  · have gc8 := ai_ne c8
    refine lv_aload_n hx hb dX8_lookLeaves_17 rfl (lv_at hl 0 rfl) ?_
    have hKc := hK.sub (tys' := [(ka0_15, .int), (ka0_35, .int), (ka0_34, .int)]) [0, 1, 2] rfl
    refine va_calli (va_runV (As := []) (rest := []) ⟨hx, hb, hml, hown, hts⟩ (c_X8_lookOf l dC dI H.size a0 (Value.int v1na0_0) a0g_1 a0g_2 a0g_3 a0g_4 a0g_5 a0g_6 a0g_7 a0g_8 a0g_9 a0g_10 (Value.int v1na0_11) a0g_12 a0g_13 (Value.int a0_14) a0g_16 a0g_17 a0g_18 a0g_19 a0g_20 a0g_21 a0g_22 a0g_23 a0g_24 a0g_25 a0g_26 a0g_27 a0g_28 a0g_29 a0g_30 a0g_31 a0g_32 a0g_33 a0g_37 a0g_38 a0g_39 a0_15 a0_34 a0_35 a0_36 ka0_15 fa0_15 ka0_35 fa0_35 ka0_34 fa0_34 bfa0_15) (cwV 0 hts gX8_lookLeaves_X8_lookOf rfl rfl rfl zd_X8_lookOf ⟨Nat.le_of_ble_eq_true rfl, Nat.le_of_ble_eq_true rfl⟩) ⟨ax_blind (fun _ _ _ _ _ => trivial), zr_8 hKc (zp_P4 hP) (q0 := 0) rfl, ax_pre (zp_P4 hP) hKc (zp_D4 hD) (fun _ _ => trivial)⟩ rfl rfl hl.1 rfl (lv_room (Nat.le_of_ble_eq_true rfl)) dX8_lookLeaves_18 ⟨Nat.le_of_ble_eq_true rfl, Nat.le_of_ble_eq_true rfl⟩) hS (fun q _ h => zp_F4 hD hS hA q h) (zp_F4 hD hS hA) (fun r18 u t H locs ht hvm hw => zx_3 (fun v18na0_36 v18nfa0_35 v18nfa0_34 hB hz1 hk1 hS1 => zo4 hB ht hP hD hk1 (zp_F4 hD hS hA) hS1 (fun hP hK1 hD hS => ?_)))
    have hw : (-2 : Int) ≤ r18.toInt ∧ r18.toInt ≤ (99 : Int) := hw
    obtain ⟨h18_0, h18_1⟩ := hw
    refine lv_pop hx hb dX8_lookLeaves_21 rfl ?_
    refine lv_aload_n hx hb dX8_lookLeaves_22 rfl (lv_at hl 0 rfl) ?_
    refine va_get (D := (dC, dI)) (ci := 8) (v := .int v18na0_36) (C := RX8) (T := TX8) (N := 40) hx hb hts zi_X8_lookLeaves_8 hown hK hP 0 rfl rfl 36 (by decide) (hts (.fieldLink RX8 346 "WaxTurnsModel" "leastLeft" "I") (zm_X8_lookLeaves_r1 (List.mem_of_getElem? (i := 1) rfl))) (fun _ h9 => h9) rfl dX8_lookLeaves_23 ?_
    exact W.iret (v := v18na0_36) hx hb hr (fun t ht hW => ⟨⟨v18na0_36, (), rfl, trivial, v1na0_0, v1na0_11, v18na0_36, v18nfa0_35, v18nfa0_34, by rw [ht]; exact hP, va_K.moved hW.alike hK, hD⟩, hS.F ht⟩) hS.2.2 dX8_lookLeaves_26
  · have gc8 := ai_eq c8
    have u8f_a0_14 : a0_14.toInt ≤ (0 : Int) := Int.le_trans (Int.le_of_eq gc8) zq6
    have l8f_a0_14 : (1 : Int) ≤ a0_14.toInt := ba0_14_l
    exact absurd (Int.le_trans l8f_a0_14 u8f_a0_14) (by decide)

set_option maxHeartbeats 4000000 in
set_option maxRecDepth 100000 in
theorem c_X8_judge (l : Launch) (dC : Nat → ClassId) (dI : Nat → Nat → Nat) (sz : Nat) (a0 : Nat) (a0_0 : Int32) (a0g_1 a0g_2 a0g_3 a0g_4 a0g_5 a0g_6 a0g_7 a0g_8 a0g_9 a0g_10 a0g_12 a0g_13 a0g_16 a0g_17 a0g_18 a0g_19 a0g_20 a0g_21 a0g_22 a0g_23 a0g_24 a0g_25 a0g_26 a0g_27 a0g_28 a0g_29 a0g_30 a0g_31 a0g_32 a0g_33 a0g_35 a0g_36 a0g_37 a0g_38 a0g_39 : Value) (a0_11 : Int32) (a0_14 : Int32) (a0_15 : Nat) (a0_34 : Nat) (ka0_15 : ClassId) (fa0_15 : Nat → Int32) (ka0_34 : ClassId) (fa0_34 : Nat → Int32) (ba0_14_l : (1 : Int) ≤ a0_14.toInt) (ba0_14_u : a0_14.toInt ≤ (1 : Int)) (bfa0_15 : ((∀ k : Nat, 0 ≤ k → k ≤ 0 → (2 : Int) ≤ (fa0_15 k).toInt ∧ (fa0_15 k).toInt ≤ 9) ∧ (∀ k : Nat, 1 ≤ k → k ≤ 1 → (1 : Int) ≤ (fa0_15 k).toInt ∧ (fa0_15 k).toInt ≤ 20) ∧ (∀ k : Nat, 2 ≤ k → k ≤ 2 → (0 : Int) ≤ (fa0_15 k).toInt ∧ (fa0_15 k).toInt ≤ 8) ∧ (∀ k : Nat, 3 ≤ k → k ≤ 3 → (0 : Int) ≤ (fa0_15 k).toInt ∧ (fa0_15 k).toInt ≤ 100) ∧ (∀ k : Nat, 4 ≤ k → k ≤ 4 → (0 : Int) ≤ (fa0_15 k).toInt ∧ (fa0_15 k).toInt ≤ 9) ∧ (∀ k : Nat, 5 ≤ k → k ≤ 5 → (0 : Int) ≤ (fa0_15 k).toInt ∧ (fa0_15 k).toInt ≤ 3) ∧ (∀ k : Nat, 6 ≤ k → k ≤ 6 → (0 : Int) ≤ (fa0_15 k).toInt ∧ (fa0_15 k).toInt ≤ 6) ∧ (∀ k : Nat, 7 ≤ k → k ≤ 9 → (0 : Int) ≤ (fa0_15 k).toInt ∧ (fa0_15 k).toInt ≤ 8) ∧ (∀ k : Nat, 12 ≤ k → k ≤ 29 → (0 : Int) ≤ (fa0_15 k).toInt ∧ (fa0_15 k).toInt ≤ 20) ∧ (∀ k : Nat, 30 ≤ k → k ≤ 35 → (0 : Int) ≤ (fa0_15 k).toInt ∧ (fa0_15 k).toInt ≤ 8) ∧ (∀ k : Nat, 36 ≤ k → k ≤ 47 → (0 : Int) ≤ (fa0_15 k).toInt ∧ (fa0_15 k).toInt ≤ 999))) : zm l yX8_judge wsX8_judge ({ frames := 1, cells := 0, slots := 0, locals := 28 }) [.ref a0] dC dI sz [(a0, .inr (8, [Value.int a0_0, a0g_1, a0g_2, a0g_3, a0g_4, a0g_5, a0g_6, a0g_7, a0g_8, a0g_9, a0g_10, Value.int a0_11, a0g_12, a0g_13, Value.int a0_14, Value.ref a0_15, a0g_16, a0g_17, a0g_18, a0g_19, a0g_20, a0g_21, a0g_22, a0g_23, a0g_24, a0g_25, a0g_26, a0g_27, a0g_28, a0g_29, a0g_30, a0g_31, a0g_32, a0g_33, Value.ref a0_34, a0g_35, a0g_36, a0g_37, a0g_38, a0g_39])), (a0_15, .inl (ka0_15, 156, .inl (fa0_15))), (a0_34, .inl (ka0_34, 9, .inl (fa0_34)))] [(ka0_15, .int), (ka0_34, .int)] (fun A _ => True) (fun A => va_Qi (fun (r : Int32) (_ : Unit) => (-2 : Int) ≤ r.toInt ∧ r.toInt ≤ (5 : Int)) (fun (_ : Unit) (t : State) => ∃ na0_0 : Int32, ∃ na0_11 : Int32, ∃ nfa0_34 : Nat → Int32, ax_B dC dI A [(a0, .inr (8, [Value.int na0_0, a0g_1, a0g_2, a0g_3, a0g_4, a0g_5, a0g_6, a0g_7, a0g_8, a0g_9, a0g_10, Value.int na0_11, a0g_12, a0g_13, Value.int a0_14, Value.ref a0_15, a0g_16, a0g_17, a0g_18, a0g_19, a0g_20, a0g_21, a0g_22, a0g_23, a0g_24, a0g_25, a0g_26, a0g_27, a0g_28, a0g_29, a0g_30, a0g_31, a0g_32, a0g_33, Value.ref a0_34, a0g_35, a0g_36, a0g_37, a0g_38, a0g_39])), (a0_15, .inl (ka0_15, 156, .inl (fa0_15))), (a0_34, .inl (ka0_34, 9, .inl (nfa0_34)))] [(ka0_15, .int), (ka0_34, .int)] t) A) := by
  refine zh (cc := cX8_judge) (maxL := 2) (ret := (some .int)) zn_RX8 rfl (Nat.le_of_ble_eq_true rfl) (fun p e s m below meth c A ls hx hb hml hr hts (hown : s.vm.findClass RX8 = some m.cls) hlocks hA hS hP hK hD hE (hl : lv_has ls 2 [(0, .ref a0)]) => ?_)
  refine ai_open (fun K hK0 => ?_)
  refine (hK0 _ _ _).mpr ?_
  refine lv_aload_n hx hb dX8_judge_0 rfl (lv_at hl 0 rfl) ?_
  refine va_callv (va_runV (As := []) (rest := []) ⟨hx, hb, hml, hown, hts⟩ (c_X8_good l dC dI s.heap.size a0 a0_0 a0g_1 a0g_2 a0g_3 a0g_4 a0g_5 a0g_6 a0g_7 a0g_8 a0g_9 a0g_10 a0g_12 a0g_13 (Value.int a0_14) (Value.ref a0_15) a0g_16 a0g_17 a0g_18 a0g_19 a0g_20 a0g_21 a0g_22 a0g_23 a0g_24 a0g_25 a0g_26 a0g_27 a0g_28 a0g_29 a0g_30 a0g_31 a0g_32 a0g_33 (Value.ref a0_34) a0g_35 a0g_36 a0g_37 a0g_38 a0g_39 a0_11 ) (cwV 0 hts gX8_judge_X8_good rfl rfl rfl zd_X8_good ⟨Nat.le_of_ble_eq_true rfl, Nat.le_of_ble_eq_true rfl⟩) ⟨ax_blind (fun _ _ _ _ _ => trivial), zr_8 (zp_K hK) (zp_P1 hP) (q0 := 0) rfl, ax_pre (zp_P1 hP) (zp_K hK) (zp_D1 hD) (fun _ _ => trivial)⟩ rfl rfl hl.1 rfl (lv_room (Nat.le_of_ble_eq_true rfl)) dX8_judge_1 ⟨Nat.le_of_ble_eq_true rfl, Nat.le_of_ble_eq_true rfl⟩) hS (fun q _ h => zp_F1 hD hS hA q h) (zp_F1 hD hS hA) (fun u t H locs ht hvm hw => zx_2 (fun v1na0_0 v1na0_11 hB hz1 hk1 hS1 => zo1 hB ht hP hD hk1 (zp_F1 hD hS hA) hS1 (fun hP hK1 hD hS => ?_)))
  refine lv_aload_n hx hb dX8_judge_4 rfl (lv_at hl 0 rfl) ?_
  refine va_get (D := (dC, dI)) (ci := 8) (v := .int a0_14) (C := RX8) (T := TX8) (N := 40) hx hb hts zi_X8_judge_8 hown hK hP 0 rfl rfl 14 (by decide) (hts (.fieldLink RX8 173 "WaxTurnsModel" "hasGallery" "Z") (List.mem_cons_of_mem _ (List.mem_append_left _ (List.mem_of_getElem? (i := 0) rfl)))) (fun _ h9 => h9) rfl dX8_judge_5 ?_
  refine lv_if_ne (tgt := 17) hx hb dX8_judge_8 (by decide) (fun c8 => ?_) (fun c8 => ?_)
  · have gc8 := ai_ne c8
    refine lv_iconst (v := 0) hx hb dX8_judge_17 zk_iconst_0 ?_
    refine lv_istore_n (lv' := [(1, .int 0), (0, .ref a0)]) hx hb dX8_judge_18 rfl hl (by decide) rfl (fun ls hl => ?_)
    have J19 : ∀ (n : Nat) (j19l1 : Int32) (j19a0_34_a : Nat → Int32) (H : Heap) (locs : List Loc) (ls : Array Slot), (7 : Int) - j19l1.toInt ≤ (n : Int) → (0 : Int) ≤ j19l1.toInt → j19l1.toInt ≤ (6 : Int) → va_P (dC, dI) vwCl [(a0, .inr (8, [Value.int v1na0_0, a0g_1, a0g_2, a0g_3, a0g_4, a0g_5, a0g_6, a0g_7, a0g_8, a0g_9, a0g_10, Value.int v1na0_11, a0g_12, a0g_13, Value.int a0_14, Value.ref a0_15, a0g_16, a0g_17, a0g_18, a0g_19, a0g_20, a0g_21, a0g_22, a0g_23, a0g_24, a0g_25, a0g_26, a0g_27, a0g_28, a0g_29, a0g_30, a0g_31, a0g_32, a0g_33, Value.ref a0_34, a0g_35, a0g_36, a0g_37, a0g_38, a0g_39])), (a0_15, .inl (ka0_15, 156, .inl (fa0_15))), (a0_34, .inl (ka0_34, 9, .inl (j19a0_34_a)))] H → va_D A [(a0, .inr (8, [Value.int v1na0_0, a0g_1, a0g_2, a0g_3, a0g_4, a0g_5, a0g_6, a0g_7, a0g_8, a0g_9, a0g_10, Value.int v1na0_11, a0g_12, a0g_13, Value.int a0_14, Value.ref a0_15, a0g_16, a0g_17, a0g_18, a0g_19, a0g_20, a0g_21, a0g_22, a0g_23, a0g_24, a0g_25, a0g_26, a0g_27, a0g_28, a0g_29, a0g_30, a0g_31, a0g_32, a0g_33, Value.ref a0_34, a0g_35, a0g_36, a0g_37, a0g_38, a0g_39])), (a0_15, .inl (ka0_15, 156, .inl (fa0_15))), (a0_34, .inl (ka0_34, 9, .inl (j19a0_34_a)))] → va_S A s.heap H locs → lv_has ls 2 [(0, .ref a0), (1, .int j19l1)] → K H locs (F0 m 19 ls []) := by
      intro n
      induction n with
      | zero =>
        intro j19l1 j19a0_34_a H locs ls hm bj19l1_l bj19l1_u hP hD hS hl
        first | exact zg_0 hm bj19l1_u (by decide) | (have h8 := ai_min j19l1; have h9 := ai_max j19l1; exact absurd hm (by omega))
      | succ n ih19 =>
        intro j19l1 j19a0_34_a H locs ls hm bj19l1_l bj19l1_u hP hD hS hl
        refine (hK0 _ _ _).mpr ?_
        have hm19 := hm
        refine lv_iload_n hx hb dX8_judge_19 rfl (lv_at hl 1 rfl) ?_
        refine lv_aload_n hx hb dX8_judge_20 rfl (lv_at hl 0 rfl) ?_
        refine va_get (D := (dC, dI)) (ci := 8) (v := .ref a0_15) (C := RX8) (T := TX8) (N := 40) hx hb hts zi_X8_judge_8 hown hK hP 0 rfl rfl 15 (by decide) (hts (.fieldLink RX8 20 "WaxTurnsModel" "\x72" "[I") (List.mem_cons_of_mem _ (List.mem_append_left _ (List.mem_of_getElem? (i := 1) rfl)))) (fun _ h9 => h9) rfl dX8_judge_21 ?_
        refine lv_bipush (v := 6) hx hb dX8_judge_24 zk_bipush_6 ?_
        refine va_iald hx hb hK hP 1 0 rfl rfl (by unfold vp_in; decide +kernel) dX8_judge_26 ?_
        refine lv_topi (fun x26 ex26 => ?_)
        have bx26 : (0 : Int) ≤ x26.toInt ∧ x26.toInt ≤ 6 := by rw [ex26]; exact ai_rd bfa0_15.2.2.2.2.2.2.1 zq15 zq16 (by decide) (by decide) (by decide)
        refine lv_icmp_ge (tgt := 97) hx hb dX8_judge_27 (by decide) (fun c27 => ?_) (fun c27 => ?_)
        · have gc27 := ai_le c27
          have u27t_x26 : x26.toInt ≤ (6 : Int) := bx26.2
          have l27t_j19l1 : (0 : Int) ≤ j19l1.toInt := bj19l1_l
          refine lv_bipush (v := (-2)) hx hb dX8_judge_97 zk_bipush_n2 ?_
          exact W.iret (v := (-2)) hx hb hr (fun t ht hW => ⟨⟨(-2), (), rfl, ⟨zq45, (Int.le_trans zq44 zq98)⟩, v1na0_0, v1na0_11, j19a0_34_a, by rw [ht]; exact hP, va_K.moved hW.alike hK, hD⟩, hS.F ht⟩) hS.2.2 dX8_judge_99
        · have gc27 := ai_nle c27
          have u27f_j19l1 : j19l1.toInt ≤ (5 : Int) := ai_lthi gc27 bx26.2
          have l27f_x26 : (1 : Int) ≤ x26.toInt := ai_ltlo gc27 bj19l1_l
          refine lv_aload_n hx hb dX8_judge_30 rfl (lv_at hl 0 rfl) ?_
          refine lv_aload_n hx hb dX8_judge_31 rfl (lv_at hl 0 rfl) ?_
          refine va_get (D := (dC, dI)) (ci := 8) (v := .ref a0_15) (C := RX8) (T := TX8) (N := 40) hx hb hts zi_X8_judge_8 hown hK hP 0 rfl rfl 15 (by decide) (hts (.fieldLink RX8 20 "WaxTurnsModel" "\x72" "[I") (List.mem_cons_of_mem _ (List.mem_append_left _ (List.mem_of_getElem? (i := 1) rfl)))) (fun _ h9 => h9) rfl dX8_judge_32 ?_
          refine lv_bipush (v := 7) hx hb dX8_judge_35 zk_bipush_7 ?_
          refine va_iald hx hb hK hP 1 0 rfl rfl (by unfold vp_in; decide +kernel) dX8_judge_37 ?_
          refine lv_topi (fun x37 ex37 => ?_)
          have bx37 : (0 : Int) ≤ x37.toInt ∧ x37.toInt ≤ 8 := by rw [ex37]; exact ai_rd bfa0_15.2.2.2.2.2.2.2.1 zq114 zq115 (by decide) (by decide) (by decide)
          refine lv_aload_n hx hb dX8_judge_38 rfl (lv_at hl 0 rfl) ?_
          refine va_get (D := (dC, dI)) (ci := 8) (v := .ref a0_15) (C := RX8) (T := TX8) (N := 40) hx hb hts zi_X8_judge_8 hown hK hP 0 rfl rfl 15 (by decide) (hts (.fieldLink RX8 20 "WaxTurnsModel" "\x72" "[I") (List.mem_cons_of_mem _ (List.mem_append_left _ (List.mem_of_getElem? (i := 1) rfl)))) (fun _ h9 => h9) rfl dX8_judge_39 ?_
          refine lv_bipush (v := 8) hx hb dX8_judge_42 zk_bipush_8 ?_
          refine va_iald hx hb hK hP 1 0 rfl rfl (by unfold vp_in; decide +kernel) dX8_judge_44 ?_
          refine lv_topi (fun x44 ex44 => ?_)
          have bx44 : (0 : Int) ≤ x44.toInt ∧ x44.toInt ≤ 8 := by rw [ex44]; exact ai_rd bfa0_15.2.2.2.2.2.2.2.1 zq116 zq28 (by decide) (by decide) (by decide)
          refine lv_aload_n hx hb dX8_judge_45 rfl (lv_at hl 0 rfl) ?_
          refine va_get (D := (dC, dI)) (ci := 8) (v := .ref a0_15) (C := RX8) (T := TX8) (N := 40) hx hb hts zi_X8_judge_8 hown hK hP 0 rfl rfl 15 (by decide) (hts (.fieldLink RX8 20 "WaxTurnsModel" "\x72" "[I") (List.mem_cons_of_mem _ (List.mem_append_left _ (List.mem_of_getElem? (i := 1) rfl)))) (fun _ h9 => h9) rfl dX8_judge_46 ?_
          refine lv_bipush (v := 9) hx hb dX8_judge_49 zk_bipush_9 ?_
          refine va_iald hx hb hK hP 1 0 rfl rfl (by unfold vp_in; decide +kernel) dX8_judge_51 ?_
          refine lv_topi (fun x51 ex51 => ?_)
          have bx51 : (0 : Int) ≤ x51.toInt ∧ x51.toInt ≤ 8 := by rw [ex51]; exact ai_rd bfa0_15.2.2.2.2.2.2.2.1 zq2 zq3 (by decide) (by decide) (by decide)
          refine lv_aload_n hx hb dX8_judge_52 rfl (lv_at hl 0 rfl) ?_
          refine va_get (D := (dC, dI)) (ci := 8) (v := .ref a0_15) (C := RX8) (T := TX8) (N := 40) hx hb hts zi_X8_judge_8 hown hK hP 0 rfl rfl 15 (by decide) (hts (.fieldLink RX8 20 "WaxTurnsModel" "\x72" "[I") (List.mem_cons_of_mem _ (List.mem_append_left _ (List.mem_of_getElem? (i := 1) rfl)))) (fun _ h9 => h9) rfl dX8_judge_53 ?_
          refine lv_bipush (v := 36) hx hb dX8_judge_56 zk_bipush_36 ?_
          refine lv_iconst (v := 2) hx hb dX8_judge_58 zk_iconst_2 ?_
          refine lv_iload_n hx hb dX8_judge_59 rfl (lv_at hl 1 rfl) ?_
          refine lv_imul hx hb dX8_judge_60 ?_
          refine lv_topi (fun x60 ex60 => ?_)
          have qx60 : x60.toInt = (2 : Int32).toInt * j19l1.toInt ∧ (0 : Int) ≤ x60.toInt ∧ x60.toInt ≤ 10 := ai_mul ex60 ⟨zq12, zq13⟩ ⟨bj19l1_l, u27f_j19l1⟩ (by decide) (by decide) zq181
          have wx60 : x60.toInt = 2 * j19l1.toInt := qx60.1
          refine lv_iadd hx hb dX8_judge_61 ?_
          refine lv_topi (fun x61 ex61 => ?_)
          have qx61 : x61.toInt = (36 : Int32).toInt + x60.toInt := ai_add ex61 ⟨zq182, zq183⟩ ⟨qx60.2.1, qx60.2.2⟩ (by decide) (by decide)
          have bx61 : (36 : Int) ≤ x61.toInt ∧ x61.toInt ≤ 46 := ⟨by rw [qx61]; exact Int.add_le_add zq182 qx60.2.1, by rw [qx61]; exact Int.add_le_add zq183 qx60.2.2⟩
          have wx61 : x61.toInt = 36 + x60.toInt := qx61
          refine lv_iconst (v := 1) hx hb dX8_judge_62 zk_iconst_1 ?_
          refine lv_iadd hx hb dX8_judge_63 ?_
          refine lv_topi (fun x63 ex63 => ?_)
          have qx63 : x63.toInt = x61.toInt + (1 : Int32).toInt := ai_add ex63 ⟨bx61.1, bx61.2⟩ ⟨zq1, zq0⟩ (by decide) (by decide)
          have bx63 : (37 : Int) ≤ x63.toInt ∧ x63.toInt ≤ 47 := ⟨by rw [qx63]; exact Int.add_le_add bx61.1 zq1, by rw [qx63]; exact Int.add_le_add bx61.2 zq0⟩
          have wx63 : x63.toInt = x61.toInt + 1 := qx63
          refine va_iald hx hb hK hP 1 0 rfl rfl (ai_in bx63.1 bx63.2 (by decide) (by decide)) dX8_judge_64 ?_
          refine lv_topi (fun x64 ex64 => ?_)
          have bx64 : (0 : Int) ≤ x64.toInt ∧ x64.toInt ≤ 999 := by rw [ex64]; exact ai_rd bfa0_15.2.2.2.2.2.2.2.2.2.2 bx63.1 bx63.2 (by decide) (by decide) (by decide)
          refine lv_aload_n hx hb dX8_judge_65 rfl (lv_at hl 0 rfl) ?_
          refine va_get (D := (dC, dI)) (ci := 8) (v := .ref a0_15) (C := RX8) (T := TX8) (N := 40) hx hb hts zi_X8_judge_8 hown hK hP 0 rfl rfl 15 (by decide) (hts (.fieldLink RX8 20 "WaxTurnsModel" "\x72" "[I") (List.mem_cons_of_mem _ (List.mem_append_left _ (List.mem_of_getElem? (i := 1) rfl)))) (fun _ h9 => h9) rfl dX8_judge_66 ?_
          refine lv_iconst (v := 1) hx hb dX8_judge_69 zk_iconst_1 ?_
          refine va_iald hx hb hK hP 1 0 rfl rfl (by unfold vp_in; decide +kernel) dX8_judge_70 ?_
          refine lv_topi (fun x70 ex70 => ?_)
          have bx70 : (1 : Int) ≤ x70.toInt ∧ x70.toInt ≤ 20 := by rw [ex70]; exact ai_rd bfa0_15.2.1 zq1 zq0 (by decide) (by decide) (by decide)
          refine lv_idiv hx hb dX8_judge_71 (ai_nz bx70.1 (by decide)) ?_
          refine lv_topi (fun x71 ex71 => ?_)
          have qx71 := ai_div ex71 ⟨bx64.1, bx64.2⟩ (Int.lt_of_lt_of_le zq19 bx70.1)
          refine zc_cutc (wc := [(a0, .inr (8, [Value.int v1na0_0, a0g_1, a0g_2, a0g_3, a0g_4, a0g_5, a0g_6, a0g_7, a0g_8, a0g_9, a0g_10, Value.int v1na0_11, a0g_12, a0g_13, Value.int a0_14, Value.ref a0_15, a0g_16, a0g_17, a0g_18, a0g_19, a0g_20, a0g_21, a0g_22, a0g_23, a0g_24, a0g_25, a0g_26, a0g_27, a0g_28, a0g_29, a0g_30, a0g_31, a0g_32, a0g_33, Value.ref a0_34, a0g_35, a0g_36, a0g_37, a0g_38, a0g_39])), (a0_34, .inl (ka0_34, 9, .inl (j19a0_34_a))), (a0_15, .inl (ka0_15, 156, .inl (fa0_15)))]) hP hD hS hA [0, 2, 1] (by decide +kernel) rfl (fun hPc hDc hFc hCc => ?_)
          have hKc := hK.sub (tys' := [(ka0_34, .int), (ka0_15, .int)]) [1, 0] rfl
          refine va_calli (va_runV (As := [.int x37, .int x44, .int x51, .int x71]) (rest := []) ⟨hx, hb, hml, hown, hts⟩ (c_X8_turnBy l dC dI H.size a0 x37 x44 x51 x71 (Value.int v1na0_0) a0g_1 a0g_2 a0g_3 a0g_4 a0g_5 a0g_6 a0g_7 a0g_8 a0g_9 a0g_10 (Value.int v1na0_11) a0g_12 a0g_13 (Value.int a0_14) a0g_16 a0g_17 a0g_18 a0g_19 a0g_20 a0g_21 a0g_22 a0g_23 a0g_24 a0g_25 a0g_26 a0g_27 a0g_28 a0g_29 a0g_30 a0g_31 a0g_32 a0g_33 a0g_35 a0g_36 a0g_37 a0g_38 a0g_39 a0_15 a0_34 ka0_34 j19a0_34_a ka0_15 fa0_15 bx37.1 (Int.le_trans bx37.2 zq189) bx44.1 bx44.2 bx51.1 bx51.2 qx71.2.1 qx71.2.2 bfa0_15) (cwV 4 hts gX8_judge_X8_turnBy rfl rfl rfl zd_X8_turnBy ⟨Nat.le_of_ble_eq_true rfl, Nat.le_of_ble_eq_true rfl⟩) ⟨ax_blind (fun _ _ _ _ _ => trivial), zr_8 hKc hPc (q0 := 0) rfl, ax_pre hPc hKc hDc (fun _ _ => trivial)⟩ rfl rfl hl.1 rfl (lv_room (Nat.le_of_ble_eq_true rfl)) dX8_judge_72 ⟨Nat.le_of_ble_eq_true rfl, Nat.le_of_ble_eq_true rfl⟩) hS (fun q _ h => hFc q h) hFc (fun r72 u t H locs ht hvm hw => zx_1 (fun v72nfa0_34 hB hz1 hk1 hS1 => zo hB ht hS1 (fun hP1 hK1 hD1 hS => ?_)))
          refine zc_backc (w := [(a0, .inr (8, [Value.int v1na0_0, a0g_1, a0g_2, a0g_3, a0g_4, a0g_5, a0g_6, a0g_7, a0g_8, a0g_9, a0g_10, Value.int v1na0_11, a0g_12, a0g_13, Value.int a0_14, Value.ref a0_15, a0g_16, a0g_17, a0g_18, a0g_19, a0g_20, a0g_21, a0g_22, a0g_23, a0g_24, a0g_25, a0g_26, a0g_27, a0g_28, a0g_29, a0g_30, a0g_31, a0g_32, a0g_33, Value.ref a0_34, a0g_35, a0g_36, a0g_37, a0g_38, a0g_39])), (a0_15, .inl (ka0_15, 156, .inl (fa0_15))), (a0_34, .inl (ka0_34, 9, .inl (v72nfa0_34)))]) hP hD hCc hk1 hFc hP1 hD1 [.inr 0, .inr 2, .inr 1] (by decide +kernel) rfl (fun hP hD => ?_)
          rcases hw with hw
          · obtain ⟨⟨lr72, ur72⟩, mr72⟩ := hw
            refine lv_aload_n hx hb dX8_judge_75 rfl (lv_at hl 0 rfl) ?_
            refine va_get (D := (dC, dI)) (ci := 8) (v := .ref a0_15) (C := RX8) (T := TX8) (N := 40) hx hb hts zi_X8_judge_8 hown hK hP 0 rfl rfl 15 (by decide) (hts (.fieldLink RX8 20 "WaxTurnsModel" "\x72" "[I") (List.mem_cons_of_mem _ (List.mem_append_left _ (List.mem_of_getElem? (i := 1) rfl)))) (fun _ h9 => h9) rfl dX8_judge_76 ?_
            refine lv_bipush (v := 36) hx hb dX8_judge_79 zk_bipush_36 ?_
            refine lv_iconst (v := 2) hx hb dX8_judge_81 zk_iconst_2 ?_
            refine lv_iload_n hx hb dX8_judge_82 rfl (lv_at hl 1 rfl) ?_
            refine lv_imul hx hb dX8_judge_83 ?_
            refine ax_ti x60 ex60.symm ?_
            refine lv_iadd hx hb dX8_judge_84 ?_
            refine ax_ti x61 ex61.symm ?_
            refine va_iald hx hb hK hP 1 0 rfl rfl (ai_in bx61.1 bx61.2 (by decide) (by decide)) dX8_judge_85 ?_
            refine lv_topi (fun x85 ex85 => ?_)
            have bx85 : (0 : Int) ≤ x85.toInt ∧ x85.toInt ≤ 999 := by rw [ex85]; exact ai_rd bfa0_15.2.2.2.2.2.2.2.2.2.2 bx61.1 bx61.2 (by decide) (by decide) (by decide)
            refine lv_icmp_eq (tgt := 91) hx hb dX8_judge_86 (by decide) (fun c86 => ?_) (fun c86 => ?_)
            · have gc86 := ai_eq c86
              have u86t_r72 : r72.toInt ≤ (8 : Int) := ur72
              have l86t_r72 : (0 : Int) ≤ r72.toInt := lr72
              have u86t_x85 : x85.toInt ≤ (8 : Int) := Int.le_trans (Int.le_of_eq gc86.symm) ur72
              have l86t_x85 : (0 : Int) ≤ x85.toInt := bx85.1
              obtain ⟨x91, ex91⟩ : ∃ y : Int32, y = j19l1 + Int32.ofInt 1 := ⟨_, rfl⟩
              have qx91 : x91.toInt = j19l1.toInt + 1 := ai_inc ex91 (by decide) (by decide) u27f_j19l1 (by decide)
              have bx91 : (1 : Int) ≤ x91.toInt ∧ x91.toInt ≤ 6 := ⟨by rw [qx91]; exact Int.add_le_add bj19l1_l (Int.le_refl _), by rw [qx91]; exact Int.add_le_add u27f_j19l1 (Int.le_refl _)⟩
              refine lv_iinc (v := x91) (lv' := [(1, .int x91), (0, .ref a0)]) hx hb dX8_judge_91 hl (k := 1) rfl ex91.symm (by decide) rfl (fun ls hl => ?_)
              refine lv_goto (tgt := 19) hx hb dX8_judge_94 (by decide) ?_
              exact (hK0 _ _ _).mp (ih19 x91 v72nfa0_34 _ _ _ (by first | exact zg_s hm19 qx91 | (have h0 := qx91; omega)) (Int.le_trans zq4 bx91.1) bx91.2 hP hD hS (lv_sub hl [1, 0] rfl))
            · have gc86 := ai_ne c86
              refine lv_iload_n hx hb dX8_judge_89 rfl (lv_at hl 1 rfl) ?_
              exact W.iret (v := j19l1) hx hb hr (fun t ht hW => ⟨⟨j19l1, (), rfl, ⟨(Int.le_trans zq75 bj19l1_l), u27f_j19l1⟩, v1na0_0, v1na0_11, v72nfa0_34, by rw [ht]; exact hP, va_K.moved hW.alike hK, hD⟩, hS.F ht⟩) hS.2.2 dX8_judge_90
    exact (hK0 _ _ _).mp (J19 7 0 fa0_34 _ _ _ (by first | decide +kernel | (have h1 : (0 : Int) ≤ (0 : Int32).toInt := zq5; have h2 : (0 : Int32).toInt ≤ (0 : Int) := zq6; omega)) zq5 (Int.le_trans zq6 zq17) hP hD hS (lv_sub hl [1, 0] rfl))
  · have gc8 := ai_eq c8
    have u8f_a0_14 : a0_14.toInt ≤ (0 : Int) := Int.le_trans (Int.le_of_eq gc8) zq6
    have l8f_a0_14 : (1 : Int) ≤ a0_14.toInt := ba0_14_l
    exact absurd (Int.le_trans l8f_a0_14 u8f_a0_14) (by decide)

set_option maxHeartbeats 4000000 in
set_option maxRecDepth 100000 in
theorem c_X8_lawsLike (l : Launch) (dC : Nat → ClassId) (dI : Nat → Nat → Nat) (sz : Nat) (a0 : Nat) (a0_0 : Int32) (a0g_1 a0g_2 a0g_3 a0g_4 a0g_5 a0g_6 a0g_7 a0g_8 a0g_9 a0g_10 a0g_12 a0g_13 a0g_16 a0g_17 a0g_18 a0g_19 a0g_20 a0g_21 a0g_22 a0g_23 a0g_24 a0g_25 a0g_26 a0g_27 a0g_28 a0g_29 a0g_30 a0g_31 a0g_32 a0g_33 a0g_35 a0g_36 a0g_37 a0g_38 a0g_39 : Value) (a0_11 : Int32) (a0_14 : Int32) (a0_15 : Nat) (a0_34 : Nat) (ka0_15 : ClassId) (fa0_15 : Nat → Int32) (ka0_34 : ClassId) (fa0_34 : Nat → Int32) (ba0_14_l : (1 : Int) ≤ a0_14.toInt) (ba0_14_u : a0_14.toInt ≤ (1 : Int)) (bfa0_15 : ((∀ k : Nat, 0 ≤ k → k ≤ 0 → (2 : Int) ≤ (fa0_15 k).toInt ∧ (fa0_15 k).toInt ≤ 9) ∧ (∀ k : Nat, 1 ≤ k → k ≤ 1 → (1 : Int) ≤ (fa0_15 k).toInt ∧ (fa0_15 k).toInt ≤ 20) ∧ (∀ k : Nat, 2 ≤ k → k ≤ 2 → (0 : Int) ≤ (fa0_15 k).toInt ∧ (fa0_15 k).toInt ≤ 8) ∧ (∀ k : Nat, 3 ≤ k → k ≤ 3 → (0 : Int) ≤ (fa0_15 k).toInt ∧ (fa0_15 k).toInt ≤ 100) ∧ (∀ k : Nat, 4 ≤ k → k ≤ 4 → (0 : Int) ≤ (fa0_15 k).toInt ∧ (fa0_15 k).toInt ≤ 9) ∧ (∀ k : Nat, 5 ≤ k → k ≤ 5 → (0 : Int) ≤ (fa0_15 k).toInt ∧ (fa0_15 k).toInt ≤ 3) ∧ (∀ k : Nat, 6 ≤ k → k ≤ 6 → (0 : Int) ≤ (fa0_15 k).toInt ∧ (fa0_15 k).toInt ≤ 6) ∧ (∀ k : Nat, 7 ≤ k → k ≤ 9 → (0 : Int) ≤ (fa0_15 k).toInt ∧ (fa0_15 k).toInt ≤ 8) ∧ (∀ k : Nat, 12 ≤ k → k ≤ 29 → (0 : Int) ≤ (fa0_15 k).toInt ∧ (fa0_15 k).toInt ≤ 20) ∧ (∀ k : Nat, 30 ≤ k → k ≤ 35 → (0 : Int) ≤ (fa0_15 k).toInt ∧ (fa0_15 k).toInt ≤ 8) ∧ (∀ k : Nat, 36 ≤ k → k ≤ 47 → (0 : Int) ≤ (fa0_15 k).toInt ∧ (fa0_15 k).toInt ≤ 999))) : zm l yX8_lawsLike wsX8_lawsLike ({ frames := 2, cells := 0, slots := 0, locals := 50 }) [.ref a0] dC dI sz [(a0, .inr (8, [Value.int a0_0, a0g_1, a0g_2, a0g_3, a0g_4, a0g_5, a0g_6, a0g_7, a0g_8, a0g_9, a0g_10, Value.int a0_11, a0g_12, a0g_13, Value.int a0_14, Value.ref a0_15, a0g_16, a0g_17, a0g_18, a0g_19, a0g_20, a0g_21, a0g_22, a0g_23, a0g_24, a0g_25, a0g_26, a0g_27, a0g_28, a0g_29, a0g_30, a0g_31, a0g_32, a0g_33, Value.ref a0_34, a0g_35, a0g_36, a0g_37, a0g_38, a0g_39])), (a0_15, .inl (ka0_15, 156, .inl (fa0_15))), (a0_34, .inl (ka0_34, 9, .inl (fa0_34)))] [(ka0_15, .int), (ka0_34, .int)] (fun A _ => True) (fun A => va_Qi (fun (r : Int32) (_ : Unit) => True) (fun (_ : Unit) (t : State) => ∃ na0_0 : Int32, ∃ na0_11 : Int32, ∃ nfa0_34 : Nat → Int32, ax_B dC dI A [(a0, .inr (8, [Value.int na0_0, a0g_1, a0g_2, a0g_3, a0g_4, a0g_5, a0g_6, a0g_7, a0g_8, a0g_9, a0g_10, Value.int na0_11, a0g_12, a0g_13, Value.int a0_14, Value.ref a0_15, a0g_16, a0g_17, a0g_18, a0g_19, a0g_20, a0g_21, a0g_22, a0g_23, a0g_24, a0g_25, a0g_26, a0g_27, a0g_28, a0g_29, a0g_30, a0g_31, a0g_32, a0g_33, Value.ref a0_34, a0g_35, a0g_36, a0g_37, a0g_38, a0g_39])), (a0_15, .inl (ka0_15, 156, .inl (fa0_15))), (a0_34, .inl (ka0_34, 9, .inl (nfa0_34)))] [(ka0_15, .int), (ka0_34, .int)] t) A) := by
  refine zh (cc := cX8_lawsLike) (maxL := 5) (ret := (some .int)) zn_RX8 rfl (Nat.le_of_ble_eq_true rfl) (fun p e s m below meth c A ls hx hb hml hr hts (hown : s.vm.findClass RX8 = some m.cls) hlocks hA hS hP hK hD hE (hl : lv_has ls 5 [(0, .ref a0)]) => ?_)
  refine ai_open (fun K hK0 => ?_)
  refine (hK0 _ _ _).mpr ?_
  refine lv_aload_n hx hb dX8_lawsLike_0 rfl (lv_at hl 0 rfl) ?_
  refine va_callv (va_runV (As := []) (rest := []) ⟨hx, hb, hml, hown, hts⟩ (c_X8_good l dC dI s.heap.size a0 a0_0 a0g_1 a0g_2 a0g_3 a0g_4 a0g_5 a0g_6 a0g_7 a0g_8 a0g_9 a0g_10 a0g_12 a0g_13 (Value.int a0_14) (Value.ref a0_15) a0g_16 a0g_17 a0g_18 a0g_19 a0g_20 a0g_21 a0g_22 a0g_23 a0g_24 a0g_25 a0g_26 a0g_27 a0g_28 a0g_29 a0g_30 a0g_31 a0g_32 a0g_33 (Value.ref a0_34) a0g_35 a0g_36 a0g_37 a0g_38 a0g_39 a0_11 ) (cwV 0 hts gX8_lawsLike_X8_good rfl rfl rfl zd_X8_good ⟨Nat.le_of_ble_eq_true rfl, Nat.le_of_ble_eq_true rfl⟩) ⟨ax_blind (fun _ _ _ _ _ => trivial), zr_8 (zp_K hK) (zp_P1 hP) (q0 := 0) rfl, ax_pre (zp_P1 hP) (zp_K hK) (zp_D1 hD) (fun _ _ => trivial)⟩ rfl rfl hl.1 rfl (lv_room (Nat.le_of_ble_eq_true rfl)) dX8_lawsLike_1 ⟨Nat.le_of_ble_eq_true rfl, Nat.le_of_ble_eq_true rfl⟩) hS (fun q _ h => zp_F1 hD hS hA q h) (zp_F1 hD hS hA) (fun u t H locs ht hvm hw => zx_2 (fun v1na0_0 v1na0_11 hB hz1 hk1 hS1 => zo1 hB ht hP hD hk1 (zp_F1 hD hS hA) hS1 (fun hP hK1 hD hS => ?_)))
  refine lv_aload_n hx hb dX8_lawsLike_4 rfl (lv_at hl 0 rfl) ?_
  refine va_get (D := (dC, dI)) (ci := 8) (v := .int a0_14) (C := RX8) (T := TX8) (N := 40) hx hb hts zi_X8_lawsLike_8 hown hK hP 0 rfl rfl 14 (by decide) (hts (.fieldLink RX8 173 "WaxTurnsModel" "hasGallery" "Z") (zm_X8_lawsLike_r1 (List.mem_of_getElem? (i := 0) rfl))) (fun _ h9 => h9) rfl dX8_lawsLike_5 ?_
  refine lv_if_ne (tgt := 17) hx hb dX8_lawsLike_8 (by decide) (fun c8 => ?_) (fun c8 => ?_)
  · have gc8 := ai_ne c8
    refine lv_iconst (v := 0) hx hb dX8_lawsLike_17 zk_iconst_0 ?_
    refine lv_istore_n (lv' := [(1, .int 0), (0, .ref a0)]) hx hb dX8_lawsLike_18 rfl hl (by decide) rfl (fun ls hl => ?_)
    refine lv_iconst (v := 0) hx hb dX8_lawsLike_19 zk_iconst_0 ?_
    refine lv_istore_n (lv' := [(2, .int 0), (1, .int 0), (0, .ref a0)]) hx hb dX8_lawsLike_20 rfl hl (by decide) rfl (fun ls hl => ?_)
    have J21 : ∀ (n : Nat) (j21l2 : Int32) (j21l1 : Int32) (j21a0_34_a : Nat → Int32) (H : Heap) (locs : List Loc) (ls : Array Slot), (730 : Int) - j21l2.toInt ≤ (n : Int) → (0 : Int) ≤ j21l2.toInt → j21l2.toInt ≤ (729 : Int) → va_P (dC, dI) vwCl [(a0, .inr (8, [Value.int v1na0_0, a0g_1, a0g_2, a0g_3, a0g_4, a0g_5, a0g_6, a0g_7, a0g_8, a0g_9, a0g_10, Value.int v1na0_11, a0g_12, a0g_13, Value.int a0_14, Value.ref a0_15, a0g_16, a0g_17, a0g_18, a0g_19, a0g_20, a0g_21, a0g_22, a0g_23, a0g_24, a0g_25, a0g_26, a0g_27, a0g_28, a0g_29, a0g_30, a0g_31, a0g_32, a0g_33, Value.ref a0_34, a0g_35, a0g_36, a0g_37, a0g_38, a0g_39])), (a0_15, .inl (ka0_15, 156, .inl (fa0_15))), (a0_34, .inl (ka0_34, 9, .inl (j21a0_34_a)))] H → va_D A [(a0, .inr (8, [Value.int v1na0_0, a0g_1, a0g_2, a0g_3, a0g_4, a0g_5, a0g_6, a0g_7, a0g_8, a0g_9, a0g_10, Value.int v1na0_11, a0g_12, a0g_13, Value.int a0_14, Value.ref a0_15, a0g_16, a0g_17, a0g_18, a0g_19, a0g_20, a0g_21, a0g_22, a0g_23, a0g_24, a0g_25, a0g_26, a0g_27, a0g_28, a0g_29, a0g_30, a0g_31, a0g_32, a0g_33, Value.ref a0_34, a0g_35, a0g_36, a0g_37, a0g_38, a0g_39])), (a0_15, .inl (ka0_15, 156, .inl (fa0_15))), (a0_34, .inl (ka0_34, 9, .inl (j21a0_34_a)))] → va_S A s.heap H locs → lv_has ls 5 [(0, .ref a0), (1, .int j21l1), (2, .int j21l2)] → K H locs (F0 m 21 ls []) := by
      intro n
      induction n with
      | zero =>
        intro j21l2 j21l1 j21a0_34_a H locs ls hm bj21l2_l bj21l2_u hP hD hS hl
        first | exact zg_0 hm bj21l2_u (by decide) | (have h8 := ai_min j21l2; have h9 := ai_max j21l2; exact absurd hm (by omega))
      | succ n ih21 =>
        intro j21l2 j21l1 j21a0_34_a H locs ls hm bj21l2_l bj21l2_u hP hD hS hl
        refine (hK0 _ _ _).mpr ?_
        have hm21 := hm
        refine lv_iload_n hx hb dX8_lawsLike_21 rfl (lv_at hl 2 rfl) ?_
        refine lv_aload_n hx hb dX8_lawsLike_22 rfl (lv_at hl 0 rfl) ?_
        have hKc := hK.sub (tys' := [(ka0_15, .int)]) [0] rfl
        refine va_calli (va_runV (As := []) (rest := [.int j21l2]) ⟨hx, hb, hml, hown, hts⟩ (c_X8_codes l dC dI H.size a0 (Value.int v1na0_0) a0g_1 a0g_2 a0g_3 a0g_4 a0g_5 a0g_6 a0g_7 a0g_8 a0g_9 a0g_10 (Value.int v1na0_11) a0g_12 a0g_13 (Value.int a0_14) a0g_16 a0g_17 a0g_18 a0g_19 a0g_20 a0g_21 a0g_22 a0g_23 a0g_24 a0g_25 a0g_26 a0g_27 a0g_28 a0g_29 a0g_30 a0g_31 a0g_32 a0g_33 (Value.ref a0_34) a0g_35 a0g_36 a0g_37 a0g_38 a0g_39 a0_15 ka0_15 fa0_15 bfa0_15) (cwV 0 hts gX8_lawsLike_X8_codes rfl rfl rfl zd_X8_codes ⟨Nat.le_of_ble_eq_true rfl, Nat.le_of_ble_eq_true rfl⟩) ⟨ax_blind (fun _ _ _ _ _ => trivial), zr_8 hKc (zp_P2 hP) (q0 := 0) rfl, ax_pre (zp_P2 hP) hKc (zp_D2 hD) (fun _ _ => trivial)⟩ rfl rfl hl.1 rfl (lv_room (Nat.le_of_ble_eq_true rfl)) dX8_lawsLike_23 ⟨Nat.le_of_ble_eq_true rfl, Nat.le_of_ble_eq_true rfl⟩) hS (fun q _ h => zp_F2 hD hS hA q h) (zp_F2 hD hS hA) (fun r23 u t H locs ht hvm hw hB hz1 hk1 hS1 => zo2 hB ht hP hD hk1 (zp_F2 hD hS hA) hS1 (fun hP hK1 hD hS => ?_))
        have hw : (8 : Int) ≤ r23.toInt ∧ r23.toInt ≤ (729 : Int) := hw
        obtain ⟨h23_0, h23_1⟩ := hw
        refine lv_icmp_ge (tgt := 112) hx hb dX8_lawsLike_26 (by decide) (fun c26 => ?_) (fun c26 => ?_)
        · have gc26 := ai_le c26
          have u26t_r23 : r23.toInt ≤ (729 : Int) := h23_1
          have l26t_j21l2 : (8 : Int) ≤ j21l2.toInt := Int.le_trans h23_0 gc26
          refine lv_iload_n hx hb dX8_lawsLike_112 rfl (lv_at hl 1 rfl) ?_
          exact W.iret (v := j21l1) hx hb hr (fun t ht hW => ⟨⟨j21l1, (), rfl, trivial, v1na0_0, v1na0_11, j21a0_34_a, by rw [ht]; exact hP, va_K.moved hW.alike hK, hD⟩, hS.F ht⟩) hS.2.2 dX8_lawsLike_113
        · have gc26 := ai_nle c26
          have u26f_j21l2 : j21l2.toInt ≤ (728 : Int) := ai_lthi gc26 h23_1
          have l26f_r23 : (8 : Int) ≤ r23.toInt := h23_0
          refine lv_iconst (v := 1) hx hb dX8_lawsLike_29 zk_iconst_1 ?_
          refine lv_istore_n (lv' := [(3, .int 1), (0, .ref a0), (1, .int j21l1), (2, .int j21l2)]) hx hb dX8_lawsLike_30 rfl hl (by decide) rfl (fun ls hl => ?_)
          refine lv_iconst (v := 0) hx hb dX8_lawsLike_31 zk_iconst_0 ?_
          refine lv_istore (lv' := [(4, .int 0), (3, .int 1), (0, .ref a0), (1, .int j21l1), (2, .int j21l2)]) hx hb dX8_lawsLike_32 hl (by decide) rfl (fun ls hl => ?_)
          have J34 : ∀ (n : Nat) (j34l4 : Int32) (j34l3 : Int32) (j34a0_34_a : Nat → Int32) (H : Heap) (locs : List Loc) (ls : Array Slot), (21 : Int) - j34l4.toInt ≤ (n : Int) → (0 : Int) ≤ j34l4.toInt → j34l4.toInt ≤ (20 : Int) → (0 : Int) ≤ j34l3.toInt → j34l3.toInt ≤ (1 : Int) → va_P (dC, dI) vwCl [(a0, .inr (8, [Value.int v1na0_0, a0g_1, a0g_2, a0g_3, a0g_4, a0g_5, a0g_6, a0g_7, a0g_8, a0g_9, a0g_10, Value.int v1na0_11, a0g_12, a0g_13, Value.int a0_14, Value.ref a0_15, a0g_16, a0g_17, a0g_18, a0g_19, a0g_20, a0g_21, a0g_22, a0g_23, a0g_24, a0g_25, a0g_26, a0g_27, a0g_28, a0g_29, a0g_30, a0g_31, a0g_32, a0g_33, Value.ref a0_34, a0g_35, a0g_36, a0g_37, a0g_38, a0g_39])), (a0_15, .inl (ka0_15, 156, .inl (fa0_15))), (a0_34, .inl (ka0_34, 9, .inl (j34a0_34_a)))] H → va_D A [(a0, .inr (8, [Value.int v1na0_0, a0g_1, a0g_2, a0g_3, a0g_4, a0g_5, a0g_6, a0g_7, a0g_8, a0g_9, a0g_10, Value.int v1na0_11, a0g_12, a0g_13, Value.int a0_14, Value.ref a0_15, a0g_16, a0g_17, a0g_18, a0g_19, a0g_20, a0g_21, a0g_22, a0g_23, a0g_24, a0g_25, a0g_26, a0g_27, a0g_28, a0g_29, a0g_30, a0g_31, a0g_32, a0g_33, Value.ref a0_34, a0g_35, a0g_36, a0g_37, a0g_38, a0g_39])), (a0_15, .inl (ka0_15, 156, .inl (fa0_15))), (a0_34, .inl (ka0_34, 9, .inl (j34a0_34_a)))] → va_S A s.heap H locs → lv_has ls 5 [(0, .ref a0), (1, .int j21l1), (2, .int j21l2), (3, .int j34l3), (4, .int j34l4)] → K H locs (F0 m 34 ls []) := by
            intro n
            induction n with
            | zero =>
              intro j34l4 j34l3 j34a0_34_a H locs ls hm bj34l4_l bj34l4_u bj34l3_l bj34l3_u hP hD hS hl
              first | exact zg_0 hm bj34l4_u (by decide) | (have h8 := ai_min j34l4; have h9 := ai_max j34l4; exact absurd hm (by omega))
            | succ n ih34 =>
              intro j34l4 j34l3 j34a0_34_a H locs ls hm bj34l4_l bj34l4_u bj34l3_l bj34l3_u hP hD hS hl
              refine (hK0 _ _ _).mpr ?_
              have hm34 := hm
              refine lv_iload hx hb dX8_lawsLike_34 (lv_at hl 4 rfl) ?_
              refine lv_bipush (v := 20) hx hb dX8_lawsLike_36 zk_bipush_20 ?_
              have J94 : ∀ (H : Heap) (locs : List Loc) (ls : Array Slot), va_P (dC, dI) vwCl [(a0, .inr (8, [Value.int v1na0_0, a0g_1, a0g_2, a0g_3, a0g_4, a0g_5, a0g_6, a0g_7, a0g_8, a0g_9, a0g_10, Value.int v1na0_11, a0g_12, a0g_13, Value.int a0_14, Value.ref a0_15, a0g_16, a0g_17, a0g_18, a0g_19, a0g_20, a0g_21, a0g_22, a0g_23, a0g_24, a0g_25, a0g_26, a0g_27, a0g_28, a0g_29, a0g_30, a0g_31, a0g_32, a0g_33, Value.ref a0_34, a0g_35, a0g_36, a0g_37, a0g_38, a0g_39])), (a0_15, .inl (ka0_15, 156, .inl (fa0_15))), (a0_34, .inl (ka0_34, 9, .inl (j34a0_34_a)))] H → va_D A [(a0, .inr (8, [Value.int v1na0_0, a0g_1, a0g_2, a0g_3, a0g_4, a0g_5, a0g_6, a0g_7, a0g_8, a0g_9, a0g_10, Value.int v1na0_11, a0g_12, a0g_13, Value.int a0_14, Value.ref a0_15, a0g_16, a0g_17, a0g_18, a0g_19, a0g_20, a0g_21, a0g_22, a0g_23, a0g_24, a0g_25, a0g_26, a0g_27, a0g_28, a0g_29, a0g_30, a0g_31, a0g_32, a0g_33, Value.ref a0_34, a0g_35, a0g_36, a0g_37, a0g_38, a0g_39])), (a0_15, .inl (ka0_15, 156, .inl (fa0_15))), (a0_34, .inl (ka0_34, 9, .inl (j34a0_34_a)))] → va_S A s.heap H locs → lv_has ls 5 [(0, .ref a0), (1, .int j21l1), (2, .int j21l2), (3, .int j34l3)] → K H locs (F0 m 94 ls []) := by
                intro  H locs ls   hP hD hS hl
                refine (hK0 _ _ _).mpr ?_
                refine lv_iload_n hx hb dX8_lawsLike_94 rfl (lv_at hl 1 rfl) ?_
                refine lv_iload_n hx hb dX8_lawsLike_95 rfl (lv_at hl 3 rfl) ?_
                have J104 : ∀ (j104s0 : Int32) (H : Heap) (locs : List Loc) (ls : Array Slot), (0 : Int) ≤ j104s0.toInt → j104s0.toInt ≤ (1 : Int) → va_P (dC, dI) vwCl [(a0, .inr (8, [Value.int v1na0_0, a0g_1, a0g_2, a0g_3, a0g_4, a0g_5, a0g_6, a0g_7, a0g_8, a0g_9, a0g_10, Value.int v1na0_11, a0g_12, a0g_13, Value.int a0_14, Value.ref a0_15, a0g_16, a0g_17, a0g_18, a0g_19, a0g_20, a0g_21, a0g_22, a0g_23, a0g_24, a0g_25, a0g_26, a0g_27, a0g_28, a0g_29, a0g_30, a0g_31, a0g_32, a0g_33, Value.ref a0_34, a0g_35, a0g_36, a0g_37, a0g_38, a0g_39])), (a0_15, .inl (ka0_15, 156, .inl (fa0_15))), (a0_34, .inl (ka0_34, 9, .inl (j34a0_34_a)))] H → va_D A [(a0, .inr (8, [Value.int v1na0_0, a0g_1, a0g_2, a0g_3, a0g_4, a0g_5, a0g_6, a0g_7, a0g_8, a0g_9, a0g_10, Value.int v1na0_11, a0g_12, a0g_13, Value.int a0_14, Value.ref a0_15, a0g_16, a0g_17, a0g_18, a0g_19, a0g_20, a0g_21, a0g_22, a0g_23, a0g_24, a0g_25, a0g_26, a0g_27, a0g_28, a0g_29, a0g_30, a0g_31, a0g_32, a0g_33, Value.ref a0_34, a0g_35, a0g_36, a0g_37, a0g_38, a0g_39])), (a0_15, .inl (ka0_15, 156, .inl (fa0_15))), (a0_34, .inl (ka0_34, 9, .inl (j34a0_34_a)))] → va_S A s.heap H locs → lv_has ls 5 [(0, .ref a0), (2, .int j21l2)] → K H locs (F0 m 104 ls [.int j104s0, .int j21l1]) := by
                  intro j104s0 H locs ls  bj104s0_l bj104s0_u hP hD hS hl
                  refine (hK0 _ _ _).mpr ?_
                  refine lv_iadd hx hb dX8_lawsLike_104 ?_
                  refine lv_topi (fun x104 ex104 => ?_)
                  refine lv_istore_n (lv' := [(1, .int x104), (0, .ref a0), (2, .int j21l2)]) hx hb dX8_lawsLike_105 rfl hl (by decide) rfl (fun ls hl => ?_)
                  obtain ⟨x106, ex106⟩ : ∃ y : Int32, y = j21l2 + Int32.ofInt 1 := ⟨_, rfl⟩
                  have qx106 : x106.toInt = j21l2.toInt + 1 := ai_inc ex106 (by decide) (by decide) u26f_j21l2 (by decide)
                  have bx106 : (1 : Int) ≤ x106.toInt ∧ x106.toInt ≤ 729 := ⟨by rw [qx106]; exact Int.add_le_add bj21l2_l (Int.le_refl _), by rw [qx106]; exact Int.add_le_add u26f_j21l2 (Int.le_refl _)⟩
                  refine lv_iinc (v := x106) (lv' := [(2, .int x106), (1, .int x104), (0, .ref a0)]) hx hb dX8_lawsLike_106 hl (k := 2) rfl ex106.symm (by decide) rfl (fun ls hl => ?_)
                  refine lv_goto (tgt := 21) hx hb dX8_lawsLike_109 (by decide) ?_
                  exact (hK0 _ _ _).mp (ih21 x106 x104 j34a0_34_a _ _ _ (by first | exact zg_s hm21 qx106 | (have h0 := qx106; omega)) (Int.le_trans zq4 bx106.1) bx106.2 hP hD hS (lv_sub hl [2, 1, 0] rfl))
                refine lv_if_eq (tgt := 103) hx hb dX8_lawsLike_96 (by decide) (fun c96 => ?_) (fun c96 => ?_)
                · have gc96 := ai_eq c96
                  have u96t_j34l3 : j34l3.toInt ≤ (0 : Int) := Int.le_trans (Int.le_of_eq gc96) zq6
                  have l96t_j34l3 : (0 : Int) ≤ j34l3.toInt := bj34l3_l
                  refine lv_iconst (v := 0) hx hb dX8_lawsLike_103 zk_iconst_0 ?_
                  exact (hK0 _ _ _).mp (J104 0 _ _ _  zq5 (Int.le_trans zq6 zq4) hP hD hS (lv_sub hl [0, 2] rfl))
                · have gc96 := ai_ne c96
                  have l96f_j34l3 : (1 : Int) ≤ j34l3.toInt := (by first | exact zg_l bj34l3_l gc96 (by decide) (by decide) | (have h1 := bj34l3_l; have h2 : (0 : Int32).toInt = 0 := (by decide); rw [h2] at gc96; omega))
                  refine lv_iconst (v := 1) hx hb dX8_lawsLike_99 zk_iconst_1 ?_
                  refine lv_goto (tgt := 104) hx hb dX8_lawsLike_100 (by decide) ?_
                  exact (hK0 _ _ _).mp (J104 1 _ _ _  (Int.le_trans zq4 zq1) zq0 hP hD hS (lv_sub hl [0, 2] rfl))
              refine lv_icmp_ge (tgt := 94) hx hb dX8_lawsLike_38 (by decide) (fun c38 => ?_) (fun c38 => ?_)
              · have gc38 := ai_le c38
                have l38t_j34l4 : (20 : Int) ≤ j34l4.toInt := Int.le_trans zq153 gc38
                exact (hK0 _ _ _).mp (J94  _ _ _   hP hD hS (lv_sub hl [0, 1, 2, 3] rfl))
              · have gc38 := ai_nle c38
                have u38f_j34l4 : j34l4.toInt ≤ (19 : Int) := ai_lthi gc38 zq154
                refine lv_iload_n hx hb dX8_lawsLike_41 rfl (lv_at hl 3 rfl) ?_
                refine lv_if_eq (tgt := 94) hx hb dX8_lawsLike_42 (by decide) (fun c42 => ?_) (fun c42 => ?_)
                · have gc42 := ai_eq c42
                  have u42t_j34l3 : j34l3.toInt ≤ (0 : Int) := Int.le_trans (Int.le_of_eq gc42) zq6
                  have l42t_j34l3 : (0 : Int) ≤ j34l3.toInt := bj34l3_l
                  exact (hK0 _ _ _).mp (J94  _ _ _   hP hD hS (lv_sub hl [0, 1, 2, 3] rfl))
                · have gc42 := ai_ne c42
                  have l42f_j34l3 : (1 : Int) ≤ j34l3.toInt := (by first | exact zg_l bj34l3_l gc42 (by decide) (by decide) | (have h1 := bj34l3_l; have h2 : (0 : Int32).toInt = 0 := (by decide); rw [h2] at gc42; omega))
                  refine lv_aload_n hx hb dX8_lawsLike_45 rfl (lv_at hl 0 rfl) ?_
                  refine lv_iload_n hx hb dX8_lawsLike_46 rfl (lv_at hl 2 rfl) ?_
                  refine lv_iload hx hb dX8_lawsLike_47 (lv_at hl 4 rfl) ?_
                  have hKc := hK.sub (tys' := [(ka0_15, .int), (ka0_34, .int)]) [0, 1] rfl
                  refine va_calli (va_runV (As := [.int j21l2, .int j34l4]) (rest := []) ⟨hx, hb, hml, hown, hts⟩ (c_X8_byCode l dC dI H.size a0 j21l2 j34l4 (Value.int v1na0_0) a0g_1 a0g_2 a0g_3 a0g_4 a0g_5 a0g_6 a0g_7 a0g_8 a0g_9 a0g_10 (Value.int v1na0_11) a0g_12 a0g_13 (Value.int a0_14) a0g_16 a0g_17 a0g_18 a0g_19 a0g_20 a0g_21 a0g_22 a0g_23 a0g_24 a0g_25 a0g_26 a0g_27 a0g_28 a0g_29 a0g_30 a0g_31 a0g_32 a0g_33 a0g_35 a0g_36 a0g_37 a0g_38 a0g_39 a0_15 a0_34 ka0_15 fa0_15 ka0_34 j34a0_34_a bj21l2_l u26f_j21l2 bj34l4_l (Int.le_trans u38f_j34l4 zq190) bfa0_15) (cwV 2 hts gX8_lawsLike_X8_byCode rfl rfl rfl zd_X8_byCode ⟨Nat.le_of_ble_eq_true rfl, Nat.le_of_ble_eq_true rfl⟩) ⟨ax_blind (fun _ _ _ _ _ => trivial), zr_8 hKc (zp_P3 hP) (q0 := 0) rfl, ax_pre (zp_P3 hP) hKc (zp_D3 hD) (fun _ _ => trivial)⟩ rfl rfl hl.1 rfl (lv_room (Nat.le_of_ble_eq_true rfl)) dX8_lawsLike_49 ⟨Nat.le_of_ble_eq_true rfl, Nat.le_of_ble_eq_true rfl⟩) hS (fun q _ h => zp_F3 hD hS hA q h) (zp_F3 hD hS hA) (fun r49 u t H locs ht hvm hw => zx_1 (fun v49nfa0_34 hB hz1 hk1 hS1 => zo3 hB ht hP hD hk1 (zp_F3 hD hS hA) hS1 (fun hP hK1 hD hS => ?_)))
                  rcases hw with hw
                  · obtain ⟨⟨lr49, ur49⟩, mr49⟩ := hw
                    refine lv_aload_n hx hb dX8_lawsLike_52 rfl (lv_at hl 0 rfl) ?_
                    refine lv_aload_n hx hb dX8_lawsLike_53 rfl (lv_at hl 0 rfl) ?_
                    refine va_get (D := (dC, dI)) (ci := 8) (v := .ref a0_15) (C := RX8) (T := TX8) (N := 40) hx hb hts zi_X8_lawsLike_8 hown hK hP 0 rfl rfl 15 (by decide) (hts (.fieldLink RX8 20 "WaxTurnsModel" "\x72" "[I") (zm_X8_lawsLike_r1 (List.mem_of_getElem? (i := 1) rfl))) (fun _ h9 => h9) rfl dX8_lawsLike_54 ?_
                    refine lv_bipush (v := 7) hx hb dX8_lawsLike_57 zk_bipush_7 ?_
                    refine va_iald hx hb hK hP 1 0 rfl rfl (by unfold vp_in; decide +kernel) dX8_lawsLike_59 ?_
                    refine lv_topi (fun x59 ex59 => ?_)
                    have bx59 : (0 : Int) ≤ x59.toInt ∧ x59.toInt ≤ 8 := by rw [ex59]; exact ai_rd bfa0_15.2.2.2.2.2.2.2.1 zq114 zq115 (by decide) (by decide) (by decide)
                    refine lv_aload_n hx hb dX8_lawsLike_60 rfl (lv_at hl 0 rfl) ?_
                    refine va_get (D := (dC, dI)) (ci := 8) (v := .ref a0_15) (C := RX8) (T := TX8) (N := 40) hx hb hts zi_X8_lawsLike_8 hown hK hP 0 rfl rfl 15 (by decide) (hts (.fieldLink RX8 20 "WaxTurnsModel" "\x72" "[I") (zm_X8_lawsLike_r1 (List.mem_of_getElem? (i := 1) rfl))) (fun _ h9 => h9) rfl dX8_lawsLike_61 ?_
                    refine lv_bipush (v := 8) hx hb dX8_lawsLike_64 zk_bipush_8 ?_
                    refine va_iald hx hb hK hP 1 0 rfl rfl (by unfold vp_in; decide +kernel) dX8_lawsLike_66 ?_
                    refine lv_topi (fun x66 ex66 => ?_)
                    have bx66 : (0 : Int) ≤ x66.toInt ∧ x66.toInt ≤ 8 := by rw [ex66]; exact ai_rd bfa0_15.2.2.2.2.2.2.2.1 zq116 zq28 (by decide) (by decide) (by decide)
                    refine lv_aload_n hx hb dX8_lawsLike_67 rfl (lv_at hl 0 rfl) ?_
                    refine va_get (D := (dC, dI)) (ci := 8) (v := .ref a0_15) (C := RX8) (T := TX8) (N := 40) hx hb hts zi_X8_lawsLike_8 hown hK hP 0 rfl rfl 15 (by decide) (hts (.fieldLink RX8 20 "WaxTurnsModel" "\x72" "[I") (zm_X8_lawsLike_r1 (List.mem_of_getElem? (i := 1) rfl))) (fun _ h9 => h9) rfl dX8_lawsLike_68 ?_
                    refine lv_bipush (v := 9) hx hb dX8_lawsLike_71 zk_bipush_9 ?_
                    refine va_iald hx hb hK hP 1 0 rfl rfl (by unfold vp_in; decide +kernel) dX8_lawsLike_73 ?_
                    refine lv_topi (fun x73 ex73 => ?_)
                    have bx73 : (0 : Int) ≤ x73.toInt ∧ x73.toInt ≤ 8 := by rw [ex73]; exact ai_rd bfa0_15.2.2.2.2.2.2.2.1 zq2 zq3 (by decide) (by decide) (by decide)
                    refine lv_iload hx hb dX8_lawsLike_74 (lv_at hl 4 rfl) ?_
                    refine zc_cutc (wc := [(a0, .inr (8, [Value.int v1na0_0, a0g_1, a0g_2, a0g_3, a0g_4, a0g_5, a0g_6, a0g_7, a0g_8, a0g_9, a0g_10, Value.int v1na0_11, a0g_12, a0g_13, Value.int a0_14, Value.ref a0_15, a0g_16, a0g_17, a0g_18, a0g_19, a0g_20, a0g_21, a0g_22, a0g_23, a0g_24, a0g_25, a0g_26, a0g_27, a0g_28, a0g_29, a0g_30, a0g_31, a0g_32, a0g_33, Value.ref a0_34, a0g_35, a0g_36, a0g_37, a0g_38, a0g_39])), (a0_34, .inl (ka0_34, 9, .inl (v49nfa0_34))), (a0_15, .inl (ka0_15, 156, .inl (fa0_15)))]) hP hD hS hA [0, 2, 1] (by decide +kernel) rfl (fun hPc hDc hFc hCc => ?_)
                    have hKc := hK.sub (tys' := [(ka0_34, .int), (ka0_15, .int)]) [1, 0] rfl
                    refine va_calli (va_runV (As := [.int x59, .int x66, .int x73, .int j34l4]) (rest := [.int r49]) ⟨hx, hb, hml, hown, hts⟩ (c_X8_turnBy l dC dI H.size a0 x59 x66 x73 j34l4 (Value.int v1na0_0) a0g_1 a0g_2 a0g_3 a0g_4 a0g_5 a0g_6 a0g_7 a0g_8 a0g_9 a0g_10 (Value.int v1na0_11) a0g_12 a0g_13 (Value.int a0_14) a0g_16 a0g_17 a0g_18 a0g_19 a0g_20 a0g_21 a0g_22 a0g_23 a0g_24 a0g_25 a0g_26 a0g_27 a0g_28 a0g_29 a0g_30 a0g_31 a0g_32 a0g_33 a0g_35 a0g_36 a0g_37 a0g_38 a0g_39 a0_15 a0_34 ka0_34 v49nfa0_34 ka0_15 fa0_15 bx59.1 (Int.le_trans bx59.2 zq189) bx66.1 bx66.2 bx73.1 bx73.2 bj34l4_l (Int.le_trans u38f_j34l4 zq190) bfa0_15) (cwV 4 hts gX8_lawsLike_X8_turnBy rfl rfl rfl zd_X8_turnBy ⟨Nat.le_of_ble_eq_true rfl, Nat.le_of_ble_eq_true rfl⟩) ⟨ax_blind (fun _ _ _ _ _ => trivial), zr_8 hKc hPc (q0 := 0) rfl, ax_pre hPc hKc hDc (fun _ _ => trivial)⟩ rfl rfl hl.1 rfl (lv_room (Nat.le_of_ble_eq_true rfl)) dX8_lawsLike_76 ⟨Nat.le_of_ble_eq_true rfl, Nat.le_of_ble_eq_true rfl⟩) hS (fun q _ h => hFc q h) hFc (fun r76 u t H locs ht hvm hw => zx_1 (fun v76nfa0_34 hB hz1 hk1 hS1 => zo hB ht hS1 (fun hP1 hK1 hD1 hS => ?_)))
                    refine zc_backc (w := [(a0, .inr (8, [Value.int v1na0_0, a0g_1, a0g_2, a0g_3, a0g_4, a0g_5, a0g_6, a0g_7, a0g_8, a0g_9, a0g_10, Value.int v1na0_11, a0g_12, a0g_13, Value.int a0_14, Value.ref a0_15, a0g_16, a0g_17, a0g_18, a0g_19, a0g_20, a0g_21, a0g_22, a0g_23, a0g_24, a0g_25, a0g_26, a0g_27, a0g_28, a0g_29, a0g_30, a0g_31, a0g_32, a0g_33, Value.ref a0_34, a0g_35, a0g_36, a0g_37, a0g_38, a0g_39])), (a0_15, .inl (ka0_15, 156, .inl (fa0_15))), (a0_34, .inl (ka0_34, 9, .inl (v76nfa0_34)))]) hP hD hCc hk1 hFc hP1 hD1 [.inr 0, .inr 2, .inr 1] (by decide +kernel) rfl (fun hP hD => ?_)
                    rcases hw with hw
                    · obtain ⟨⟨lr76, ur76⟩, mr76⟩ := hw
                      have J87 : ∀ (j87s0 : Int32) (H : Heap) (locs : List Loc) (ls : Array Slot), (0 : Int) ≤ j87s0.toInt → j87s0.toInt ≤ (1 : Int) → va_P (dC, dI) vwCl [(a0, .inr (8, [Value.int v1na0_0, a0g_1, a0g_2, a0g_3, a0g_4, a0g_5, a0g_6, a0g_7, a0g_8, a0g_9, a0g_10, Value.int v1na0_11, a0g_12, a0g_13, Value.int a0_14, Value.ref a0_15, a0g_16, a0g_17, a0g_18, a0g_19, a0g_20, a0g_21, a0g_22, a0g_23, a0g_24, a0g_25, a0g_26, a0g_27, a0g_28, a0g_29, a0g_30, a0g_31, a0g_32, a0g_33, Value.ref a0_34, a0g_35, a0g_36, a0g_37, a0g_38, a0g_39])), (a0_15, .inl (ka0_15, 156, .inl (fa0_15))), (a0_34, .inl (ka0_34, 9, .inl (v76nfa0_34)))] H → va_D A [(a0, .inr (8, [Value.int v1na0_0, a0g_1, a0g_2, a0g_3, a0g_4, a0g_5, a0g_6, a0g_7, a0g_8, a0g_9, a0g_10, Value.int v1na0_11, a0g_12, a0g_13, Value.int a0_14, Value.ref a0_15, a0g_16, a0g_17, a0g_18, a0g_19, a0g_20, a0g_21, a0g_22, a0g_23, a0g_24, a0g_25, a0g_26, a0g_27, a0g_28, a0g_29, a0g_30, a0g_31, a0g_32, a0g_33, Value.ref a0_34, a0g_35, a0g_36, a0g_37, a0g_38, a0g_39])), (a0_15, .inl (ka0_15, 156, .inl (fa0_15))), (a0_34, .inl (ka0_34, 9, .inl (v76nfa0_34)))] → va_S A s.heap H locs → lv_has ls 5 [(0, .ref a0), (1, .int j21l1), (2, .int j21l2), (4, .int j34l4)] → K H locs (F0 m 87 ls [.int j87s0]) := by
                        intro j87s0 H locs ls  bj87s0_l bj87s0_u hP hD hS hl
                        refine (hK0 _ _ _).mpr ?_
                        refine lv_istore_n (lv' := [(3, .int j87s0), (0, .ref a0), (1, .int j21l1), (2, .int j21l2), (4, .int j34l4)]) hx hb dX8_lawsLike_87 rfl hl (by decide) rfl (fun ls hl => ?_)
                        obtain ⟨x88, ex88⟩ : ∃ y : Int32, y = j34l4 + Int32.ofInt 1 := ⟨_, rfl⟩
                        have qx88 : x88.toInt = j34l4.toInt + 1 := ai_inc ex88 (by decide) (by decide) u38f_j34l4 (by decide)
                        have bx88 : (1 : Int) ≤ x88.toInt ∧ x88.toInt ≤ 20 := ⟨by rw [qx88]; exact Int.add_le_add bj34l4_l (Int.le_refl _), by rw [qx88]; exact Int.add_le_add u38f_j34l4 (Int.le_refl _)⟩
                        refine lv_iinc (v := x88) (lv' := [(4, .int x88), (3, .int j87s0), (0, .ref a0), (1, .int j21l1), (2, .int j21l2)]) hx hb dX8_lawsLike_88 hl (k := 4) rfl ex88.symm (by decide) rfl (fun ls hl => ?_)
                        refine lv_goto (tgt := 34) hx hb dX8_lawsLike_91 (by decide) ?_
                        exact (hK0 _ _ _).mp (ih34 x88 j87s0 v76nfa0_34 _ _ _ (by first | exact zg_s hm34 qx88 | (have h0 := qx88; omega)) (Int.le_trans zq4 bx88.1) bx88.2 bj87s0_l bj87s0_u hP hD hS (lv_sub hl [2, 3, 4, 1, 0] rfl))
                      refine lv_icmp_ne (tgt := 86) hx hb dX8_lawsLike_79 (by decide) (fun c79 => ?_) (fun c79 => ?_)
                      · have gc79 := ai_ne c79
                        refine lv_iconst (v := 0) hx hb dX8_lawsLike_86 zk_iconst_0 ?_
                        exact (hK0 _ _ _).mp (J87 0 _ _ _  zq5 (Int.le_trans zq6 zq4) hP hD hS (lv_sub hl [0, 1, 2, 4] rfl))
                      · have gc79 := ai_eq c79
                        have u79f_r49 : r49.toInt ≤ (8 : Int) := ur49
                        have l79f_r49 : (0 : Int) ≤ r49.toInt := lr49
                        have u79f_r76 : r76.toInt ≤ (8 : Int) := ur76
                        have l79f_r76 : (0 : Int) ≤ r76.toInt := lr76
                        refine lv_iconst (v := 1) hx hb dX8_lawsLike_82 zk_iconst_1 ?_
                        refine lv_goto (tgt := 87) hx hb dX8_lawsLike_83 (by decide) ?_
                        exact (hK0 _ _ _).mp (J87 1 _ _ _  (Int.le_trans zq4 zq1) zq0 hP hD hS (lv_sub hl [0, 1, 2, 4] rfl))
          exact (hK0 _ _ _).mp (J34 21 0 1 j21a0_34_a _ _ _ (by first | decide +kernel | (have h1 : (0 : Int) ≤ (0 : Int32).toInt := zq5; have h2 : (0 : Int32).toInt ≤ (0 : Int) := zq6; omega)) zq5 (Int.le_trans zq6 zq191) (Int.le_trans zq4 zq1) zq0 hP hD hS (lv_sub hl [2, 3, 4, 1, 0] rfl))
    exact (hK0 _ _ _).mp (J21 730 0 0 fa0_34 _ _ _ (by first | decide +kernel | (have h1 : (0 : Int) ≤ (0 : Int32).toInt := zq5; have h2 : (0 : Int32).toInt ≤ (0 : Int) := zq6; omega)) zq5 (Int.le_trans zq6 zq35) hP hD hS (lv_sub hl [2, 1, 0] rfl))
  · have gc8 := ai_eq c8
    have u8f_a0_14 : a0_14.toInt ≤ (0 : Int) := Int.le_trans (Int.le_of_eq gc8) zq6
    have l8f_a0_14 : (1 : Int) ≤ a0_14.toInt := ba0_14_l
    exact absurd (Int.le_trans l8f_a0_14 u8f_a0_14) (by decide)

set_option maxHeartbeats 4000000 in
set_option maxRecDepth 100000 in
theorem c_X8_isFigureR (l : Launch) (dC : Nat → ClassId) (dI : Nat → Nat → Nat) (sz : Nat) (a0 : Nat) (a1 : Int32) (a0g_0 a0g_1 a0g_2 a0g_3 a0g_4 a0g_5 a0g_6 a0g_7 a0g_8 a0g_9 a0g_10 a0g_11 a0g_12 a0g_13 a0g_16 a0g_17 a0g_18 a0g_19 a0g_20 a0g_21 a0g_22 a0g_23 a0g_24 a0g_25 a0g_26 a0g_27 a0g_28 a0g_29 a0g_30 a0g_31 a0g_32 a0g_33 a0g_34 a0g_35 a0g_36 a0g_37 a0g_38 a0g_39 : Value) (a0_14 : Int32) (a0_15 : Nat) (ka0_15 : ClassId) (fa0_15 : Nat → Int32) (ba0_14_l : (1 : Int) ≤ a0_14.toInt) (ba0_14_u : a0_14.toInt ≤ (1 : Int)) (bfa0_15 : ((∀ k : Nat, 0 ≤ k → k ≤ 0 → (2 : Int) ≤ (fa0_15 k).toInt ∧ (fa0_15 k).toInt ≤ 9) ∧ (∀ k : Nat, 1 ≤ k → k ≤ 1 → (1 : Int) ≤ (fa0_15 k).toInt ∧ (fa0_15 k).toInt ≤ 20) ∧ (∀ k : Nat, 2 ≤ k → k ≤ 2 → (0 : Int) ≤ (fa0_15 k).toInt ∧ (fa0_15 k).toInt ≤ 8) ∧ (∀ k : Nat, 3 ≤ k → k ≤ 3 → (0 : Int) ≤ (fa0_15 k).toInt ∧ (fa0_15 k).toInt ≤ 100) ∧ (∀ k : Nat, 4 ≤ k → k ≤ 4 → (0 : Int) ≤ (fa0_15 k).toInt ∧ (fa0_15 k).toInt ≤ 9) ∧ (∀ k : Nat, 5 ≤ k → k ≤ 5 → (0 : Int) ≤ (fa0_15 k).toInt ∧ (fa0_15 k).toInt ≤ 3) ∧ (∀ k : Nat, 6 ≤ k → k ≤ 6 → (0 : Int) ≤ (fa0_15 k).toInt ∧ (fa0_15 k).toInt ≤ 6) ∧ (∀ k : Nat, 7 ≤ k → k ≤ 9 → (0 : Int) ≤ (fa0_15 k).toInt ∧ (fa0_15 k).toInt ≤ 8) ∧ (∀ k : Nat, 12 ≤ k → k ≤ 29 → (0 : Int) ≤ (fa0_15 k).toInt ∧ (fa0_15 k).toInt ≤ 20) ∧ (∀ k : Nat, 30 ≤ k → k ≤ 35 → (0 : Int) ≤ (fa0_15 k).toInt ∧ (fa0_15 k).toInt ≤ 8) ∧ (∀ k : Nat, 36 ≤ k → k ≤ 47 → (0 : Int) ≤ (fa0_15 k).toInt ∧ (fa0_15 k).toInt ≤ 999))) : zm l yX8_isFigure wsX8_isFigure ({ frames := 1, cells := 0, slots := 0, locals := 22 }) [.ref a0, .int a1] dC dI sz [(a0, .inr (8, [a0g_0, a0g_1, a0g_2, a0g_3, a0g_4, a0g_5, a0g_6, a0g_7, a0g_8, a0g_9, a0g_10, a0g_11, a0g_12, a0g_13, Value.int a0_14, Value.ref a0_15, a0g_16, a0g_17, a0g_18, a0g_19, a0g_20, a0g_21, a0g_22, a0g_23, a0g_24, a0g_25, a0g_26, a0g_27, a0g_28, a0g_29, a0g_30, a0g_31, a0g_32, a0g_33, a0g_34, a0g_35, a0g_36, a0g_37, a0g_38, a0g_39])), (a0_15, .inl (ka0_15, 156, .inl (fa0_15)))] [(ka0_15, .int)] (fun A _ => True) (fun A => va_Qi (fun (r : Int32) (_ : Unit) => (r = 1 ∧ (0 : Int) ≤ a1.toInt ∧ a1.toInt ≤ (8 : Int) ∧ a1.toInt < (fa0_15 0).toInt) ∨ r = 0) (fun (_ : Unit) (t : State) => ax_B dC dI A [(a0, .inr (8, [a0g_0, a0g_1, a0g_2, a0g_3, a0g_4, a0g_5, a0g_6, a0g_7, a0g_8, a0g_9, a0g_10, a0g_11, a0g_12, a0g_13, Value.int a0_14, Value.ref a0_15, a0g_16, a0g_17, a0g_18, a0g_19, a0g_20, a0g_21, a0g_22, a0g_23, a0g_24, a0g_25, a0g_26, a0g_27, a0g_28, a0g_29, a0g_30, a0g_31, a0g_32, a0g_33, a0g_34, a0g_35, a0g_36, a0g_37, a0g_38, a0g_39])), (a0_15, .inl (ka0_15, 156, .inl (fa0_15)))] [(ka0_15, .int)] t) A) := by
  refine zh (cc := cX8_isFigure) (maxL := 2) (ret := (some .boolean)) zn_RX8 rfl (Nat.le_of_ble_eq_true rfl) (fun p e s m below meth c A ls hx hb hml hr hts (hown : s.vm.findClass RX8 = some m.cls) hlocks hA hS hP hK hD hE (hl : lv_has ls 2 [(0, .ref a0), (1, .int a1)]) => ?_)
  refine lv_aload_n hx hb dX8_isFigure_0 rfl (lv_at hl 0 rfl) ?_
  refine va_get (D := (dC, dI)) (ci := 8) (v := .int a0_14) (C := RX8) (T := TX8) (N := 40) hx hb hts zi_X8_isFigure_8 hown hK hP 0 rfl rfl 14 (by decide) (hts (.fieldLink RX8 173 "WaxTurnsModel" "hasGallery" "Z") (List.mem_cons_of_mem _ (List.mem_append_left _ (List.mem_of_getElem? (i := 0) rfl)))) (fun _ h9 => h9) rfl dX8_isFigure_1 ?_
  refine lv_if_eq (tgt := 27) hx hb dX8_isFigure_4 (by decide) (fun c4 => ?_) (fun c4 => ?_)
  · have gc4 := ai_eq c4
    have u4t_a0_14 : a0_14.toInt ≤ (0 : Int) := Int.le_trans (Int.le_of_eq gc4) zq6
    have l4t_a0_14 : (1 : Int) ≤ a0_14.toInt := ba0_14_l
    exact absurd (Int.le_trans l4t_a0_14 u4t_a0_14) (by decide)
  · have gc4 := ai_ne c4
    refine lv_iload_n hx hb dX8_isFigure_7 rfl (lv_at hl 1 rfl) ?_
    refine lv_iconst (v := 0) hx hb dX8_isFigure_8 zk_iconst_0 ?_
    refine lv_aload_n hx hb dX8_isFigure_9 rfl (lv_at hl 0 rfl) ?_
    refine va_get (D := (dC, dI)) (ci := 8) (v := .ref a0_15) (C := RX8) (T := TX8) (N := 40) hx hb hts zi_X8_isFigure_8 hown hK hP 0 rfl rfl 15 (by decide) (hts (.fieldLink RX8 20 "WaxTurnsModel" "\x72" "[I") (List.mem_cons_of_mem _ (List.mem_append_left _ (List.mem_of_getElem? (i := 1) rfl)))) (fun _ h9 => h9) rfl dX8_isFigure_10 ?_
    refine lv_iconst (v := 0) hx hb dX8_isFigure_13 zk_iconst_0 ?_
    refine va_iald hx hb hK hP 1 0 rfl rfl (by unfold vp_in; decide +kernel) dX8_isFigure_14 ?_
    refine lv_topi (fun x14 ex14 => ?_)
    have bx14 : (2 : Int) ≤ x14.toInt ∧ x14.toInt ≤ 9 := by rw [ex14]; exact ai_rd bfa0_15.1 zq5 zq6 (by decide) (by decide) (by decide)
    refine lv_iconst (v := 1) hx hb dX8_isFigure_15 zk_iconst_1 ?_
    refine lv_isub hx hb dX8_isFigure_16 ?_
    refine lv_topi (fun x16 ex16 => ?_)
    have qx16 : x16.toInt = x14.toInt - (1 : Int32).toInt := ai_sub ex16 ⟨bx14.1, bx14.2⟩ ⟨zq1, zq0⟩ (by decide) (by decide)
    have bx16 : (1 : Int) ≤ x16.toInt ∧ x16.toInt ≤ 8 := ⟨by rw [qx16]; exact Int.sub_le_sub bx14.1 zq0, by rw [qx16]; exact Int.sub_le_sub bx14.2 zq1⟩
    have wx16 : x16.toInt = x14.toInt - 1 := qx16
    refine va_calli (va_runS (As := [.int a1, .int 0, .int x16]) (rest := []) ⟨hx, hb, hml, hown, hts⟩ (c_X8_in l dC dI s.heap.size a1 0 x16 ) (va_cwS 3 hts gX8_isFigure_X8_in rfl rfl rfl zd_X8_in.2 ⟨Nat.le_of_ble_eq_true rfl, Nat.le_of_ble_eq_true rfl⟩) ⟨ax_blind (fun _ _ _ _ _ => trivial), ax_pre (zp_P0 hP) (zp_K hK) (zp_D0 hD) (fun _ _ => trivial)⟩ rfl rfl hl.1 rfl (lv_room (Nat.le_of_ble_eq_true rfl)) dX8_isFigure_17 ⟨Nat.le_of_ble_eq_true rfl, Nat.le_of_ble_eq_true rfl⟩) hS (fun q _ h => zp_F0 hD hS hA q h) (zp_F0 hD hS hA) (fun r17 u t H locs ht hvm hw hB hz1 hk1 hS1 => zo0 hB ht hP hD hk1 (zp_F0 hD hS hA) hS1 (fun hP hK1 hD hS => ?_))
    rcases hw with hw | hw
    · obtain ⟨hw, h17⟩ := hw
      subst hw
      have l17k0_a1 : (0 : Int) ≤ a1.toInt := Int.le_trans zq5 h17.1
      have u17k0_a1 : a1.toInt ≤ (8 : Int) := Int.le_trans h17.2 bx16.2
      have l17k0_x16 : (1 : Int) ≤ x16.toInt := bx16.1
      refine lv_if_eq (tgt := 27) hx hb dX8_isFigure_20 (by decide) (fun c20 => absurd c20 (by decide +kernel)) (fun _ => ?_)
      refine lv_iconst (v := 1) hx hb dX8_isFigure_23 zk_iconst_1 ?_
      refine lv_goto (tgt := 28) hx hb dX8_isFigure_24 (by decide) ?_
      exact W.zret (v := 1) hx hb hr rfl (fun t ht hW => ⟨⟨1, (), rfl, (Or.inl ⟨rfl, l17k0_a1, u17k0_a1, (by have h1 := h17.2; have h2 : x14.toInt = (fa0_15 0).toInt := (by rw [ex14]; rfl); omega)⟩), by rw [ht]; exact hP, va_K.moved hW.alike hK, hD⟩, hS.F ht⟩) hS.2.2 dX8_isFigure_28
    · obtain ⟨hw, h17⟩ := hw
      subst hw
      refine lv_if_eq (tgt := 27) hx hb dX8_isFigure_20 (by decide) (fun _ => ?_) (fun c20 => absurd (by decide +kernel) c20)
      refine lv_iconst (v := 0) hx hb dX8_isFigure_27 zk_iconst_0 ?_
      exact W.zret (v := 0) hx hb hr rfl (fun t ht hW => ⟨⟨0, (), rfl, (Or.inr rfl), by rw [ht]; exact hP, va_K.moved hW.alike hK, hD⟩, hS.F ht⟩) hS.2.2 dX8_isFigure_28

set_option maxHeartbeats 4000000 in
set_option maxRecDepth 100000 in
theorem c_X8_lawFor (l : Launch) (dC : Nat → ClassId) (dI : Nat → Nat → Nat) (sz : Nat) (a0 : Nat) (a1 : Int32) (a2 : Int32) (a0_0 : Int32) (a0g_1 a0g_2 a0g_3 a0g_4 a0g_5 a0g_6 a0g_7 a0g_8 a0g_9 a0g_10 a0g_12 a0g_13 a0g_16 a0g_17 a0g_18 a0g_19 a0g_20 a0g_21 a0g_22 a0g_23 a0g_24 a0g_25 a0g_26 a0g_27 a0g_28 a0g_29 a0g_30 a0g_31 a0g_32 a0g_33 a0g_35 a0g_36 a0g_37 a0g_38 a0g_39 : Value) (a0_11 : Int32) (a0_14 : Int32) (a0_15 : Nat) (a0_34 : Nat) (ka0_15 : ClassId) (fa0_15 : Nat → Int32) (ka0_34 : ClassId) (fa0_34 : Nat → Int32) (ba0_14_l : (1 : Int) ≤ a0_14.toInt) (ba0_14_u : a0_14.toInt ≤ (1 : Int)) (bfa0_15 : ((∀ k : Nat, 0 ≤ k → k ≤ 0 → (2 : Int) ≤ (fa0_15 k).toInt ∧ (fa0_15 k).toInt ≤ 9) ∧ (∀ k : Nat, 1 ≤ k → k ≤ 1 → (1 : Int) ≤ (fa0_15 k).toInt ∧ (fa0_15 k).toInt ≤ 20) ∧ (∀ k : Nat, 2 ≤ k → k ≤ 2 → (0 : Int) ≤ (fa0_15 k).toInt ∧ (fa0_15 k).toInt ≤ 8) ∧ (∀ k : Nat, 3 ≤ k → k ≤ 3 → (0 : Int) ≤ (fa0_15 k).toInt ∧ (fa0_15 k).toInt ≤ 100) ∧ (∀ k : Nat, 4 ≤ k → k ≤ 4 → (0 : Int) ≤ (fa0_15 k).toInt ∧ (fa0_15 k).toInt ≤ 9) ∧ (∀ k : Nat, 5 ≤ k → k ≤ 5 → (0 : Int) ≤ (fa0_15 k).toInt ∧ (fa0_15 k).toInt ≤ 3) ∧ (∀ k : Nat, 6 ≤ k → k ≤ 6 → (0 : Int) ≤ (fa0_15 k).toInt ∧ (fa0_15 k).toInt ≤ 6) ∧ (∀ k : Nat, 7 ≤ k → k ≤ 9 → (0 : Int) ≤ (fa0_15 k).toInt ∧ (fa0_15 k).toInt ≤ 8) ∧ (∀ k : Nat, 12 ≤ k → k ≤ 29 → (0 : Int) ≤ (fa0_15 k).toInt ∧ (fa0_15 k).toInt ≤ 20) ∧ (∀ k : Nat, 30 ≤ k → k ≤ 35 → (0 : Int) ≤ (fa0_15 k).toInt ∧ (fa0_15 k).toInt ≤ 8) ∧ (∀ k : Nat, 36 ≤ k → k ≤ 47 → (0 : Int) ≤ (fa0_15 k).toInt ∧ (fa0_15 k).toInt ≤ 999))) : zm l yX8_lawFor wsX8_lawFor ({ frames := 2, cells := 0, slots := 0, locals := 50 }) [.ref a0, .int a1, .int a2] dC dI sz [(a0, .inr (8, [Value.int a0_0, a0g_1, a0g_2, a0g_3, a0g_4, a0g_5, a0g_6, a0g_7, a0g_8, a0g_9, a0g_10, Value.int a0_11, a0g_12, a0g_13, Value.int a0_14, Value.ref a0_15, a0g_16, a0g_17, a0g_18, a0g_19, a0g_20, a0g_21, a0g_22, a0g_23, a0g_24, a0g_25, a0g_26, a0g_27, a0g_28, a0g_29, a0g_30, a0g_31, a0g_32, a0g_33, Value.ref a0_34, a0g_35, a0g_36, a0g_37, a0g_38, a0g_39])), (a0_15, .inl (ka0_15, 156, .inl (fa0_15))), (a0_34, .inl (ka0_34, 9, .inl (fa0_34)))] [(ka0_15, .int), (ka0_34, .int)] (fun A _ => True) (fun A => va_Qi (fun (r : Int32) (_ : Unit) => (-1 : Int) ≤ r.toInt ∧ r.toInt ≤ (72888 : Int)) (fun (_ : Unit) (t : State) => ∃ na0_0 : Int32, ∃ na0_11 : Int32, ∃ nfa0_34 : Nat → Int32, ax_B dC dI A [(a0, .inr (8, [Value.int na0_0, a0g_1, a0g_2, a0g_3, a0g_4, a0g_5, a0g_6, a0g_7, a0g_8, a0g_9, a0g_10, Value.int na0_11, a0g_12, a0g_13, Value.int a0_14, Value.ref a0_15, a0g_16, a0g_17, a0g_18, a0g_19, a0g_20, a0g_21, a0g_22, a0g_23, a0g_24, a0g_25, a0g_26, a0g_27, a0g_28, a0g_29, a0g_30, a0g_31, a0g_32, a0g_33, Value.ref a0_34, a0g_35, a0g_36, a0g_37, a0g_38, a0g_39])), (a0_15, .inl (ka0_15, 156, .inl (fa0_15))), (a0_34, .inl (ka0_34, 9, .inl (nfa0_34)))] [(ka0_15, .int), (ka0_34, .int)] t) A) := by
  refine zh (cc := cX8_lawFor) (maxL := 5) (ret := (some .int)) zn_RX8 rfl (Nat.le_of_ble_eq_true rfl) (fun p e s m below meth c A ls hx hb hml hr hts (hown : s.vm.findClass RX8 = some m.cls) hlocks hA hS hP hK hD hE (hl : lv_has ls 5 [(0, .ref a0), (1, .int a1), (2, .int a2)]) => ?_)
  refine ai_open (fun K hK0 => ?_)
  refine (hK0 _ _ _).mpr ?_
  refine lv_aload_n hx hb dX8_lawFor_0 rfl (lv_at hl 0 rfl) ?_
  refine va_callv (va_runV (As := []) (rest := []) ⟨hx, hb, hml, hown, hts⟩ (c_X8_good l dC dI s.heap.size a0 a0_0 a0g_1 a0g_2 a0g_3 a0g_4 a0g_5 a0g_6 a0g_7 a0g_8 a0g_9 a0g_10 a0g_12 a0g_13 (Value.int a0_14) (Value.ref a0_15) a0g_16 a0g_17 a0g_18 a0g_19 a0g_20 a0g_21 a0g_22 a0g_23 a0g_24 a0g_25 a0g_26 a0g_27 a0g_28 a0g_29 a0g_30 a0g_31 a0g_32 a0g_33 (Value.ref a0_34) a0g_35 a0g_36 a0g_37 a0g_38 a0g_39 a0_11 ) (cwV 0 hts gX8_lawFor_X8_good rfl rfl rfl zd_X8_good ⟨Nat.le_of_ble_eq_true rfl, Nat.le_of_ble_eq_true rfl⟩) ⟨ax_blind (fun _ _ _ _ _ => trivial), zr_8 (zp_K hK) (zp_P1 hP) (q0 := 0) rfl, ax_pre (zp_P1 hP) (zp_K hK) (zp_D1 hD) (fun _ _ => trivial)⟩ rfl rfl hl.1 rfl (lv_room (Nat.le_of_ble_eq_true rfl)) dX8_lawFor_1 ⟨Nat.le_of_ble_eq_true rfl, Nat.le_of_ble_eq_true rfl⟩) hS (fun q _ h => zp_F1 hD hS hA q h) (zp_F1 hD hS hA) (fun u t H locs ht hvm hw => zx_2 (fun v1na0_0 v1na0_11 hB hz1 hk1 hS1 => zo1 hB ht hP hD hk1 (zp_F1 hD hS hA) hS1 (fun hP hK1 hD hS => ?_)))
  refine lv_aload_n hx hb dX8_lawFor_4 rfl (lv_at hl 0 rfl) ?_
  refine lv_aload_n hx hb dX8_lawFor_5 rfl (lv_at hl 0 rfl) ?_
  refine lv_iload_n hx hb dX8_lawFor_6 rfl (lv_at hl 1 rfl) ?_
  have hKc := hK.sub (tys' := [(ka0_15, .int)]) [0] rfl
  refine va_calli (va_runV (As := [.int a1]) (rest := [.ref a0]) ⟨hx, hb, hml, hown, hts⟩ (c_X8_isFigureR l dC dI H.size a0 a1 (Value.int v1na0_0) a0g_1 a0g_2 a0g_3 a0g_4 a0g_5 a0g_6 a0g_7 a0g_8 a0g_9 a0g_10 (Value.int v1na0_11) a0g_12 a0g_13 a0g_16 a0g_17 a0g_18 a0g_19 a0g_20 a0g_21 a0g_22 a0g_23 a0g_24 a0g_25 a0g_26 a0g_27 a0g_28 a0g_29 a0g_30 a0g_31 a0g_32 a0g_33 (Value.ref a0_34) a0g_35 a0g_36 a0g_37 a0g_38 a0g_39 a0_14 a0_15 ka0_15 fa0_15 ba0_14_l ba0_14_u bfa0_15) (cwV 1 hts gX8_lawFor_X8_isFigure rfl rfl rfl zd_X8_isFigure ⟨Nat.le_of_ble_eq_true rfl, Nat.le_of_ble_eq_true rfl⟩) ⟨ax_blind (fun _ _ _ _ _ => trivial), zr_8 hKc (zp_P2 hP) (q0 := 0) rfl, ax_pre (zp_P2 hP) hKc (zp_D2 hD) (fun _ _ => trivial)⟩ rfl rfl hl.1 rfl (lv_room (Nat.le_of_ble_eq_true rfl)) dX8_lawFor_7 ⟨Nat.le_of_ble_eq_true rfl, Nat.le_of_ble_eq_true rfl⟩) hS (fun q _ h => zp_F2 hD hS hA q h) (zp_F2 hD hS hA) (fun r7 u t H locs ht hvm hw hB hz1 hk1 hS1 => zo2 hB ht hP hD hk1 (zp_F2 hD hS hA) hS1 (fun hP hK1 hD hS => ?_))
  rcases hw with hw | hw
  · obtain ⟨hw, h7⟩ := hw
    subst hw
    have l7k0_a1 : (0 : Int) ≤ a1.toInt := h7.1
    have u7k0_a1 : a1.toInt ≤ (8 : Int) := h7.2.1
    refine lv_iload_n hx hb dX8_lawFor_10 rfl (lv_at hl 2 rfl) ?_
    refine lv_iconst (v := 0) hx hb dX8_lawFor_11 zk_iconst_0 ?_
    refine lv_bipush (v := 99) hx hb dX8_lawFor_12 zk_bipush_99 ?_
    refine va_calli (va_runS (As := [.int a2, .int 0, .int 99]) (rest := [.int 1, .ref a0]) ⟨hx, hb, hml, hown, hts⟩ (c_X8_in l dC dI H.size a2 0 99 ) (va_cwS 3 hts gX8_lawFor_X8_in rfl rfl rfl zd_X8_in.2 ⟨Nat.le_of_ble_eq_true rfl, Nat.le_of_ble_eq_true rfl⟩) ⟨ax_blind (fun _ _ _ _ _ => trivial), ax_pre (zp_P0 hP) (zp_K hK) (zp_D0 hD) (fun _ _ => trivial)⟩ rfl rfl hl.1 rfl (lv_room (Nat.le_of_ble_eq_true rfl)) dX8_lawFor_14 ⟨Nat.le_of_ble_eq_true rfl, Nat.le_of_ble_eq_true rfl⟩) hS (fun q _ h => zp_F0 hD hS hA q h) (zp_F0 hD hS hA) (fun r14 u t H locs ht hvm hw hB hz1 hk1 hS1 => zo0 hB ht hP hD hk1 (zp_F0 hD hS hA) hS1 (fun hP hK1 hD hS => ?_))
    rcases hw with hw | hw
    · obtain ⟨hw, h14⟩ := hw
      subst hw
      have l14k0_a2 : (0 : Int) ≤ a2.toInt := Int.le_trans zq5 h14.1
      have u14k0_a2 : a2.toInt ≤ (99 : Int) := Int.le_trans h14.2 zq43
      refine va_calli (va_runV (As := [.int 1, .int 1]) (rest := []) ⟨hx, hb, hml, hown, hts⟩ (c_X8_whyB l dC dI H.size a0 1 1 (Value.int v1na0_0) a0g_1 a0g_2 a0g_3 a0g_4 a0g_5 a0g_6 a0g_7 a0g_8 a0g_9 a0g_10 (Value.int v1na0_11) a0g_12 a0g_13 (Value.int a0_14) (Value.ref a0_15) a0g_16 a0g_17 a0g_18 a0g_19 a0g_20 a0g_21 a0g_22 a0g_23 a0g_24 a0g_25 a0g_26 a0g_27 a0g_28 a0g_29 a0g_30 a0g_31 a0g_32 a0g_33 (Value.ref a0_34) a0g_35 a0g_36 a0g_37 a0g_38 a0g_39 (Int.le_trans zq4 zq1) zq0 (Int.le_trans zq4 zq1) zq0) (cwV 2 hts gX8_lawFor_X8_why rfl rfl rfl zd_X8_why ⟨Nat.le_of_ble_eq_true rfl, Nat.le_of_ble_eq_true rfl⟩) ⟨ax_blind (fun _ _ _ _ _ => trivial), zr_8 (zp_K hK) (zp_P1 hP) (q0 := 0) rfl, ax_pre (zp_P1 hP) (zp_K hK) (zp_D1 hD) (fun _ _ => trivial)⟩ rfl rfl hl.1 rfl (lv_room (Nat.le_of_ble_eq_true rfl)) dX8_lawFor_17 ⟨Nat.le_of_ble_eq_true rfl, Nat.le_of_ble_eq_true rfl⟩) hS (fun q _ h => zp_F1 hD hS hA q h) (zp_F1 hD hS hA) (fun r17 u t H locs ht hvm hw hB hz1 hk1 hS1 => zo1 hB ht hP hD hk1 (zp_F1 hD hS hA) hS1 (fun hP hK1 hD hS => ?_))
      rcases hw with hw | hw | hw
      · obtain ⟨hw, h17_0, h17_1, h17_2, h17_3⟩ := hw
        subst hw
        exact absurd h17_3 (by decide)
      · obtain ⟨hw, h17_0, h17_1⟩ := hw
        subst hw
        exact absurd h17_1 (by decide)
      · obtain ⟨hw, h17_0, h17_1, h17_2, h17_3⟩ := hw
        subst hw
        refine lv_istore_n (lv' := [(3, .int 0), (0, .ref a0), (1, .int a1), (2, .int a2)]) hx hb dX8_lawFor_20 rfl hl (by decide) rfl (fun ls hl => ?_)
        refine lv_iload_n hx hb dX8_lawFor_21 rfl (lv_at hl 0 rfl) ?_
        refine lv_if_eq (tgt := 31) hx hb dX8_lawFor_22 (by decide) (fun _ => ?_) (fun c22 => absurd (by decide +kernel) c22)
        refine lv_iconst (v := 0) hx hb dX8_lawFor_31 zk_iconst_0 ?_
        refine lv_istore (lv' := [(4, .int 0), (3, .int 0), (0, .ref a0), (1, .int a1), (2, .int a2)]) hx hb dX8_lawFor_32 hl (by decide) rfl (fun ls hl => ?_)
        have J34 : ∀ (n : Nat) (j34l4 : Int32) (j34a0_34_a : Nat → Int32) (H : Heap) (locs : List Loc) (ls : Array Slot), (99 : Int) - j34l4.toInt ≤ (n : Int) → (0 : Int) ≤ j34l4.toInt → j34l4.toInt ≤ (98 : Int) → (j34l4.toInt ≤ a1.toInt * (fa0_15 0).toInt + a1.toInt) → va_P (dC, dI) vwCl [(a0, .inr (8, [Value.int v1na0_0, a0g_1, a0g_2, a0g_3, a0g_4, a0g_5, a0g_6, a0g_7, a0g_8, a0g_9, a0g_10, Value.int v1na0_11, a0g_12, a0g_13, Value.int a0_14, Value.ref a0_15, a0g_16, a0g_17, a0g_18, a0g_19, a0g_20, a0g_21, a0g_22, a0g_23, a0g_24, a0g_25, a0g_26, a0g_27, a0g_28, a0g_29, a0g_30, a0g_31, a0g_32, a0g_33, Value.ref a0_34, a0g_35, a0g_36, a0g_37, a0g_38, a0g_39])), (a0_15, .inl (ka0_15, 156, .inl (fa0_15))), (a0_34, .inl (ka0_34, 9, .inl (j34a0_34_a)))] H → va_D A [(a0, .inr (8, [Value.int v1na0_0, a0g_1, a0g_2, a0g_3, a0g_4, a0g_5, a0g_6, a0g_7, a0g_8, a0g_9, a0g_10, Value.int v1na0_11, a0g_12, a0g_13, Value.int a0_14, Value.ref a0_15, a0g_16, a0g_17, a0g_18, a0g_19, a0g_20, a0g_21, a0g_22, a0g_23, a0g_24, a0g_25, a0g_26, a0g_27, a0g_28, a0g_29, a0g_30, a0g_31, a0g_32, a0g_33, Value.ref a0_34, a0g_35, a0g_36, a0g_37, a0g_38, a0g_39])), (a0_15, .inl (ka0_15, 156, .inl (fa0_15))), (a0_34, .inl (ka0_34, 9, .inl (j34a0_34_a)))] → va_S A s.heap H locs → lv_has ls 5 [(0, .ref a0), (1, .int a1), (2, .int a2), (4, .int j34l4)] → K H locs (F0 m 34 ls []) := by
          intro n
          induction n with
          | zero =>
            intro j34l4 j34a0_34_a H locs ls hm bj34l4_l bj34l4_u lf34 hP hD hS hl
            first | exact zg_0 hm bj34l4_u (by decide) | (have h8 := ai_min j34l4; have h9 := ai_max j34l4; exact absurd hm (by omega))
          | succ n ih34 =>
            intro j34l4 j34a0_34_a H locs ls hm bj34l4_l bj34l4_u lf34 hP hD hS hl
            refine (hK0 _ _ _).mpr ?_
            have hm34 := hm
            refine lv_aload_n hx hb dX8_lawFor_34 rfl (lv_at hl 0 rfl) ?_
            have u34z_j34l4 : j34l4.toInt ≤ (80 : Int) := lf_b lf34 l7k0_a1 u7k0_a1 (Int.le_trans (by decide) (bfa0_15.1 0 (Nat.le_refl 0) (Nat.le_refl 0)).1) (bfa0_15.1 0 (Nat.le_refl 0) (Nat.le_refl 0)).2
            refine lv_iload hx hb dX8_lawFor_35 (lv_at hl 3 rfl) ?_
            refine lv_iload_n hx hb dX8_lawFor_37 rfl (lv_at hl 2 rfl) ?_
            have hKc := hK.sub (tys' := [(ka0_15, .int), (ka0_34, .int)]) [0, 1] rfl
            refine va_calli (va_runV (As := [.int j34l4, .int a2]) (rest := []) ⟨hx, hb, hml, hown, hts⟩ (c_X8_byCode l dC dI H.size a0 j34l4 a2 (Value.int v1na0_0) a0g_1 a0g_2 a0g_3 a0g_4 a0g_5 a0g_6 a0g_7 a0g_8 a0g_9 a0g_10 (Value.int v1na0_11) a0g_12 a0g_13 (Value.int a0_14) a0g_16 a0g_17 a0g_18 a0g_19 a0g_20 a0g_21 a0g_22 a0g_23 a0g_24 a0g_25 a0g_26 a0g_27 a0g_28 a0g_29 a0g_30 a0g_31 a0g_32 a0g_33 a0g_35 a0g_36 a0g_37 a0g_38 a0g_39 a0_15 a0_34 ka0_15 fa0_15 ka0_34 j34a0_34_a bj34l4_l (Int.le_trans u34z_j34l4 zq192) l14k0_a2 (Int.le_trans u14k0_a2 zq186) bfa0_15) (cwV 2 hts gX8_lawFor_X8_byCode rfl rfl rfl zd_X8_byCode ⟨Nat.le_of_ble_eq_true rfl, Nat.le_of_ble_eq_true rfl⟩) ⟨ax_blind (fun _ _ _ _ _ => trivial), zr_8 hKc (zp_P3 hP) (q0 := 0) rfl, ax_pre (zp_P3 hP) hKc (zp_D3 hD) (fun _ _ => trivial)⟩ rfl rfl hl.1 rfl (lv_room (Nat.le_of_ble_eq_true rfl)) dX8_lawFor_38 ⟨Nat.le_of_ble_eq_true rfl, Nat.le_of_ble_eq_true rfl⟩) hS (fun q _ h => zp_F3 hD hS hA q h) (zp_F3 hD hS hA) (fun r38 u t H locs ht hvm hw => zx_1 (fun v38nfa0_34 hB hz1 hk1 hS1 => zo3 hB ht hP hD hk1 (zp_F3 hD hS hA) hS1 (fun hP hK1 hD hS => ?_)))
            rcases hw with hw
            · obtain ⟨⟨lr38, ur38⟩, mr38⟩ := hw
              refine lv_iload_n hx hb dX8_lawFor_41 rfl (lv_at hl 1 rfl) ?_
              refine lv_icmp_eq (tgt := 51) hx hb dX8_lawFor_42 (by decide) (fun c42 => ?_) (fun c42 => ?_)
              · have gc42 := ai_eq c42
                have u42t_r38 : r38.toInt ≤ (8 : Int) := ur38
                have l42t_r38 : (0 : Int) ≤ r38.toInt := lr38
                have u42t_a1 : a1.toInt ≤ (8 : Int) := u7k0_a1
                have l42t_a1 : (0 : Int) ≤ a1.toInt := l7k0_a1
                refine lv_aload_n hx hb dX8_lawFor_51 rfl (lv_at hl 0 rfl) ?_
                refine lv_iload hx hb dX8_lawFor_52 (lv_at hl 3 rfl) ?_
                have hKc := hK.sub (tys' := [(ka0_15, .int)]) [0] rfl
                refine va_calli (va_runV (As := [.int j34l4]) (rest := []) ⟨hx, hb, hml, hown, hts⟩ (c_X8_numberOf l dC dI H.size a0 j34l4 (Value.int v1na0_0) a0g_1 a0g_2 a0g_3 a0g_4 a0g_5 a0g_6 a0g_7 a0g_8 a0g_9 a0g_10 (Value.int v1na0_11) a0g_12 a0g_13 (Value.int a0_14) a0g_16 a0g_17 a0g_18 a0g_19 a0g_20 a0g_21 a0g_22 a0g_23 a0g_24 a0g_25 a0g_26 a0g_27 a0g_28 a0g_29 a0g_30 a0g_31 a0g_32 a0g_33 (Value.ref a0_34) a0g_35 a0g_36 a0g_37 a0g_38 a0g_39 a0_15 ka0_15 fa0_15 bj34l4_l (Int.le_trans u34z_j34l4 zq192) bfa0_15) (cwV 1 hts gX8_lawFor_X8_numberOf rfl rfl rfl zd_X8_numberOf ⟨Nat.le_of_ble_eq_true rfl, Nat.le_of_ble_eq_true rfl⟩) ⟨ax_blind (fun _ _ _ _ _ => trivial), zr_8 hKc (zp_P2 hP) (q0 := 0) rfl, ax_pre (zp_P2 hP) hKc (zp_D2 hD) (fun _ _ => trivial)⟩ rfl rfl hl.1 rfl (lv_room (Nat.le_of_ble_eq_true rfl)) dX8_lawFor_54 ⟨Nat.le_of_ble_eq_true rfl, Nat.le_of_ble_eq_true rfl⟩) hS (fun q _ h => zp_F2 hD hS hA q h) (zp_F2 hD hS hA) (fun r54 u t H locs ht hvm hw hB hz1 hk1 hS1 => zo2 hB ht hP hD hk1 (zp_F2 hD hS hA) hS1 (fun hP hK1 hD hS => ?_))
                have hw : (0 : Int) ≤ r54.toInt ∧ r54.toInt ≤ (72888 : Int) := hw
                obtain ⟨h54_0, h54_1⟩ := hw
                exact W.iret (v := r54) hx hb hr (fun t ht hW => ⟨⟨r54, (), rfl, ⟨(Int.le_trans zq69 h54_0), h54_1⟩, v1na0_0, v1na0_11, v38nfa0_34, by rw [ht]; exact hP, va_K.moved hW.alike hK, hD⟩, hS.F ht⟩) hS.2.2 dX8_lawFor_57
              · have gc42 := ai_ne c42
                obtain ⟨x45, ex45⟩ : ∃ y : Int32, y = j34l4 + Int32.ofInt 1 := ⟨_, rfl⟩
                have qx45 : x45.toInt = j34l4.toInt + 1 := ai_inc ex45 (by decide) (by decide) u34z_j34l4 (by decide)
                have bx45 : (1 : Int) ≤ x45.toInt ∧ x45.toInt ≤ 81 := ⟨by rw [qx45]; exact Int.add_le_add bj34l4_l (Int.le_refl _), by rw [qx45]; exact Int.add_le_add u34z_j34l4 (Int.le_refl _)⟩
                refine lv_iinc (v := x45) (lv' := [(4, .int x45), (0, .ref a0), (1, .int a1), (2, .int a2)]) hx hb dX8_lawFor_45 hl (k := 3) rfl ex45.symm (by decide) rfl (fun ls hl => ?_)
                refine lv_goto (tgt := 34) hx hb dX8_lawFor_48 (by decide) ?_
                exact (hK0 _ _ _).mp (ih34 x45 v38nfa0_34 _ _ _ (by first | exact zg_s hm34 qx45 | (have h0 := qx45; omega)) (Int.le_trans zq4 bx45.1) (Int.le_trans bx45.2 zq193) (lf_s lf34 mr38 c42 l7k0_a1 h7.2.2 qx45) hP hD hS (lv_sub hl [1, 2, 3, 0] rfl))
        exact (hK0 _ _ _).mp (J34 99 0 fa0_34 _ _ _ (by first | decide +kernel | (have h1 : (0 : Int) ≤ (0 : Int32).toInt := zq5; have h2 : (0 : Int32).toInt ≤ (0 : Int) := zq6; omega)) zq5 (Int.le_trans zq6 zq194) (lf_0 l7k0_a1 (Int.le_trans (by decide) (bfa0_15.1 0 (Nat.le_refl 0) (Nat.le_refl 0)).1)) hP hD hS (lv_sub hl [2, 3, 4, 0] rfl))
    · obtain ⟨hw, h14⟩ := hw
      subst hw
      refine va_calli (va_runV (As := [.int 1, .int 0]) (rest := []) ⟨hx, hb, hml, hown, hts⟩ (c_X8_whyB l dC dI H.size a0 1 0 (Value.int v1na0_0) a0g_1 a0g_2 a0g_3 a0g_4 a0g_5 a0g_6 a0g_7 a0g_8 a0g_9 a0g_10 (Value.int v1na0_11) a0g_12 a0g_13 (Value.int a0_14) (Value.ref a0_15) a0g_16 a0g_17 a0g_18 a0g_19 a0g_20 a0g_21 a0g_22 a0g_23 a0g_24 a0g_25 a0g_26 a0g_27 a0g_28 a0g_29 a0g_30 a0g_31 a0g_32 a0g_33 (Value.ref a0_34) a0g_35 a0g_36 a0g_37 a0g_38 a0g_39 (Int.le_trans zq4 zq1) zq0 zq5 (Int.le_trans zq6 zq4)) (cwV 2 hts gX8_lawFor_X8_why rfl rfl rfl zd_X8_why ⟨Nat.le_of_ble_eq_true rfl, Nat.le_of_ble_eq_true rfl⟩) ⟨ax_blind (fun _ _ _ _ _ => trivial), zr_8 (zp_K hK) (zp_P1 hP) (q0 := 0) rfl, ax_pre (zp_P1 hP) (zp_K hK) (zp_D1 hD) (fun _ _ => trivial)⟩ rfl rfl hl.1 rfl (lv_room (Nat.le_of_ble_eq_true rfl)) dX8_lawFor_17 ⟨Nat.le_of_ble_eq_true rfl, Nat.le_of_ble_eq_true rfl⟩) hS (fun q _ h => zp_F1 hD hS hA q h) (zp_F1 hD hS hA) (fun r17 u t H locs ht hvm hw hB hz1 hk1 hS1 => zo1 hB ht hP hD hk1 (zp_F1 hD hS hA) hS1 (fun hP hK1 hD hS => ?_))
      rcases hw with hw | hw | hw
      · obtain ⟨hw, h17_0, h17_1, h17_2, h17_3⟩ := hw
        subst hw
        refine lv_istore_n (lv' := [(3, .int 2), (0, .ref a0), (1, .int a1), (2, .int a2)]) hx hb dX8_lawFor_20 rfl hl (by decide) rfl (fun ls hl => ?_)
        refine lv_iload_n hx hb dX8_lawFor_21 rfl (lv_at hl 0 rfl) ?_
        refine lv_if_eq (tgt := 31) hx hb dX8_lawFor_22 (by decide) (fun c22 => absurd c22 (by decide +kernel)) (fun _ => ?_)
        refine lv_aload_n hx hb dX8_lawFor_25 rfl (lv_at hl 1 rfl) ?_
        refine lv_iload_n hx hb dX8_lawFor_26 rfl (lv_at hl 0 rfl) ?_
        refine va_calli (va_runV (As := [.int 2]) (rest := []) ⟨hx, hb, hml, hown, hts⟩ (c_X8_no l dC dI H.size a0 2 (Value.int v1na0_0) a0g_1 a0g_2 a0g_3 a0g_4 a0g_5 a0g_6 a0g_7 a0g_8 a0g_9 a0g_10 a0g_12 a0g_13 (Value.int a0_14) (Value.ref a0_15) a0g_16 a0g_17 a0g_18 a0g_19 a0g_20 a0g_21 a0g_22 a0g_23 a0g_24 a0g_25 a0g_26 a0g_27 a0g_28 a0g_29 a0g_30 a0g_31 a0g_32 a0g_33 (Value.ref a0_34) a0g_35 a0g_36 a0g_37 a0g_38 a0g_39 v1na0_11 ) (cwV 1 hts gX8_lawFor_X8_no rfl rfl rfl zd_X8_no ⟨Nat.le_of_ble_eq_true rfl, Nat.le_of_ble_eq_true rfl⟩) ⟨ax_blind (fun _ _ _ _ _ => trivial), zr_8 (zp_K hK) (zp_P1 hP) (q0 := 0) rfl, ax_pre (zp_P1 hP) (zp_K hK) (zp_D1 hD) (fun _ _ => trivial)⟩ rfl rfl hl.1 rfl (lv_room (Nat.le_of_ble_eq_true rfl)) dX8_lawFor_27 ⟨Nat.le_of_ble_eq_true rfl, Nat.le_of_ble_eq_true rfl⟩) hS (fun q _ h => zp_F1 hD hS hA q h) (zp_F1 hD hS hA) (fun r27 u t H locs ht hvm hw => zx_1 (fun v27na0_11 hB hz1 hk1 hS1 => zo1 hB ht hP hD hk1 (zp_F1 hD hS hA) hS1 (fun hP hK1 hD hS => ?_)))
        have hw : r27 = (-1) := hw
        have hw := hw.symm
        subst hw
        exact W.iret (v := (-1)) hx hb hr (fun t ht hW => ⟨⟨(-1), (), rfl, ⟨zq70, (Int.le_trans zq71 zq184)⟩, v1na0_0, v27na0_11, fa0_34, by rw [ht]; exact hP, va_K.moved hW.alike hK, hD⟩, hS.F ht⟩) hS.2.2 dX8_lawFor_30
      · obtain ⟨hw, h17_0, h17_1⟩ := hw
        subst hw
        exact absurd h17_1 (by decide)
      · obtain ⟨hw, h17_0, h17_1, h17_2, h17_3⟩ := hw
        subst hw
        exact absurd h17_2 (by decide)
  · subst hw
    refine lv_iload_n hx hb dX8_lawFor_10 rfl (lv_at hl 2 rfl) ?_
    refine lv_iconst (v := 0) hx hb dX8_lawFor_11 zk_iconst_0 ?_
    refine lv_bipush (v := 99) hx hb dX8_lawFor_12 zk_bipush_99 ?_
    refine va_calli (va_runS (As := [.int a2, .int 0, .int 99]) (rest := [.int 0, .ref a0]) ⟨hx, hb, hml, hown, hts⟩ (c_X8_in l dC dI H.size a2 0 99 ) (va_cwS 3 hts gX8_lawFor_X8_in rfl rfl rfl zd_X8_in.2 ⟨Nat.le_of_ble_eq_true rfl, Nat.le_of_ble_eq_true rfl⟩) ⟨ax_blind (fun _ _ _ _ _ => trivial), ax_pre (zp_P0 hP) (zp_K hK) (zp_D0 hD) (fun _ _ => trivial)⟩ rfl rfl hl.1 rfl (lv_room (Nat.le_of_ble_eq_true rfl)) dX8_lawFor_14 ⟨Nat.le_of_ble_eq_true rfl, Nat.le_of_ble_eq_true rfl⟩) hS (fun q _ h => zp_F0 hD hS hA q h) (zp_F0 hD hS hA) (fun r14 u t H locs ht hvm hw hB hz1 hk1 hS1 => zo0 hB ht hP hD hk1 (zp_F0 hD hS hA) hS1 (fun hP hK1 hD hS => ?_))
    rcases hw with hw | hw
    · obtain ⟨hw, h14⟩ := hw
      subst hw
      have l14k0_a2 : (0 : Int) ≤ a2.toInt := Int.le_trans zq5 h14.1
      have u14k0_a2 : a2.toInt ≤ (99 : Int) := Int.le_trans h14.2 zq43
      refine va_calli (va_runV (As := [.int 0, .int 1]) (rest := []) ⟨hx, hb, hml, hown, hts⟩ (c_X8_whyB l dC dI H.size a0 0 1 (Value.int v1na0_0) a0g_1 a0g_2 a0g_3 a0g_4 a0g_5 a0g_6 a0g_7 a0g_8 a0g_9 a0g_10 (Value.int v1na0_11) a0g_12 a0g_13 (Value.int a0_14) (Value.ref a0_15) a0g_16 a0g_17 a0g_18 a0g_19 a0g_20 a0g_21 a0g_22 a0g_23 a0g_24 a0g_25 a0g_26 a0g_27 a0g_28 a0g_29 a0g_30 a0g_31 a0g_32 a0g_33 (Value.ref a0_34) a0g_35 a0g_36 a0g_37 a0g_38 a0g_39 zq5 (Int.le_trans zq6 zq4) (Int.le_trans zq4 zq1) zq0) (cwV 2 hts gX8_lawFor_X8_why rfl rfl rfl zd_X8_why ⟨Nat.le_of_ble_eq_true rfl, Nat.le_of_ble_eq_true rfl⟩) ⟨ax_blind (fun _ _ _ _ _ => trivial), zr_8 (zp_K hK) (zp_P1 hP) (q0 := 0) rfl, ax_pre (zp_P1 hP) (zp_K hK) (zp_D1 hD) (fun _ _ => trivial)⟩ rfl rfl hl.1 rfl (lv_room (Nat.le_of_ble_eq_true rfl)) dX8_lawFor_17 ⟨Nat.le_of_ble_eq_true rfl, Nat.le_of_ble_eq_true rfl⟩) hS (fun q _ h => zp_F1 hD hS hA q h) (zp_F1 hD hS hA) (fun r17 u t H locs ht hvm hw hB hz1 hk1 hS1 => zo1 hB ht hP hD hk1 (zp_F1 hD hS hA) hS1 (fun hP hK1 hD hS => ?_))
      rcases hw with hw | hw | hw
      · obtain ⟨hw, h17_0, h17_1, h17_2, h17_3⟩ := hw
        subst hw
        exact absurd h17_0 (by decide)
      · obtain ⟨hw, h17_0, h17_1⟩ := hw
        subst hw
        refine lv_istore_n (lv' := [(3, .int 1), (0, .ref a0), (1, .int a1), (2, .int a2)]) hx hb dX8_lawFor_20 rfl hl (by decide) rfl (fun ls hl => ?_)
        refine lv_iload_n hx hb dX8_lawFor_21 rfl (lv_at hl 0 rfl) ?_
        refine lv_if_eq (tgt := 31) hx hb dX8_lawFor_22 (by decide) (fun c22 => absurd c22 (by decide +kernel)) (fun _ => ?_)
        refine lv_aload_n hx hb dX8_lawFor_25 rfl (lv_at hl 1 rfl) ?_
        refine lv_iload_n hx hb dX8_lawFor_26 rfl (lv_at hl 0 rfl) ?_
        refine va_calli (va_runV (As := [.int 1]) (rest := []) ⟨hx, hb, hml, hown, hts⟩ (c_X8_no l dC dI H.size a0 1 (Value.int v1na0_0) a0g_1 a0g_2 a0g_3 a0g_4 a0g_5 a0g_6 a0g_7 a0g_8 a0g_9 a0g_10 a0g_12 a0g_13 (Value.int a0_14) (Value.ref a0_15) a0g_16 a0g_17 a0g_18 a0g_19 a0g_20 a0g_21 a0g_22 a0g_23 a0g_24 a0g_25 a0g_26 a0g_27 a0g_28 a0g_29 a0g_30 a0g_31 a0g_32 a0g_33 (Value.ref a0_34) a0g_35 a0g_36 a0g_37 a0g_38 a0g_39 v1na0_11 ) (cwV 1 hts gX8_lawFor_X8_no rfl rfl rfl zd_X8_no ⟨Nat.le_of_ble_eq_true rfl, Nat.le_of_ble_eq_true rfl⟩) ⟨ax_blind (fun _ _ _ _ _ => trivial), zr_8 (zp_K hK) (zp_P1 hP) (q0 := 0) rfl, ax_pre (zp_P1 hP) (zp_K hK) (zp_D1 hD) (fun _ _ => trivial)⟩ rfl rfl hl.1 rfl (lv_room (Nat.le_of_ble_eq_true rfl)) dX8_lawFor_27 ⟨Nat.le_of_ble_eq_true rfl, Nat.le_of_ble_eq_true rfl⟩) hS (fun q _ h => zp_F1 hD hS hA q h) (zp_F1 hD hS hA) (fun r27 u t H locs ht hvm hw => zx_1 (fun v27na0_11 hB hz1 hk1 hS1 => zo1 hB ht hP hD hk1 (zp_F1 hD hS hA) hS1 (fun hP hK1 hD hS => ?_)))
        have hw : r27 = (-1) := hw
        have hw := hw.symm
        subst hw
        exact W.iret (v := (-1)) hx hb hr (fun t ht hW => ⟨⟨(-1), (), rfl, ⟨zq70, (Int.le_trans zq71 zq184)⟩, v1na0_0, v27na0_11, fa0_34, by rw [ht]; exact hP, va_K.moved hW.alike hK, hD⟩, hS.F ht⟩) hS.2.2 dX8_lawFor_30
      · obtain ⟨hw, h17_0, h17_1, h17_2, h17_3⟩ := hw
        subst hw
        exact absurd h17_0 (by decide)
    · obtain ⟨hw, h14⟩ := hw
      subst hw
      refine va_calli (va_runV (As := [.int 0, .int 0]) (rest := []) ⟨hx, hb, hml, hown, hts⟩ (c_X8_whyB l dC dI H.size a0 0 0 (Value.int v1na0_0) a0g_1 a0g_2 a0g_3 a0g_4 a0g_5 a0g_6 a0g_7 a0g_8 a0g_9 a0g_10 (Value.int v1na0_11) a0g_12 a0g_13 (Value.int a0_14) (Value.ref a0_15) a0g_16 a0g_17 a0g_18 a0g_19 a0g_20 a0g_21 a0g_22 a0g_23 a0g_24 a0g_25 a0g_26 a0g_27 a0g_28 a0g_29 a0g_30 a0g_31 a0g_32 a0g_33 (Value.ref a0_34) a0g_35 a0g_36 a0g_37 a0g_38 a0g_39 zq5 (Int.le_trans zq6 zq4) zq5 (Int.le_trans zq6 zq4)) (cwV 2 hts gX8_lawFor_X8_why rfl rfl rfl zd_X8_why ⟨Nat.le_of_ble_eq_true rfl, Nat.le_of_ble_eq_true rfl⟩) ⟨ax_blind (fun _ _ _ _ _ => trivial), zr_8 (zp_K hK) (zp_P1 hP) (q0 := 0) rfl, ax_pre (zp_P1 hP) (zp_K hK) (zp_D1 hD) (fun _ _ => trivial)⟩ rfl rfl hl.1 rfl (lv_room (Nat.le_of_ble_eq_true rfl)) dX8_lawFor_17 ⟨Nat.le_of_ble_eq_true rfl, Nat.le_of_ble_eq_true rfl⟩) hS (fun q _ h => zp_F1 hD hS hA q h) (zp_F1 hD hS hA) (fun r17 u t H locs ht hvm hw hB hz1 hk1 hS1 => zo1 hB ht hP hD hk1 (zp_F1 hD hS hA) hS1 (fun hP hK1 hD hS => ?_))
      rcases hw with hw | hw | hw
      · obtain ⟨hw, h17_0, h17_1, h17_2, h17_3⟩ := hw
        subst hw
        exact absurd h17_0 (by decide)
      · obtain ⟨hw, h17_0, h17_1⟩ := hw
        subst hw
        refine lv_istore_n (lv' := [(3, .int 1), (0, .ref a0), (1, .int a1), (2, .int a2)]) hx hb dX8_lawFor_20 rfl hl (by decide) rfl (fun ls hl => ?_)
        refine lv_iload_n hx hb dX8_lawFor_21 rfl (lv_at hl 0 rfl) ?_
        refine lv_if_eq (tgt := 31) hx hb dX8_lawFor_22 (by decide) (fun c22 => absurd c22 (by decide +kernel)) (fun _ => ?_)
        refine lv_aload_n hx hb dX8_lawFor_25 rfl (lv_at hl 1 rfl) ?_
        refine lv_iload_n hx hb dX8_lawFor_26 rfl (lv_at hl 0 rfl) ?_
        refine va_calli (va_runV (As := [.int 1]) (rest := []) ⟨hx, hb, hml, hown, hts⟩ (c_X8_no l dC dI H.size a0 1 (Value.int v1na0_0) a0g_1 a0g_2 a0g_3 a0g_4 a0g_5 a0g_6 a0g_7 a0g_8 a0g_9 a0g_10 a0g_12 a0g_13 (Value.int a0_14) (Value.ref a0_15) a0g_16 a0g_17 a0g_18 a0g_19 a0g_20 a0g_21 a0g_22 a0g_23 a0g_24 a0g_25 a0g_26 a0g_27 a0g_28 a0g_29 a0g_30 a0g_31 a0g_32 a0g_33 (Value.ref a0_34) a0g_35 a0g_36 a0g_37 a0g_38 a0g_39 v1na0_11 ) (cwV 1 hts gX8_lawFor_X8_no rfl rfl rfl zd_X8_no ⟨Nat.le_of_ble_eq_true rfl, Nat.le_of_ble_eq_true rfl⟩) ⟨ax_blind (fun _ _ _ _ _ => trivial), zr_8 (zp_K hK) (zp_P1 hP) (q0 := 0) rfl, ax_pre (zp_P1 hP) (zp_K hK) (zp_D1 hD) (fun _ _ => trivial)⟩ rfl rfl hl.1 rfl (lv_room (Nat.le_of_ble_eq_true rfl)) dX8_lawFor_27 ⟨Nat.le_of_ble_eq_true rfl, Nat.le_of_ble_eq_true rfl⟩) hS (fun q _ h => zp_F1 hD hS hA q h) (zp_F1 hD hS hA) (fun r27 u t H locs ht hvm hw => zx_1 (fun v27na0_11 hB hz1 hk1 hS1 => zo1 hB ht hP hD hk1 (zp_F1 hD hS hA) hS1 (fun hP hK1 hD hS => ?_)))
        have hw : r27 = (-1) := hw
        have hw := hw.symm
        subst hw
        exact W.iret (v := (-1)) hx hb hr (fun t ht hW => ⟨⟨(-1), (), rfl, ⟨zq70, (Int.le_trans zq71 zq184)⟩, v1na0_0, v27na0_11, fa0_34, by rw [ht]; exact hP, va_K.moved hW.alike hK, hD⟩, hS.F ht⟩) hS.2.2 dX8_lawFor_30
      · obtain ⟨hw, h17_0, h17_1, h17_2, h17_3⟩ := hw
        subst hw
        exact absurd h17_0 (by decide)
end P250_03_safe
section P260_00_safe
set_option maxHeartbeats 4000000 in
set_option maxRecDepth 100000 in
theorem c_X8_bestFromW (l : Launch) (dC : Nat → ClassId) (dI : Nat → Nat → Nat) (sz : Nat) (a0 : Nat) (a1 : Int32) (a2 : Int32) (a3 : Int32) (a0g_0 a0g_1 a0g_2 a0g_3 a0g_4 a0g_5 a0g_6 a0g_7 a0g_8 a0g_9 a0g_10 a0g_11 a0g_12 a0g_13 a0g_14 a0g_16 a0g_17 a0g_18 a0g_19 a0g_20 a0g_21 a0g_22 a0g_23 a0g_24 a0g_25 a0g_26 a0g_27 a0g_28 a0g_29 a0g_30 a0g_31 a0g_34 a0g_35 a0g_36 a0g_37 a0g_38 a0g_39 : Value) (a0_15 : Nat) (a0_32 : Nat) (a0_33 : Nat) (ka0_15 : ClassId) (fa0_15 : Nat → Int32) (ka0_33 : ClassId) (fa0_33 : Nat → Int32) (ka0_32 : ClassId) (fa0_32 : Nat → Int32) (ba1_l : (0 : Int) ≤ a1.toInt) (ba1_u : a1.toInt ≤ (59 : Int)) (ba2_l : (0 : Int) ≤ a2.toInt) (ba2_u : a2.toInt ≤ (8 : Int)) (ba3_l : (1 : Int) ≤ a3.toInt) (ba3_u : a3.toInt ≤ (1 : Int)) (bfa0_15 : ((∀ k : Nat, 0 ≤ k → k ≤ 0 → (2 : Int) ≤ (fa0_15 k).toInt ∧ (fa0_15 k).toInt ≤ 9) ∧ (∀ k : Nat, 1 ≤ k → k ≤ 1 → (1 : Int) ≤ (fa0_15 k).toInt ∧ (fa0_15 k).toInt ≤ 20) ∧ (∀ k : Nat, 2 ≤ k → k ≤ 2 → (0 : Int) ≤ (fa0_15 k).toInt ∧ (fa0_15 k).toInt ≤ 8) ∧ (∀ k : Nat, 3 ≤ k → k ≤ 3 → (0 : Int) ≤ (fa0_15 k).toInt ∧ (fa0_15 k).toInt ≤ 100) ∧ (∀ k : Nat, 4 ≤ k → k ≤ 4 → (0 : Int) ≤ (fa0_15 k).toInt ∧ (fa0_15 k).toInt ≤ 9) ∧ (∀ k : Nat, 5 ≤ k → k ≤ 5 → (0 : Int) ≤ (fa0_15 k).toInt ∧ (fa0_15 k).toInt ≤ 3) ∧ (∀ k : Nat, 6 ≤ k → k ≤ 6 → (0 : Int) ≤ (fa0_15 k).toInt ∧ (fa0_15 k).toInt ≤ 6) ∧ (∀ k : Nat, 7 ≤ k → k ≤ 9 → (0 : Int) ≤ (fa0_15 k).toInt ∧ (fa0_15 k).toInt ≤ 8) ∧ (∀ k : Nat, 12 ≤ k → k ≤ 29 → (0 : Int) ≤ (fa0_15 k).toInt ∧ (fa0_15 k).toInt ≤ 20) ∧ (∀ k : Nat, 30 ≤ k → k ≤ 35 → (0 : Int) ≤ (fa0_15 k).toInt ∧ (fa0_15 k).toInt ≤ 8) ∧ (∀ k : Nat, 36 ≤ k → k ≤ 47 → (0 : Int) ≤ (fa0_15 k).toInt ∧ (fa0_15 k).toInt ≤ 999))) : zm l yX8_bestFrom wsX8_bestFrom ({ frames := 1, cells := 0, slots := 0, locals := 22 }) [.ref a0, .int a1, .int a2, .int a3] dC dI sz [(a0, .inr (8, [a0g_0, a0g_1, a0g_2, a0g_3, a0g_4, a0g_5, a0g_6, a0g_7, a0g_8, a0g_9, a0g_10, a0g_11, a0g_12, a0g_13, a0g_14, Value.ref a0_15, a0g_16, a0g_17, a0g_18, a0g_19, a0g_20, a0g_21, a0g_22, a0g_23, a0g_24, a0g_25, a0g_26, a0g_27, a0g_28, a0g_29, a0g_30, a0g_31, Value.ref a0_32, Value.ref a0_33, a0g_34, a0g_35, a0g_36, a0g_37, a0g_38, a0g_39])), (a0_15, .inl (ka0_15, 156, .inl (fa0_15))), (a0_33, .inl (ka0_33, 620, .inl (fa0_33))), (a0_32, .inl (ka0_32, 61, .inl (fa0_32)))] [(ka0_15, .int), (ka0_33, .int), (ka0_32, .int)] (fun A _ => True) (fun A => va_Qi (fun (r : Int32) (_ : Unit) => (0 : Int) ≤ r.toInt ∧ r.toInt ≤ (8 : Int)) (fun (_ : Unit) (t : State) => ax_B dC dI A [(a0, .inr (8, [a0g_0, a0g_1, a0g_2, a0g_3, a0g_4, a0g_5, a0g_6, a0g_7, a0g_8, a0g_9, a0g_10, a0g_11, a0g_12, a0g_13, a0g_14, Value.ref a0_15, a0g_16, a0g_17, a0g_18, a0g_19, a0g_20, a0g_21, a0g_22, a0g_23, a0g_24, a0g_25, a0g_26, a0g_27, a0g_28, a0g_29, a0g_30, a0g_31, Value.ref a0_32, Value.ref a0_33, a0g_34, a0g_35, a0g_36, a0g_37, a0g_38, a0g_39])), (a0_15, .inl (ka0_15, 156, .inl (fa0_15))), (a0_33, .inl (ka0_33, 620, .inl (fa0_33))), (a0_32, .inl (ka0_32, 61, .inl (fa0_32)))] [(ka0_15, .int), (ka0_33, .int), (ka0_32, .int)] t) A) := by
  refine zh (cc := cX8_bestFrom) (maxL := 9) (ret := (some .int)) zn_RX8 rfl (Nat.le_of_ble_eq_true rfl) (fun p e s m below meth c A ls hx hb hml hr hts (hown : s.vm.findClass RX8 = some m.cls) hlocks hA hS hP hK hD hE (hl : lv_has ls 9 [(0, .ref a0), (1, .int a1), (2, .int a2), (3, .int a3)]) => ?_)
  refine ai_open (fun K hK0 => ?_)
  refine (hK0 _ _ _).mpr ?_
  refine lv_iconst (v := (-1)) hx hb dX8_bestFrom_0 zk_iconst_n1 ?_
  refine lv_istore (lv' := [(4, .int (-1)), (0, .ref a0), (1, .int a1), (2, .int a2), (3, .int a3)]) hx hb dX8_bestFrom_1 hl (by decide) rfl (fun ls hl => ?_)
  refine lv_iload_n hx hb dX8_bestFrom_3 rfl (lv_at hl 3 rfl) ?_
  refine lv_istore (lv' := [(5, .int a2), (4, .int (-1)), (0, .ref a0), (1, .int a1), (2, .int a2), (3, .int a3)]) hx hb dX8_bestFrom_4 hl (by decide) rfl (fun ls hl => ?_)
  refine lv_iconst (v := 0) hx hb dX8_bestFrom_6 zk_iconst_0 ?_
  refine lv_istore (lv' := [(6, .int 0), (5, .int a2), (4, .int (-1)), (0, .ref a0), (1, .int a1), (2, .int a2), (3, .int a3)]) hx hb dX8_bestFrom_7 hl (by decide) rfl (fun ls hl => ?_)
  have J9 : ∀ (n : Nat) (j9l6 : Int32) (j9l5 : Int32) (j9l4 : Int32) (H : Heap) (locs : List Loc) (ls : Array Slot), (4 : Int) - j9l6.toInt ≤ (n : Int) → (0 : Int) ≤ j9l6.toInt → j9l6.toInt ≤ (3 : Int) → (0 : Int) ≤ j9l5.toInt → j9l5.toInt ≤ (8 : Int) → (-1 : Int) ≤ j9l4.toInt → va_P (dC, dI) vwCl [(a0, .inr (8, [a0g_0, a0g_1, a0g_2, a0g_3, a0g_4, a0g_5, a0g_6, a0g_7, a0g_8, a0g_9, a0g_10, a0g_11, a0g_12, a0g_13, a0g_14, Value.ref a0_15, a0g_16, a0g_17, a0g_18, a0g_19, a0g_20, a0g_21, a0g_22, a0g_23, a0g_24, a0g_25, a0g_26, a0g_27, a0g_28, a0g_29, a0g_30, a0g_31, Value.ref a0_32, Value.ref a0_33, a0g_34, a0g_35, a0g_36, a0g_37, a0g_38, a0g_39])), (a0_15, .inl (ka0_15, 156, .inl (fa0_15))), (a0_33, .inl (ka0_33, 620, .inl (fa0_33))), (a0_32, .inl (ka0_32, 61, .inl (fa0_32)))] H → va_D A [(a0, .inr (8, [a0g_0, a0g_1, a0g_2, a0g_3, a0g_4, a0g_5, a0g_6, a0g_7, a0g_8, a0g_9, a0g_10, a0g_11, a0g_12, a0g_13, a0g_14, Value.ref a0_15, a0g_16, a0g_17, a0g_18, a0g_19, a0g_20, a0g_21, a0g_22, a0g_23, a0g_24, a0g_25, a0g_26, a0g_27, a0g_28, a0g_29, a0g_30, a0g_31, Value.ref a0_32, Value.ref a0_33, a0g_34, a0g_35, a0g_36, a0g_37, a0g_38, a0g_39])), (a0_15, .inl (ka0_15, 156, .inl (fa0_15))), (a0_33, .inl (ka0_33, 620, .inl (fa0_33))), (a0_32, .inl (ka0_32, 61, .inl (fa0_32)))] → va_S A s.heap H locs → lv_has ls 9 [(0, .ref a0), (1, .int a1), (2, .int a2), (3, .int a3), (4, .int j9l4), (5, .int j9l5), (6, .int j9l6)] → K H locs (F0 m 9 ls []) := by
    intro n
    induction n with
    | zero =>
      intro j9l6 j9l5 j9l4 H locs ls hm bj9l6_l bj9l6_u bj9l5_l bj9l5_u bj9l4_l hP hD hS hl
      first | exact zg_0 hm bj9l6_u (by decide) | (have h8 := ai_min j9l6; have h9 := ai_max j9l6; exact absurd hm (by omega))
    | succ n ih9 =>
      intro j9l6 j9l5 j9l4 H locs ls hm bj9l6_l bj9l6_u bj9l5_l bj9l5_u bj9l4_l hP hD hS hl
      refine (hK0 _ _ _).mpr ?_
      have hm9 := hm
      refine lv_iload hx hb dX8_bestFrom_9 (lv_at hl 6 rfl) ?_
      refine lv_iconst (v := 3) hx hb dX8_bestFrom_11 zk_iconst_3 ?_
      refine lv_icmp_ge (tgt := 120) hx hb dX8_bestFrom_12 (by decide) (fun c12 => ?_) (fun c12 => ?_)
      · have gc12 := ai_le c12
        have l12t_j9l6 : (3 : Int) ≤ j9l6.toInt := Int.le_trans zq8 gc12
        refine lv_iload_n hx hb dX8_bestFrom_120 rfl (lv_at hl 3 rfl) ?_
        refine lv_if_eq (tgt := 129) hx hb dX8_bestFrom_121 (by decide) (fun c121 => ?_) (fun c121 => ?_)
        · have gc121 := ai_eq c121
          have u121t_a3 : a3.toInt ≤ (0 : Int) := Int.le_trans (Int.le_of_eq gc121) zq6
          have l121t_a3 : (1 : Int) ≤ a3.toInt := ba3_l
          exact absurd (Int.le_trans l121t_a3 u121t_a3) (by decide)
        · have gc121 := ai_ne c121
          refine lv_iload hx hb dX8_bestFrom_124 (lv_at hl 5 rfl) ?_
          refine lv_goto (tgt := 131) hx hb dX8_bestFrom_126 (by decide) ?_
          exact W.iret (v := j9l5) hx hb hr (fun t ht hW => ⟨⟨j9l5, (), rfl, ⟨bj9l5_l, bj9l5_u⟩, by rw [ht]; exact hP, va_K.moved hW.alike hK, hD⟩, hS.F ht⟩) hS.2.2 dX8_bestFrom_131
      · have gc12 := ai_nle c12
        have u12f_j9l6 : j9l6.toInt ≤ (2 : Int) := ai_lthi gc12 zq9
        refine lv_iload hx hb dX8_bestFrom_15 (lv_at hl 6 rfl) ?_
        have J39 : ∀ (j39s0 : Int32) (H : Heap) (locs : List Loc) (ls : Array Slot), (-1 : Int) ≤ j39s0.toInt → j39s0.toInt ≤ (9 : Int) → va_P (dC, dI) vwCl [(a0, .inr (8, [a0g_0, a0g_1, a0g_2, a0g_3, a0g_4, a0g_5, a0g_6, a0g_7, a0g_8, a0g_9, a0g_10, a0g_11, a0g_12, a0g_13, a0g_14, Value.ref a0_15, a0g_16, a0g_17, a0g_18, a0g_19, a0g_20, a0g_21, a0g_22, a0g_23, a0g_24, a0g_25, a0g_26, a0g_27, a0g_28, a0g_29, a0g_30, a0g_31, Value.ref a0_32, Value.ref a0_33, a0g_34, a0g_35, a0g_36, a0g_37, a0g_38, a0g_39])), (a0_15, .inl (ka0_15, 156, .inl (fa0_15))), (a0_33, .inl (ka0_33, 620, .inl (fa0_33))), (a0_32, .inl (ka0_32, 61, .inl (fa0_32)))] H → va_D A [(a0, .inr (8, [a0g_0, a0g_1, a0g_2, a0g_3, a0g_4, a0g_5, a0g_6, a0g_7, a0g_8, a0g_9, a0g_10, a0g_11, a0g_12, a0g_13, a0g_14, Value.ref a0_15, a0g_16, a0g_17, a0g_18, a0g_19, a0g_20, a0g_21, a0g_22, a0g_23, a0g_24, a0g_25, a0g_26, a0g_27, a0g_28, a0g_29, a0g_30, a0g_31, Value.ref a0_32, Value.ref a0_33, a0g_34, a0g_35, a0g_36, a0g_37, a0g_38, a0g_39])), (a0_15, .inl (ka0_15, 156, .inl (fa0_15))), (a0_33, .inl (ka0_33, 620, .inl (fa0_33))), (a0_32, .inl (ka0_32, 61, .inl (fa0_32)))] → va_S A s.heap H locs → lv_has ls 9 [(0, .ref a0), (1, .int a1), (2, .int a2), (3, .int a3), (4, .int j9l4), (5, .int j9l5), (6, .int j9l6)] → K H locs (F0 m 39 ls [.int j39s0]) := by
          intro j39s0 H locs ls  bj39s0_l bj39s0_u hP hD hS hl
          refine (hK0 _ _ _).mpr ?_
          refine lv_istore (lv' := [(7, .int j39s0), (0, .ref a0), (1, .int a1), (2, .int a2), (3, .int a3), (4, .int j9l4), (5, .int j9l5), (6, .int j9l6)]) hx hb dX8_bestFrom_39 hl (by decide) rfl (fun ls hl => ?_)
          refine lv_iload hx hb dX8_bestFrom_41 (lv_at hl 0 rfl) ?_
          refine lv_iconst (v := 0) hx hb dX8_bestFrom_43 zk_iconst_0 ?_
          refine lv_aload_n hx hb dX8_bestFrom_44 rfl (lv_at hl 1 rfl) ?_
          refine va_get (D := (dC, dI)) (ci := 8) (v := .ref a0_15) (C := RX8) (T := TX8) (N := 40) hx hb hts zi_X8_bestFrom_8 hown hK hP 0 rfl rfl 15 (by decide) (hts (.fieldLink RX8 20 "WaxTurnsModel" "\x72" "[I") (List.mem_cons_of_mem _ (List.mem_append_left _ (List.mem_of_getElem? (i := 0) rfl)))) (fun _ h9 => h9) rfl dX8_bestFrom_45 ?_
          refine lv_iconst (v := 0) hx hb dX8_bestFrom_48 zk_iconst_0 ?_
          refine va_iald hx hb hK hP 1 0 rfl rfl (by unfold vp_in; decide +kernel) dX8_bestFrom_49 ?_
          refine lv_topi (fun x49 ex49 => ?_)
          have bx49 : (2 : Int) ≤ x49.toInt ∧ x49.toInt ≤ 9 := by rw [ex49]; exact ai_rd bfa0_15.1 zq5 zq6 (by decide) (by decide) (by decide)
          refine lv_iconst (v := 1) hx hb dX8_bestFrom_50 zk_iconst_1 ?_
          refine lv_isub hx hb dX8_bestFrom_51 ?_
          refine lv_topi (fun x51 ex51 => ?_)
          have qx51 : x51.toInt = x49.toInt - (1 : Int32).toInt := ai_sub ex51 ⟨bx49.1, bx49.2⟩ ⟨zq1, zq0⟩ (by decide) (by decide)
          have bx51 : (1 : Int) ≤ x51.toInt ∧ x51.toInt ≤ 8 := ⟨by rw [qx51]; exact Int.sub_le_sub bx49.1 zq0, by rw [qx51]; exact Int.sub_le_sub bx49.2 zq1⟩
          have wx51 : x51.toInt = x49.toInt - 1 := qx51
          refine va_calli (va_runS (As := [.int j39s0, .int 0, .int x51]) (rest := []) ⟨hx, hb, hml, hown, hts⟩ (c_X8_in l dC dI H.size j39s0 0 x51 ) (va_cwS 3 hts gX8_bestFrom_X8_in rfl rfl rfl zd_X8_in.2 ⟨Nat.le_of_ble_eq_true rfl, Nat.le_of_ble_eq_true rfl⟩) ⟨ax_blind (fun _ _ _ _ _ => trivial), ax_pre (zp_P0 hP) (zp_K hK) (zp_D0 hD) (fun _ _ => trivial)⟩ rfl rfl hl.1 rfl (lv_room (Nat.le_of_ble_eq_true rfl)) dX8_bestFrom_52 ⟨Nat.le_of_ble_eq_true rfl, Nat.le_of_ble_eq_true rfl⟩) hS (fun q _ h => zp_F0 hD hS hA q h) (zp_F0 hD hS hA) (fun r52 u t H locs ht hvm hw hB hz1 hk1 hS1 => zo0 hB ht hP hD hk1 (zp_F0 hD hS hA) hS1 (fun hP hK1 hD hS => ?_))
          rcases hw with hw | hw
          · obtain ⟨hw, h52⟩ := hw
            subst hw
            have l52k0_j39s0 : (0 : Int) ≤ j39s0.toInt := Int.le_trans zq5 h52.1
            have u52k0_j39s0 : j39s0.toInt ≤ (8 : Int) := Int.le_trans h52.2 bx51.2
            have l52k0_x51 : (1 : Int) ≤ x51.toInt := bx51.1
            refine lv_if_ne (tgt := 61) hx hb dX8_bestFrom_55 (by decide) (fun _ => ?_) (fun c55 => absurd c55 (by decide +kernel))
            have J114 : ∀ (j114l4 : Int32) (j114l5 : Int32) (H : Heap) (locs : List Loc) (ls : Array Slot), (-1 : Int) ≤ j114l4.toInt → (0 : Int) ≤ j114l5.toInt → j114l5.toInt ≤ (8 : Int) → va_P (dC, dI) vwCl [(a0, .inr (8, [a0g_0, a0g_1, a0g_2, a0g_3, a0g_4, a0g_5, a0g_6, a0g_7, a0g_8, a0g_9, a0g_10, a0g_11, a0g_12, a0g_13, a0g_14, Value.ref a0_15, a0g_16, a0g_17, a0g_18, a0g_19, a0g_20, a0g_21, a0g_22, a0g_23, a0g_24, a0g_25, a0g_26, a0g_27, a0g_28, a0g_29, a0g_30, a0g_31, Value.ref a0_32, Value.ref a0_33, a0g_34, a0g_35, a0g_36, a0g_37, a0g_38, a0g_39])), (a0_15, .inl (ka0_15, 156, .inl (fa0_15))), (a0_33, .inl (ka0_33, 620, .inl (fa0_33))), (a0_32, .inl (ka0_32, 61, .inl (fa0_32)))] H → va_D A [(a0, .inr (8, [a0g_0, a0g_1, a0g_2, a0g_3, a0g_4, a0g_5, a0g_6, a0g_7, a0g_8, a0g_9, a0g_10, a0g_11, a0g_12, a0g_13, a0g_14, Value.ref a0_15, a0g_16, a0g_17, a0g_18, a0g_19, a0g_20, a0g_21, a0g_22, a0g_23, a0g_24, a0g_25, a0g_26, a0g_27, a0g_28, a0g_29, a0g_30, a0g_31, Value.ref a0_32, Value.ref a0_33, a0g_34, a0g_35, a0g_36, a0g_37, a0g_38, a0g_39])), (a0_15, .inl (ka0_15, 156, .inl (fa0_15))), (a0_33, .inl (ka0_33, 620, .inl (fa0_33))), (a0_32, .inl (ka0_32, 61, .inl (fa0_32)))] → va_S A s.heap H locs → lv_has ls 9 [(0, .ref a0), (1, .int a1), (2, .int a2), (3, .int a3), (4, .int j114l4), (5, .int j114l5), (6, .int j9l6)] → K H locs (F0 m 114 ls []) := by
              intro j114l4 j114l5 H locs ls  bj114l4_l bj114l5_l bj114l5_u hP hD hS hl
              refine (hK0 _ _ _).mpr ?_
              obtain ⟨x114, ex114⟩ : ∃ y : Int32, y = j9l6 + Int32.ofInt 1 := ⟨_, rfl⟩
              have qx114 : x114.toInt = j9l6.toInt + 1 := ai_inc ex114 (by decide) (by decide) u12f_j9l6 (by decide)
              have bx114 : (1 : Int) ≤ x114.toInt ∧ x114.toInt ≤ 3 := ⟨by rw [qx114]; exact Int.add_le_add bj9l6_l (Int.le_refl _), by rw [qx114]; exact Int.add_le_add u12f_j9l6 (Int.le_refl _)⟩
              refine lv_iinc (v := x114) (lv' := [(6, .int x114), (0, .ref a0), (1, .int a1), (2, .int a2), (3, .int a3), (4, .int j114l4), (5, .int j114l5)]) hx hb dX8_bestFrom_114 hl (k := 6) rfl ex114.symm (by decide) rfl (fun ls hl => ?_)
              refine lv_goto (tgt := 9) hx hb dX8_bestFrom_117 (by decide) ?_
              exact (hK0 _ _ _).mp (ih9 x114 j114l5 j114l4 _ _ _ (by first | exact zg_s hm9 qx114 | (have h0 := qx114; omega)) (Int.le_trans zq4 bx114.1) bx114.2 bj114l5_l bj114l5_u bj114l4_l hP hD hS (lv_sub hl [1, 2, 3, 4, 5, 6, 0] rfl))
            refine lv_aload_n hx hb dX8_bestFrom_61 rfl (lv_at hl 1 rfl) ?_
            refine va_get (D := (dC, dI)) (ci := 8) (v := .ref a0_33) (C := RX8) (T := TX8) (N := 40) hx hb hts zi_X8_bestFrom_8 hown hK hP 0 rfl rfl 33 (by decide) (hts (.fieldLink RX8 50 "WaxTurnsModel" "with" "[I") (List.mem_cons_of_mem _ (List.mem_append_left _ (List.mem_of_getElem? (i := 1) rfl)))) (fun _ h9 => h9) rfl dX8_bestFrom_62 ?_
            refine lv_bipush (v := 10) hx hb dX8_bestFrom_65 zk_bipush_10 ?_
            refine lv_iload_n hx hb dX8_bestFrom_67 rfl (lv_at hl 2 rfl) ?_
            refine lv_iconst (v := 1) hx hb dX8_bestFrom_68 zk_iconst_1 ?_
            refine lv_iadd hx hb dX8_bestFrom_69 ?_
            refine lv_topi (fun x69 ex69 => ?_)
            have qx69 : x69.toInt = a1.toInt + (1 : Int32).toInt := ai_add ex69 ⟨ba1_l, ba1_u⟩ ⟨zq1, zq0⟩ (by decide) (by decide)
            have bx69 : (1 : Int) ≤ x69.toInt ∧ x69.toInt ≤ 60 := ⟨by rw [qx69]; exact Int.add_le_add ba1_l zq1, by rw [qx69]; exact Int.add_le_add ba1_u zq0⟩
            have wx69 : x69.toInt = a1.toInt + 1 := qx69
            refine lv_imul hx hb dX8_bestFrom_70 ?_
            refine lv_topi (fun x70 ex70 => ?_)
            have qx70 : x70.toInt = (10 : Int32).toInt * x69.toInt ∧ (10 : Int) ≤ x70.toInt ∧ x70.toInt ≤ 600 := ai_mul ex70 ⟨zq26, zq27⟩ ⟨bx69.1, bx69.2⟩ (by decide) (by decide) zq195
            have wx70 : x70.toInt = 10 * x69.toInt := qx70.1
            refine lv_iload hx hb dX8_bestFrom_71 (lv_at hl 0 rfl) ?_
            refine lv_iadd hx hb dX8_bestFrom_73 ?_
            refine lv_topi (fun x73 ex73 => ?_)
            have qx73 : x73.toInt = x70.toInt + j39s0.toInt := ai_add ex73 ⟨qx70.2.1, qx70.2.2⟩ ⟨l52k0_j39s0, u52k0_j39s0⟩ (by decide) (by decide)
            have bx73 : (10 : Int) ≤ x73.toInt ∧ x73.toInt ≤ 608 := ⟨by rw [qx73]; exact Int.add_le_add qx70.2.1 l52k0_j39s0, by rw [qx73]; exact Int.add_le_add qx70.2.2 u52k0_j39s0⟩
            refine va_iald hx hb hK hP 2 1 rfl rfl (ai_in bx73.1 bx73.2 (by decide) (by decide)) dX8_bestFrom_74 ?_
            refine lv_topi (fun x74 ex74 => ?_)
            refine lv_aload_n hx hb dX8_bestFrom_75 rfl (lv_at hl 1 rfl) ?_
            refine va_get (D := (dC, dI)) (ci := 8) (v := .ref a0_32) (C := RX8) (T := TX8) (N := 40) hx hb hts zi_X8_bestFrom_8 hown hK hP 0 rfl rfl 32 (by decide) (hts (.fieldLink RX8 47 "WaxTurnsModel" "liveAt" "[I") (List.mem_cons_of_mem _ (List.mem_append_left _ (List.mem_of_getElem? (i := 2) rfl)))) (fun _ h9 => h9) rfl dX8_bestFrom_76 ?_
            refine lv_iload_n hx hb dX8_bestFrom_79 rfl (lv_at hl 2 rfl) ?_
            refine lv_iconst (v := 1) hx hb dX8_bestFrom_80 zk_iconst_1 ?_
            refine lv_iadd hx hb dX8_bestFrom_81 ?_
            refine ax_ti x69 ex69.symm ?_
            refine va_iald hx hb hK hP 3 2 rfl rfl (ai_in bx69.1 bx69.2 (by decide) (by decide)) dX8_bestFrom_82 ?_
            refine lv_topi (fun x82 ex82 => ?_)
            refine lv_iload hx hb dX8_bestFrom_83 (lv_at hl 0 rfl) ?_
            have J93 : ∀ (j93s0 : Int32) (H : Heap) (locs : List Loc) (ls : Array Slot), (0 : Int) ≤ j93s0.toInt → j93s0.toInt ≤ (1 : Int) → va_P (dC, dI) vwCl [(a0, .inr (8, [a0g_0, a0g_1, a0g_2, a0g_3, a0g_4, a0g_5, a0g_6, a0g_7, a0g_8, a0g_9, a0g_10, a0g_11, a0g_12, a0g_13, a0g_14, Value.ref a0_15, a0g_16, a0g_17, a0g_18, a0g_19, a0g_20, a0g_21, a0g_22, a0g_23, a0g_24, a0g_25, a0g_26, a0g_27, a0g_28, a0g_29, a0g_30, a0g_31, Value.ref a0_32, Value.ref a0_33, a0g_34, a0g_35, a0g_36, a0g_37, a0g_38, a0g_39])), (a0_15, .inl (ka0_15, 156, .inl (fa0_15))), (a0_33, .inl (ka0_33, 620, .inl (fa0_33))), (a0_32, .inl (ka0_32, 61, .inl (fa0_32)))] H → va_D A [(a0, .inr (8, [a0g_0, a0g_1, a0g_2, a0g_3, a0g_4, a0g_5, a0g_6, a0g_7, a0g_8, a0g_9, a0g_10, a0g_11, a0g_12, a0g_13, a0g_14, Value.ref a0_15, a0g_16, a0g_17, a0g_18, a0g_19, a0g_20, a0g_21, a0g_22, a0g_23, a0g_24, a0g_25, a0g_26, a0g_27, a0g_28, a0g_29, a0g_30, a0g_31, Value.ref a0_32, Value.ref a0_33, a0g_34, a0g_35, a0g_36, a0g_37, a0g_38, a0g_39])), (a0_15, .inl (ka0_15, 156, .inl (fa0_15))), (a0_33, .inl (ka0_33, 620, .inl (fa0_33))), (a0_32, .inl (ka0_32, 61, .inl (fa0_32)))] → va_S A s.heap H locs → lv_has ls 9 [(0, .ref a0), (1, .int a1), (2, .int a2), (3, .int a3), (4, .int j9l4), (5, .int j9l5), (6, .int j9l6), (7, .int j39s0)] → K H locs (F0 m 93 ls [.int j93s0, .int x74]) := by
              intro j93s0 H locs ls  bj93s0_l bj93s0_u hP hD hS hl
              refine (hK0 _ _ _).mpr ?_
              refine lv_iadd hx hb dX8_bestFrom_93 ?_
              refine lv_topi (fun x93 ex93 => ?_)
              refine lv_istore (lv' := [(8, .int x93), (0, .ref a0), (1, .int a1), (2, .int a2), (3, .int a3), (4, .int j9l4), (5, .int j9l5), (6, .int j9l6), (7, .int j39s0)]) hx hb dX8_bestFrom_94 hl (by decide) rfl (fun ls hl => ?_)
              refine lv_iload hx hb dX8_bestFrom_96 (lv_at hl 0 rfl) ?_
              refine lv_iload hx hb dX8_bestFrom_98 (lv_at hl 5 rfl) ?_
              refine lv_icmp_gt (tgt := 106) hx hb dX8_bestFrom_100 (by decide) (fun c100 => ?_) (fun c100 => ?_)
              · have gc100 := ai_lt c100
                have u100t_j9l4 : j9l4.toInt ≤ (2147483646 : Int) := ai_lthi gc100 (ai_max x93)
                have l100t_x93 : (0 : Int) ≤ x93.toInt := ai_ltlo gc100 bj9l4_l
                refine lv_iload hx hb dX8_bestFrom_106 (lv_at hl 0 rfl) ?_
                refine lv_istore (lv' := [(4, .int x93), (8, .int x93), (0, .ref a0), (1, .int a1), (2, .int a2), (3, .int a3), (5, .int j9l5), (6, .int j9l6), (7, .int j39s0)]) hx hb dX8_bestFrom_108 hl (by decide) rfl (fun ls hl => ?_)
                refine lv_iload hx hb dX8_bestFrom_110 (lv_at hl 8 rfl) ?_
                refine lv_istore (lv' := [(5, .int j39s0), (4, .int x93), (8, .int x93), (0, .ref a0), (1, .int a1), (2, .int a2), (3, .int a3), (6, .int j9l6), (7, .int j39s0)]) hx hb dX8_bestFrom_112 hl (by decide) rfl (fun ls hl => ?_)
                exact (hK0 _ _ _).mp (J114 x93 j39s0 _ _ _  (Int.le_trans zq69 l100t_x93) l52k0_j39s0 u52k0_j39s0 hP hD hS (lv_sub hl [3, 4, 5, 6, 1, 0, 7] rfl))
              · have gc100 := ai_nlt c100
                refine lv_goto (tgt := 114) hx hb dX8_bestFrom_103 (by decide) ?_
                exact (hK0 _ _ _).mp (J114 j9l4 j9l5 _ _ _  bj9l4_l bj9l5_l bj9l5_u hP hD hS (lv_sub hl [1, 2, 3, 4, 5, 6, 7] rfl))
            refine lv_icmp_ne (tgt := 92) hx hb dX8_bestFrom_85 (by decide) (fun c85 => ?_) (fun c85 => ?_)
            · have gc85 := ai_ne c85
              refine lv_iconst (v := 0) hx hb dX8_bestFrom_92 zk_iconst_0 ?_
              exact (hK0 _ _ _).mp (J93 0 _ _ _  zq5 (Int.le_trans zq6 zq4) hP hD hS (lv_sub hl [1, 2, 3, 4, 5, 6, 7, 0] rfl))
            · have gc85 := ai_eq c85
              have u85f_x82 : x82.toInt ≤ (8 : Int) := Int.le_trans (Int.le_of_eq gc85) u52k0_j39s0
              have l85f_x82 : (0 : Int) ≤ x82.toInt := Int.le_trans l52k0_j39s0 (Int.le_of_eq gc85.symm)
              refine lv_iconst (v := 1) hx hb dX8_bestFrom_88 zk_iconst_1 ?_
              refine lv_goto (tgt := 93) hx hb dX8_bestFrom_89 (by decide) ?_
              exact (hK0 _ _ _).mp (J93 1 _ _ _  (Int.le_trans zq4 zq1) zq0 hP hD hS (lv_sub hl [1, 2, 3, 4, 5, 6, 7, 0] rfl))
          · obtain ⟨hw, h52⟩ := hw
            subst hw
            refine lv_if_ne (tgt := 61) hx hb dX8_bestFrom_55 (by decide) (fun c55 => absurd (by decide +kernel) c55) (fun _ => ?_)
            have J114 : ∀ (j114l4 : Int32) (j114l5 : Int32) (H : Heap) (locs : List Loc) (ls : Array Slot), (-1 : Int) ≤ j114l4.toInt → (0 : Int) ≤ j114l5.toInt → j114l5.toInt ≤ (8 : Int) → va_P (dC, dI) vwCl [(a0, .inr (8, [a0g_0, a0g_1, a0g_2, a0g_3, a0g_4, a0g_5, a0g_6, a0g_7, a0g_8, a0g_9, a0g_10, a0g_11, a0g_12, a0g_13, a0g_14, Value.ref a0_15, a0g_16, a0g_17, a0g_18, a0g_19, a0g_20, a0g_21, a0g_22, a0g_23, a0g_24, a0g_25, a0g_26, a0g_27, a0g_28, a0g_29, a0g_30, a0g_31, Value.ref a0_32, Value.ref a0_33, a0g_34, a0g_35, a0g_36, a0g_37, a0g_38, a0g_39])), (a0_15, .inl (ka0_15, 156, .inl (fa0_15))), (a0_33, .inl (ka0_33, 620, .inl (fa0_33))), (a0_32, .inl (ka0_32, 61, .inl (fa0_32)))] H → va_D A [(a0, .inr (8, [a0g_0, a0g_1, a0g_2, a0g_3, a0g_4, a0g_5, a0g_6, a0g_7, a0g_8, a0g_9, a0g_10, a0g_11, a0g_12, a0g_13, a0g_14, Value.ref a0_15, a0g_16, a0g_17, a0g_18, a0g_19, a0g_20, a0g_21, a0g_22, a0g_23, a0g_24, a0g_25, a0g_26, a0g_27, a0g_28, a0g_29, a0g_30, a0g_31, Value.ref a0_32, Value.ref a0_33, a0g_34, a0g_35, a0g_36, a0g_37, a0g_38, a0g_39])), (a0_15, .inl (ka0_15, 156, .inl (fa0_15))), (a0_33, .inl (ka0_33, 620, .inl (fa0_33))), (a0_32, .inl (ka0_32, 61, .inl (fa0_32)))] → va_S A s.heap H locs → lv_has ls 9 [(0, .ref a0), (1, .int a1), (2, .int a2), (3, .int a3), (4, .int j114l4), (5, .int j114l5), (6, .int j9l6)] → K H locs (F0 m 114 ls []) := by
              intro j114l4 j114l5 H locs ls  bj114l4_l bj114l5_l bj114l5_u hP hD hS hl
              refine (hK0 _ _ _).mpr ?_
              obtain ⟨x114, ex114⟩ : ∃ y : Int32, y = j9l6 + Int32.ofInt 1 := ⟨_, rfl⟩
              have qx114 : x114.toInt = j9l6.toInt + 1 := ai_inc ex114 (by decide) (by decide) u12f_j9l6 (by decide)
              have bx114 : (1 : Int) ≤ x114.toInt ∧ x114.toInt ≤ 3 := ⟨by rw [qx114]; exact Int.add_le_add bj9l6_l (Int.le_refl _), by rw [qx114]; exact Int.add_le_add u12f_j9l6 (Int.le_refl _)⟩
              refine lv_iinc (v := x114) (lv' := [(6, .int x114), (0, .ref a0), (1, .int a1), (2, .int a2), (3, .int a3), (4, .int j114l4), (5, .int j114l5)]) hx hb dX8_bestFrom_114 hl (k := 6) rfl ex114.symm (by decide) rfl (fun ls hl => ?_)
              refine lv_goto (tgt := 9) hx hb dX8_bestFrom_117 (by decide) ?_
              exact (hK0 _ _ _).mp (ih9 x114 j114l5 j114l4 _ _ _ (by first | exact zg_s hm9 qx114 | (have h0 := qx114; omega)) (Int.le_trans zq4 bx114.1) bx114.2 bj114l5_l bj114l5_u bj114l4_l hP hD hS (lv_sub hl [1, 2, 3, 4, 5, 6, 0] rfl))
            refine lv_goto (tgt := 114) hx hb dX8_bestFrom_58 (by decide) ?_
            exact (hK0 _ _ _).mp (J114 j9l4 j9l5 _ _ _  bj9l4_l bj9l5_l bj9l5_u hP hD hS (lv_sub hl [1, 2, 3, 4, 5, 6, 7] rfl))
        refine lv_if_ne (tgt := 24) hx hb dX8_bestFrom_17 (by decide) (fun c17 => ?_) (fun c17 => ?_)
        · have gc17 := ai_ne c17
          have l17t_j9l6 : (1 : Int) ≤ j9l6.toInt := (by first | exact zg_l bj9l6_l gc17 (by decide) (by decide) | (have h1 := bj9l6_l; have h2 : (0 : Int32).toInt = 0 := (by decide); rw [h2] at gc17; omega))
          refine lv_iload hx hb dX8_bestFrom_24 (lv_at hl 6 rfl) ?_
          refine lv_iconst (v := 1) hx hb dX8_bestFrom_26 zk_iconst_1 ?_
          refine lv_icmp_ne (tgt := 36) hx hb dX8_bestFrom_27 (by decide) (fun c27 => ?_) (fun c27 => ?_)
          · have gc27 := ai_ne c27
            have l27t_j9l6 : (2 : Int) ≤ j9l6.toInt := (by first | exact zg_l l17t_j9l6 gc27 (by decide) (by decide) | (have h1 := l17t_j9l6; have h2 : (1 : Int32).toInt = 1 := (by decide); rw [h2] at gc27; omega))
            refine lv_iload_n hx hb dX8_bestFrom_36 rfl (lv_at hl 2 rfl) ?_
            refine lv_iconst (v := 1) hx hb dX8_bestFrom_37 zk_iconst_1 ?_
            refine lv_iadd hx hb dX8_bestFrom_38 ?_
            refine lv_topi (fun x38 ex38 => ?_)
            have qx38 : x38.toInt = a2.toInt + (1 : Int32).toInt := ai_add ex38 ⟨ba2_l, ba2_u⟩ ⟨zq1, zq0⟩ (by decide) (by decide)
            have bx38 : (1 : Int) ≤ x38.toInt ∧ x38.toInt ≤ 9 := ⟨by rw [qx38]; exact Int.add_le_add ba2_l zq1, by rw [qx38]; exact Int.add_le_add ba2_u zq0⟩
            have wx38 : x38.toInt = a2.toInt + 1 := qx38
            exact (hK0 _ _ _).mp (J39 x38 _ _ _  (Int.le_trans zq78 bx38.1) bx38.2 hP hD hS (lv_sub hl [0, 1, 2, 3, 4, 5, 6] rfl))
          · have gc27 := ai_eq c27
            have u27f_j9l6 : j9l6.toInt ≤ (1 : Int) := Int.le_trans (Int.le_of_eq gc27) zq0
            have l27f_j9l6 : (1 : Int) ≤ j9l6.toInt := l17t_j9l6
            refine lv_iload_n hx hb dX8_bestFrom_30 rfl (lv_at hl 2 rfl) ?_
            refine lv_iconst (v := 1) hx hb dX8_bestFrom_31 zk_iconst_1 ?_
            refine lv_isub hx hb dX8_bestFrom_32 ?_
            refine lv_topi (fun x32 ex32 => ?_)
            have qx32 : x32.toInt = a2.toInt - (1 : Int32).toInt := ai_sub ex32 ⟨ba2_l, ba2_u⟩ ⟨zq1, zq0⟩ (by decide) (by decide)
            have bx32 : (-1 : Int) ≤ x32.toInt ∧ x32.toInt ≤ 7 := ⟨by rw [qx32]; exact Int.sub_le_sub ba2_l zq0, by rw [qx32]; exact Int.sub_le_sub ba2_u zq1⟩
            have wx32 : x32.toInt = a2.toInt - 1 := qx32
            refine lv_goto (tgt := 39) hx hb dX8_bestFrom_33 (by decide) ?_
            exact (hK0 _ _ _).mp (J39 x32 _ _ _  bx32.1 (Int.le_trans bx32.2 zq196) hP hD hS (lv_sub hl [0, 1, 2, 3, 4, 5, 6] rfl))
        · have gc17 := ai_eq c17
          have u17f_j9l6 : j9l6.toInt ≤ (0 : Int) := Int.le_trans (Int.le_of_eq gc17) zq6
          have l17f_j9l6 : (0 : Int) ≤ j9l6.toInt := bj9l6_l
          refine lv_iload_n hx hb dX8_bestFrom_20 rfl (lv_at hl 2 rfl) ?_
          refine lv_goto (tgt := 39) hx hb dX8_bestFrom_21 (by decide) ?_
          exact (hK0 _ _ _).mp (J39 a2 _ _ _  (Int.le_trans zq69 ba2_l) (Int.le_trans ba2_u zq22) hP hD hS (lv_sub hl [0, 1, 2, 3, 4, 5, 6] rfl))
  exact (hK0 _ _ _).mp (J9 4 0 a2 (-1) _ _ _ (by first | decide +kernel | (have h1 : (0 : Int) ≤ (0 : Int32).toInt := zq5; have h2 : (0 : Int32).toInt ≤ (0 : Int) := zq6; omega)) zq5 (Int.le_trans zq6 zq11) ba2_l ba2_u zq70 hP hD hS (lv_sub hl [3, 4, 5, 6, 2, 1, 0] rfl))

set_option maxHeartbeats 4000000 in
set_option maxRecDepth 100000 in
theorem c_X8_bestFromN (l : Launch) (dC : Nat → ClassId) (dI : Nat → Nat → Nat) (sz : Nat) (a0 : Nat) (a1 : Int32) (a2 : Int32) (a3 : Int32) (a0g_0 a0g_1 a0g_2 a0g_3 a0g_4 a0g_5 a0g_6 a0g_7 a0g_8 a0g_9 a0g_10 a0g_11 a0g_12 a0g_13 a0g_14 a0g_16 a0g_17 a0g_18 a0g_19 a0g_20 a0g_21 a0g_22 a0g_23 a0g_24 a0g_25 a0g_26 a0g_27 a0g_28 a0g_29 a0g_30 a0g_31 a0g_34 a0g_35 a0g_36 a0g_37 a0g_38 a0g_39 : Value) (a0_15 : Nat) (a0_32 : Nat) (a0_33 : Nat) (ka0_15 : ClassId) (fa0_15 : Nat → Int32) (ka0_33 : ClassId) (fa0_33 : Nat → Int32) (ka0_32 : ClassId) (fa0_32 : Nat → Int32) (ba1_l : (0 : Int) ≤ a1.toInt) (ba1_u : a1.toInt ≤ (59 : Int)) (ba2_l : (0 : Int) ≤ a2.toInt) (ba2_u : a2.toInt ≤ (8 : Int)) (ba3_l : (0 : Int) ≤ a3.toInt) (ba3_u : a3.toInt ≤ (0 : Int)) (bfa0_15 : ((∀ k : Nat, 0 ≤ k → k ≤ 0 → (2 : Int) ≤ (fa0_15 k).toInt ∧ (fa0_15 k).toInt ≤ 9) ∧ (∀ k : Nat, 1 ≤ k → k ≤ 1 → (1 : Int) ≤ (fa0_15 k).toInt ∧ (fa0_15 k).toInt ≤ 20) ∧ (∀ k : Nat, 2 ≤ k → k ≤ 2 → (0 : Int) ≤ (fa0_15 k).toInt ∧ (fa0_15 k).toInt ≤ 8) ∧ (∀ k : Nat, 3 ≤ k → k ≤ 3 → (0 : Int) ≤ (fa0_15 k).toInt ∧ (fa0_15 k).toInt ≤ 100) ∧ (∀ k : Nat, 4 ≤ k → k ≤ 4 → (0 : Int) ≤ (fa0_15 k).toInt ∧ (fa0_15 k).toInt ≤ 9) ∧ (∀ k : Nat, 5 ≤ k → k ≤ 5 → (0 : Int) ≤ (fa0_15 k).toInt ∧ (fa0_15 k).toInt ≤ 3) ∧ (∀ k : Nat, 6 ≤ k → k ≤ 6 → (0 : Int) ≤ (fa0_15 k).toInt ∧ (fa0_15 k).toInt ≤ 6) ∧ (∀ k : Nat, 7 ≤ k → k ≤ 9 → (0 : Int) ≤ (fa0_15 k).toInt ∧ (fa0_15 k).toInt ≤ 8) ∧ (∀ k : Nat, 12 ≤ k → k ≤ 29 → (0 : Int) ≤ (fa0_15 k).toInt ∧ (fa0_15 k).toInt ≤ 20) ∧ (∀ k : Nat, 30 ≤ k → k ≤ 35 → (0 : Int) ≤ (fa0_15 k).toInt ∧ (fa0_15 k).toInt ≤ 8) ∧ (∀ k : Nat, 36 ≤ k → k ≤ 47 → (0 : Int) ≤ (fa0_15 k).toInt ∧ (fa0_15 k).toInt ≤ 999))) : zm l yX8_bestFrom wsX8_bestFrom ({ frames := 1, cells := 0, slots := 0, locals := 22 }) [.ref a0, .int a1, .int a2, .int a3] dC dI sz [(a0, .inr (8, [a0g_0, a0g_1, a0g_2, a0g_3, a0g_4, a0g_5, a0g_6, a0g_7, a0g_8, a0g_9, a0g_10, a0g_11, a0g_12, a0g_13, a0g_14, Value.ref a0_15, a0g_16, a0g_17, a0g_18, a0g_19, a0g_20, a0g_21, a0g_22, a0g_23, a0g_24, a0g_25, a0g_26, a0g_27, a0g_28, a0g_29, a0g_30, a0g_31, Value.ref a0_32, Value.ref a0_33, a0g_34, a0g_35, a0g_36, a0g_37, a0g_38, a0g_39])), (a0_15, .inl (ka0_15, 156, .inl (fa0_15))), (a0_33, .inl (ka0_33, 620, .inl (fa0_33))), (a0_32, .inl (ka0_32, 61, .inl (fa0_32)))] [(ka0_15, .int), (ka0_33, .int), (ka0_32, .int)] (fun A _ => True) (fun A => va_Qi (fun (r : Int32) (_ : Unit) => (-1 : Int) ≤ r.toInt) (fun (_ : Unit) (t : State) => ax_B dC dI A [(a0, .inr (8, [a0g_0, a0g_1, a0g_2, a0g_3, a0g_4, a0g_5, a0g_6, a0g_7, a0g_8, a0g_9, a0g_10, a0g_11, a0g_12, a0g_13, a0g_14, Value.ref a0_15, a0g_16, a0g_17, a0g_18, a0g_19, a0g_20, a0g_21, a0g_22, a0g_23, a0g_24, a0g_25, a0g_26, a0g_27, a0g_28, a0g_29, a0g_30, a0g_31, Value.ref a0_32, Value.ref a0_33, a0g_34, a0g_35, a0g_36, a0g_37, a0g_38, a0g_39])), (a0_15, .inl (ka0_15, 156, .inl (fa0_15))), (a0_33, .inl (ka0_33, 620, .inl (fa0_33))), (a0_32, .inl (ka0_32, 61, .inl (fa0_32)))] [(ka0_15, .int), (ka0_33, .int), (ka0_32, .int)] t) A) := by
  refine zh (cc := cX8_bestFrom) (maxL := 9) (ret := (some .int)) zn_RX8 rfl (Nat.le_of_ble_eq_true rfl) (fun p e s m below meth c A ls hx hb hml hr hts (hown : s.vm.findClass RX8 = some m.cls) hlocks hA hS hP hK hD hE (hl : lv_has ls 9 [(0, .ref a0), (1, .int a1), (2, .int a2), (3, .int a3)]) => ?_)
  refine ai_open (fun K hK0 => ?_)
  refine (hK0 _ _ _).mpr ?_
  refine lv_iconst (v := (-1)) hx hb dX8_bestFrom_0 zk_iconst_n1 ?_
  refine lv_istore (lv' := [(4, .int (-1)), (0, .ref a0), (1, .int a1), (2, .int a2), (3, .int a3)]) hx hb dX8_bestFrom_1 hl (by decide) rfl (fun ls hl => ?_)
  refine lv_iload_n hx hb dX8_bestFrom_3 rfl (lv_at hl 3 rfl) ?_
  refine lv_istore (lv' := [(5, .int a2), (4, .int (-1)), (0, .ref a0), (1, .int a1), (2, .int a2), (3, .int a3)]) hx hb dX8_bestFrom_4 hl (by decide) rfl (fun ls hl => ?_)
  refine lv_iconst (v := 0) hx hb dX8_bestFrom_6 zk_iconst_0 ?_
  refine lv_istore (lv' := [(6, .int 0), (5, .int a2), (4, .int (-1)), (0, .ref a0), (1, .int a1), (2, .int a2), (3, .int a3)]) hx hb dX8_bestFrom_7 hl (by decide) rfl (fun ls hl => ?_)
  have J9 : ∀ (n : Nat) (j9l6 : Int32) (j9l5 : Int32) (j9l4 : Int32) (H : Heap) (locs : List Loc) (ls : Array Slot), (4 : Int) - j9l6.toInt ≤ (n : Int) → (0 : Int) ≤ j9l6.toInt → j9l6.toInt ≤ (3 : Int) → (0 : Int) ≤ j9l5.toInt → j9l5.toInt ≤ (8 : Int) → (-1 : Int) ≤ j9l4.toInt → va_P (dC, dI) vwCl [(a0, .inr (8, [a0g_0, a0g_1, a0g_2, a0g_3, a0g_4, a0g_5, a0g_6, a0g_7, a0g_8, a0g_9, a0g_10, a0g_11, a0g_12, a0g_13, a0g_14, Value.ref a0_15, a0g_16, a0g_17, a0g_18, a0g_19, a0g_20, a0g_21, a0g_22, a0g_23, a0g_24, a0g_25, a0g_26, a0g_27, a0g_28, a0g_29, a0g_30, a0g_31, Value.ref a0_32, Value.ref a0_33, a0g_34, a0g_35, a0g_36, a0g_37, a0g_38, a0g_39])), (a0_15, .inl (ka0_15, 156, .inl (fa0_15))), (a0_33, .inl (ka0_33, 620, .inl (fa0_33))), (a0_32, .inl (ka0_32, 61, .inl (fa0_32)))] H → va_D A [(a0, .inr (8, [a0g_0, a0g_1, a0g_2, a0g_3, a0g_4, a0g_5, a0g_6, a0g_7, a0g_8, a0g_9, a0g_10, a0g_11, a0g_12, a0g_13, a0g_14, Value.ref a0_15, a0g_16, a0g_17, a0g_18, a0g_19, a0g_20, a0g_21, a0g_22, a0g_23, a0g_24, a0g_25, a0g_26, a0g_27, a0g_28, a0g_29, a0g_30, a0g_31, Value.ref a0_32, Value.ref a0_33, a0g_34, a0g_35, a0g_36, a0g_37, a0g_38, a0g_39])), (a0_15, .inl (ka0_15, 156, .inl (fa0_15))), (a0_33, .inl (ka0_33, 620, .inl (fa0_33))), (a0_32, .inl (ka0_32, 61, .inl (fa0_32)))] → va_S A s.heap H locs → lv_has ls 9 [(0, .ref a0), (1, .int a1), (2, .int a2), (3, .int a3), (4, .int j9l4), (5, .int j9l5), (6, .int j9l6)] → K H locs (F0 m 9 ls []) := by
    intro n
    induction n with
    | zero =>
      intro j9l6 j9l5 j9l4 H locs ls hm bj9l6_l bj9l6_u bj9l5_l bj9l5_u bj9l4_l hP hD hS hl
      first | exact zg_0 hm bj9l6_u (by decide) | (have h8 := ai_min j9l6; have h9 := ai_max j9l6; exact absurd hm (by omega))
    | succ n ih9 =>
      intro j9l6 j9l5 j9l4 H locs ls hm bj9l6_l bj9l6_u bj9l5_l bj9l5_u bj9l4_l hP hD hS hl
      refine (hK0 _ _ _).mpr ?_
      have hm9 := hm
      refine lv_iload hx hb dX8_bestFrom_9 (lv_at hl 6 rfl) ?_
      refine lv_iconst (v := 3) hx hb dX8_bestFrom_11 zk_iconst_3 ?_
      refine lv_icmp_ge (tgt := 120) hx hb dX8_bestFrom_12 (by decide) (fun c12 => ?_) (fun c12 => ?_)
      · have gc12 := ai_le c12
        have l12t_j9l6 : (3 : Int) ≤ j9l6.toInt := Int.le_trans zq8 gc12
        refine lv_iload_n hx hb dX8_bestFrom_120 rfl (lv_at hl 3 rfl) ?_
        refine lv_if_eq (tgt := 129) hx hb dX8_bestFrom_121 (by decide) (fun c121 => ?_) (fun c121 => ?_)
        · have gc121 := ai_eq c121
          have u121t_a3 : a3.toInt ≤ (0 : Int) := ba3_u
          have l121t_a3 : (0 : Int) ≤ a3.toInt := ba3_l
          refine lv_iload hx hb dX8_bestFrom_129 (lv_at hl 4 rfl) ?_
          exact W.iret (v := j9l4) hx hb hr (fun t ht hW => ⟨⟨j9l4, (), rfl, bj9l4_l, by rw [ht]; exact hP, va_K.moved hW.alike hK, hD⟩, hS.F ht⟩) hS.2.2 dX8_bestFrom_131
        · have gc121 := ai_ne c121
          have l121f_a3 : (1 : Int) ≤ a3.toInt := (by first | exact zg_l ba3_l gc121 (by decide) (by decide) | (have h1 := ba3_l; have h2 : (0 : Int32).toInt = 0 := (by decide); rw [h2] at gc121; omega))
          have u121f_a3 : a3.toInt ≤ (-1 : Int) := (by first | exact zg_u ba3_u gc121 (by decide) (by decide) | (have h1 := ba3_u; have h2 : (0 : Int32).toInt = 0 := (by decide); rw [h2] at gc121; omega))
          exact absurd (Int.le_trans l121f_a3 u121f_a3) (by decide)
      · have gc12 := ai_nle c12
        have u12f_j9l6 : j9l6.toInt ≤ (2 : Int) := ai_lthi gc12 zq9
        refine lv_iload hx hb dX8_bestFrom_15 (lv_at hl 6 rfl) ?_
        have J39 : ∀ (j39s0 : Int32) (H : Heap) (locs : List Loc) (ls : Array Slot), (-1 : Int) ≤ j39s0.toInt → j39s0.toInt ≤ (9 : Int) → va_P (dC, dI) vwCl [(a0, .inr (8, [a0g_0, a0g_1, a0g_2, a0g_3, a0g_4, a0g_5, a0g_6, a0g_7, a0g_8, a0g_9, a0g_10, a0g_11, a0g_12, a0g_13, a0g_14, Value.ref a0_15, a0g_16, a0g_17, a0g_18, a0g_19, a0g_20, a0g_21, a0g_22, a0g_23, a0g_24, a0g_25, a0g_26, a0g_27, a0g_28, a0g_29, a0g_30, a0g_31, Value.ref a0_32, Value.ref a0_33, a0g_34, a0g_35, a0g_36, a0g_37, a0g_38, a0g_39])), (a0_15, .inl (ka0_15, 156, .inl (fa0_15))), (a0_33, .inl (ka0_33, 620, .inl (fa0_33))), (a0_32, .inl (ka0_32, 61, .inl (fa0_32)))] H → va_D A [(a0, .inr (8, [a0g_0, a0g_1, a0g_2, a0g_3, a0g_4, a0g_5, a0g_6, a0g_7, a0g_8, a0g_9, a0g_10, a0g_11, a0g_12, a0g_13, a0g_14, Value.ref a0_15, a0g_16, a0g_17, a0g_18, a0g_19, a0g_20, a0g_21, a0g_22, a0g_23, a0g_24, a0g_25, a0g_26, a0g_27, a0g_28, a0g_29, a0g_30, a0g_31, Value.ref a0_32, Value.ref a0_33, a0g_34, a0g_35, a0g_36, a0g_37, a0g_38, a0g_39])), (a0_15, .inl (ka0_15, 156, .inl (fa0_15))), (a0_33, .inl (ka0_33, 620, .inl (fa0_33))), (a0_32, .inl (ka0_32, 61, .inl (fa0_32)))] → va_S A s.heap H locs → lv_has ls 9 [(0, .ref a0), (1, .int a1), (2, .int a2), (3, .int a3), (4, .int j9l4), (5, .int j9l5), (6, .int j9l6)] → K H locs (F0 m 39 ls [.int j39s0]) := by
          intro j39s0 H locs ls  bj39s0_l bj39s0_u hP hD hS hl
          refine (hK0 _ _ _).mpr ?_
          refine lv_istore (lv' := [(7, .int j39s0), (0, .ref a0), (1, .int a1), (2, .int a2), (3, .int a3), (4, .int j9l4), (5, .int j9l5), (6, .int j9l6)]) hx hb dX8_bestFrom_39 hl (by decide) rfl (fun ls hl => ?_)
          refine lv_iload hx hb dX8_bestFrom_41 (lv_at hl 0 rfl) ?_
          refine lv_iconst (v := 0) hx hb dX8_bestFrom_43 zk_iconst_0 ?_
          refine lv_aload_n hx hb dX8_bestFrom_44 rfl (lv_at hl 1 rfl) ?_
          refine va_get (D := (dC, dI)) (ci := 8) (v := .ref a0_15) (C := RX8) (T := TX8) (N := 40) hx hb hts zi_X8_bestFrom_8 hown hK hP 0 rfl rfl 15 (by decide) (hts (.fieldLink RX8 20 "WaxTurnsModel" "\x72" "[I") (List.mem_cons_of_mem _ (List.mem_append_left _ (List.mem_of_getElem? (i := 0) rfl)))) (fun _ h9 => h9) rfl dX8_bestFrom_45 ?_
          refine lv_iconst (v := 0) hx hb dX8_bestFrom_48 zk_iconst_0 ?_
          refine va_iald hx hb hK hP 1 0 rfl rfl (by unfold vp_in; decide +kernel) dX8_bestFrom_49 ?_
          refine lv_topi (fun x49 ex49 => ?_)
          have bx49 : (2 : Int) ≤ x49.toInt ∧ x49.toInt ≤ 9 := by rw [ex49]; exact ai_rd bfa0_15.1 zq5 zq6 (by decide) (by decide) (by decide)
          refine lv_iconst (v := 1) hx hb dX8_bestFrom_50 zk_iconst_1 ?_
          refine lv_isub hx hb dX8_bestFrom_51 ?_
          refine lv_topi (fun x51 ex51 => ?_)
          have qx51 : x51.toInt = x49.toInt - (1 : Int32).toInt := ai_sub ex51 ⟨bx49.1, bx49.2⟩ ⟨zq1, zq0⟩ (by decide) (by decide)
          have bx51 : (1 : Int) ≤ x51.toInt ∧ x51.toInt ≤ 8 := ⟨by rw [qx51]; exact Int.sub_le_sub bx49.1 zq0, by rw [qx51]; exact Int.sub_le_sub bx49.2 zq1⟩
          have wx51 : x51.toInt = x49.toInt - 1 := qx51
          refine va_calli (va_runS (As := [.int j39s0, .int 0, .int x51]) (rest := []) ⟨hx, hb, hml, hown, hts⟩ (c_X8_in l dC dI H.size j39s0 0 x51 ) (va_cwS 3 hts gX8_bestFrom_X8_in rfl rfl rfl zd_X8_in.2 ⟨Nat.le_of_ble_eq_true rfl, Nat.le_of_ble_eq_true rfl⟩) ⟨ax_blind (fun _ _ _ _ _ => trivial), ax_pre (zp_P0 hP) (zp_K hK) (zp_D0 hD) (fun _ _ => trivial)⟩ rfl rfl hl.1 rfl (lv_room (Nat.le_of_ble_eq_true rfl)) dX8_bestFrom_52 ⟨Nat.le_of_ble_eq_true rfl, Nat.le_of_ble_eq_true rfl⟩) hS (fun q _ h => zp_F0 hD hS hA q h) (zp_F0 hD hS hA) (fun r52 u t H locs ht hvm hw hB hz1 hk1 hS1 => zo0 hB ht hP hD hk1 (zp_F0 hD hS hA) hS1 (fun hP hK1 hD hS => ?_))
          rcases hw with hw | hw
          · obtain ⟨hw, h52⟩ := hw
            subst hw
            have l52k0_j39s0 : (0 : Int) ≤ j39s0.toInt := Int.le_trans zq5 h52.1
            have u52k0_j39s0 : j39s0.toInt ≤ (8 : Int) := Int.le_trans h52.2 bx51.2
            have l52k0_x51 : (1 : Int) ≤ x51.toInt := bx51.1
            refine lv_if_ne (tgt := 61) hx hb dX8_bestFrom_55 (by decide) (fun _ => ?_) (fun c55 => absurd c55 (by decide +kernel))
            have J114 : ∀ (j114l4 : Int32) (j114l5 : Int32) (H : Heap) (locs : List Loc) (ls : Array Slot), (-1 : Int) ≤ j114l4.toInt → (0 : Int) ≤ j114l5.toInt → j114l5.toInt ≤ (8 : Int) → va_P (dC, dI) vwCl [(a0, .inr (8, [a0g_0, a0g_1, a0g_2, a0g_3, a0g_4, a0g_5, a0g_6, a0g_7, a0g_8, a0g_9, a0g_10, a0g_11, a0g_12, a0g_13, a0g_14, Value.ref a0_15, a0g_16, a0g_17, a0g_18, a0g_19, a0g_20, a0g_21, a0g_22, a0g_23, a0g_24, a0g_25, a0g_26, a0g_27, a0g_28, a0g_29, a0g_30, a0g_31, Value.ref a0_32, Value.ref a0_33, a0g_34, a0g_35, a0g_36, a0g_37, a0g_38, a0g_39])), (a0_15, .inl (ka0_15, 156, .inl (fa0_15))), (a0_33, .inl (ka0_33, 620, .inl (fa0_33))), (a0_32, .inl (ka0_32, 61, .inl (fa0_32)))] H → va_D A [(a0, .inr (8, [a0g_0, a0g_1, a0g_2, a0g_3, a0g_4, a0g_5, a0g_6, a0g_7, a0g_8, a0g_9, a0g_10, a0g_11, a0g_12, a0g_13, a0g_14, Value.ref a0_15, a0g_16, a0g_17, a0g_18, a0g_19, a0g_20, a0g_21, a0g_22, a0g_23, a0g_24, a0g_25, a0g_26, a0g_27, a0g_28, a0g_29, a0g_30, a0g_31, Value.ref a0_32, Value.ref a0_33, a0g_34, a0g_35, a0g_36, a0g_37, a0g_38, a0g_39])), (a0_15, .inl (ka0_15, 156, .inl (fa0_15))), (a0_33, .inl (ka0_33, 620, .inl (fa0_33))), (a0_32, .inl (ka0_32, 61, .inl (fa0_32)))] → va_S A s.heap H locs → lv_has ls 9 [(0, .ref a0), (1, .int a1), (2, .int a2), (3, .int a3), (4, .int j114l4), (5, .int j114l5), (6, .int j9l6)] → K H locs (F0 m 114 ls []) := by
              intro j114l4 j114l5 H locs ls  bj114l4_l bj114l5_l bj114l5_u hP hD hS hl
              refine (hK0 _ _ _).mpr ?_
              obtain ⟨x114, ex114⟩ : ∃ y : Int32, y = j9l6 + Int32.ofInt 1 := ⟨_, rfl⟩
              have qx114 : x114.toInt = j9l6.toInt + 1 := ai_inc ex114 (by decide) (by decide) u12f_j9l6 (by decide)
              have bx114 : (1 : Int) ≤ x114.toInt ∧ x114.toInt ≤ 3 := ⟨by rw [qx114]; exact Int.add_le_add bj9l6_l (Int.le_refl _), by rw [qx114]; exact Int.add_le_add u12f_j9l6 (Int.le_refl _)⟩
              refine lv_iinc (v := x114) (lv' := [(6, .int x114), (0, .ref a0), (1, .int a1), (2, .int a2), (3, .int a3), (4, .int j114l4), (5, .int j114l5)]) hx hb dX8_bestFrom_114 hl (k := 6) rfl ex114.symm (by decide) rfl (fun ls hl => ?_)
              refine lv_goto (tgt := 9) hx hb dX8_bestFrom_117 (by decide) ?_
              exact (hK0 _ _ _).mp (ih9 x114 j114l5 j114l4 _ _ _ (by first | exact zg_s hm9 qx114 | (have h0 := qx114; omega)) (Int.le_trans zq4 bx114.1) bx114.2 bj114l5_l bj114l5_u bj114l4_l hP hD hS (lv_sub hl [1, 2, 3, 4, 5, 6, 0] rfl))
            refine lv_aload_n hx hb dX8_bestFrom_61 rfl (lv_at hl 1 rfl) ?_
            refine va_get (D := (dC, dI)) (ci := 8) (v := .ref a0_33) (C := RX8) (T := TX8) (N := 40) hx hb hts zi_X8_bestFrom_8 hown hK hP 0 rfl rfl 33 (by decide) (hts (.fieldLink RX8 50 "WaxTurnsModel" "with" "[I") (List.mem_cons_of_mem _ (List.mem_append_left _ (List.mem_of_getElem? (i := 1) rfl)))) (fun _ h9 => h9) rfl dX8_bestFrom_62 ?_
            refine lv_bipush (v := 10) hx hb dX8_bestFrom_65 zk_bipush_10 ?_
            refine lv_iload_n hx hb dX8_bestFrom_67 rfl (lv_at hl 2 rfl) ?_
            refine lv_iconst (v := 1) hx hb dX8_bestFrom_68 zk_iconst_1 ?_
            refine lv_iadd hx hb dX8_bestFrom_69 ?_
            refine lv_topi (fun x69 ex69 => ?_)
            have qx69 : x69.toInt = a1.toInt + (1 : Int32).toInt := ai_add ex69 ⟨ba1_l, ba1_u⟩ ⟨zq1, zq0⟩ (by decide) (by decide)
            have bx69 : (1 : Int) ≤ x69.toInt ∧ x69.toInt ≤ 60 := ⟨by rw [qx69]; exact Int.add_le_add ba1_l zq1, by rw [qx69]; exact Int.add_le_add ba1_u zq0⟩
            have wx69 : x69.toInt = a1.toInt + 1 := qx69
            refine lv_imul hx hb dX8_bestFrom_70 ?_
            refine lv_topi (fun x70 ex70 => ?_)
            have qx70 : x70.toInt = (10 : Int32).toInt * x69.toInt ∧ (10 : Int) ≤ x70.toInt ∧ x70.toInt ≤ 600 := ai_mul ex70 ⟨zq26, zq27⟩ ⟨bx69.1, bx69.2⟩ (by decide) (by decide) zq195
            have wx70 : x70.toInt = 10 * x69.toInt := qx70.1
            refine lv_iload hx hb dX8_bestFrom_71 (lv_at hl 0 rfl) ?_
            refine lv_iadd hx hb dX8_bestFrom_73 ?_
            refine lv_topi (fun x73 ex73 => ?_)
            have qx73 : x73.toInt = x70.toInt + j39s0.toInt := ai_add ex73 ⟨qx70.2.1, qx70.2.2⟩ ⟨l52k0_j39s0, u52k0_j39s0⟩ (by decide) (by decide)
            have bx73 : (10 : Int) ≤ x73.toInt ∧ x73.toInt ≤ 608 := ⟨by rw [qx73]; exact Int.add_le_add qx70.2.1 l52k0_j39s0, by rw [qx73]; exact Int.add_le_add qx70.2.2 u52k0_j39s0⟩
            refine va_iald hx hb hK hP 2 1 rfl rfl (ai_in bx73.1 bx73.2 (by decide) (by decide)) dX8_bestFrom_74 ?_
            refine lv_topi (fun x74 ex74 => ?_)
            refine lv_aload_n hx hb dX8_bestFrom_75 rfl (lv_at hl 1 rfl) ?_
            refine va_get (D := (dC, dI)) (ci := 8) (v := .ref a0_32) (C := RX8) (T := TX8) (N := 40) hx hb hts zi_X8_bestFrom_8 hown hK hP 0 rfl rfl 32 (by decide) (hts (.fieldLink RX8 47 "WaxTurnsModel" "liveAt" "[I") (List.mem_cons_of_mem _ (List.mem_append_left _ (List.mem_of_getElem? (i := 2) rfl)))) (fun _ h9 => h9) rfl dX8_bestFrom_76 ?_
            refine lv_iload_n hx hb dX8_bestFrom_79 rfl (lv_at hl 2 rfl) ?_
            refine lv_iconst (v := 1) hx hb dX8_bestFrom_80 zk_iconst_1 ?_
            refine lv_iadd hx hb dX8_bestFrom_81 ?_
            refine ax_ti x69 ex69.symm ?_
            refine va_iald hx hb hK hP 3 2 rfl rfl (ai_in bx69.1 bx69.2 (by decide) (by decide)) dX8_bestFrom_82 ?_
            refine lv_topi (fun x82 ex82 => ?_)
            refine lv_iload hx hb dX8_bestFrom_83 (lv_at hl 0 rfl) ?_
            have J93 : ∀ (j93s0 : Int32) (H : Heap) (locs : List Loc) (ls : Array Slot), (0 : Int) ≤ j93s0.toInt → j93s0.toInt ≤ (1 : Int) → va_P (dC, dI) vwCl [(a0, .inr (8, [a0g_0, a0g_1, a0g_2, a0g_3, a0g_4, a0g_5, a0g_6, a0g_7, a0g_8, a0g_9, a0g_10, a0g_11, a0g_12, a0g_13, a0g_14, Value.ref a0_15, a0g_16, a0g_17, a0g_18, a0g_19, a0g_20, a0g_21, a0g_22, a0g_23, a0g_24, a0g_25, a0g_26, a0g_27, a0g_28, a0g_29, a0g_30, a0g_31, Value.ref a0_32, Value.ref a0_33, a0g_34, a0g_35, a0g_36, a0g_37, a0g_38, a0g_39])), (a0_15, .inl (ka0_15, 156, .inl (fa0_15))), (a0_33, .inl (ka0_33, 620, .inl (fa0_33))), (a0_32, .inl (ka0_32, 61, .inl (fa0_32)))] H → va_D A [(a0, .inr (8, [a0g_0, a0g_1, a0g_2, a0g_3, a0g_4, a0g_5, a0g_6, a0g_7, a0g_8, a0g_9, a0g_10, a0g_11, a0g_12, a0g_13, a0g_14, Value.ref a0_15, a0g_16, a0g_17, a0g_18, a0g_19, a0g_20, a0g_21, a0g_22, a0g_23, a0g_24, a0g_25, a0g_26, a0g_27, a0g_28, a0g_29, a0g_30, a0g_31, Value.ref a0_32, Value.ref a0_33, a0g_34, a0g_35, a0g_36, a0g_37, a0g_38, a0g_39])), (a0_15, .inl (ka0_15, 156, .inl (fa0_15))), (a0_33, .inl (ka0_33, 620, .inl (fa0_33))), (a0_32, .inl (ka0_32, 61, .inl (fa0_32)))] → va_S A s.heap H locs → lv_has ls 9 [(0, .ref a0), (1, .int a1), (2, .int a2), (3, .int a3), (4, .int j9l4), (5, .int j9l5), (6, .int j9l6), (7, .int j39s0)] → K H locs (F0 m 93 ls [.int j93s0, .int x74]) := by
              intro j93s0 H locs ls  bj93s0_l bj93s0_u hP hD hS hl
              refine (hK0 _ _ _).mpr ?_
              refine lv_iadd hx hb dX8_bestFrom_93 ?_
              refine lv_topi (fun x93 ex93 => ?_)
              refine lv_istore (lv' := [(8, .int x93), (0, .ref a0), (1, .int a1), (2, .int a2), (3, .int a3), (4, .int j9l4), (5, .int j9l5), (6, .int j9l6), (7, .int j39s0)]) hx hb dX8_bestFrom_94 hl (by decide) rfl (fun ls hl => ?_)
              refine lv_iload hx hb dX8_bestFrom_96 (lv_at hl 0 rfl) ?_
              refine lv_iload hx hb dX8_bestFrom_98 (lv_at hl 5 rfl) ?_
              refine lv_icmp_gt (tgt := 106) hx hb dX8_bestFrom_100 (by decide) (fun c100 => ?_) (fun c100 => ?_)
              · have gc100 := ai_lt c100
                have u100t_j9l4 : j9l4.toInt ≤ (2147483646 : Int) := ai_lthi gc100 (ai_max x93)
                have l100t_x93 : (0 : Int) ≤ x93.toInt := ai_ltlo gc100 bj9l4_l
                refine lv_iload hx hb dX8_bestFrom_106 (lv_at hl 0 rfl) ?_
                refine lv_istore (lv' := [(4, .int x93), (8, .int x93), (0, .ref a0), (1, .int a1), (2, .int a2), (3, .int a3), (5, .int j9l5), (6, .int j9l6), (7, .int j39s0)]) hx hb dX8_bestFrom_108 hl (by decide) rfl (fun ls hl => ?_)
                refine lv_iload hx hb dX8_bestFrom_110 (lv_at hl 8 rfl) ?_
                refine lv_istore (lv' := [(5, .int j39s0), (4, .int x93), (8, .int x93), (0, .ref a0), (1, .int a1), (2, .int a2), (3, .int a3), (6, .int j9l6), (7, .int j39s0)]) hx hb dX8_bestFrom_112 hl (by decide) rfl (fun ls hl => ?_)
                exact (hK0 _ _ _).mp (J114 x93 j39s0 _ _ _  (Int.le_trans zq69 l100t_x93) l52k0_j39s0 u52k0_j39s0 hP hD hS (lv_sub hl [3, 4, 5, 6, 1, 0, 7] rfl))
              · have gc100 := ai_nlt c100
                refine lv_goto (tgt := 114) hx hb dX8_bestFrom_103 (by decide) ?_
                exact (hK0 _ _ _).mp (J114 j9l4 j9l5 _ _ _  bj9l4_l bj9l5_l bj9l5_u hP hD hS (lv_sub hl [1, 2, 3, 4, 5, 6, 7] rfl))
            refine lv_icmp_ne (tgt := 92) hx hb dX8_bestFrom_85 (by decide) (fun c85 => ?_) (fun c85 => ?_)
            · have gc85 := ai_ne c85
              refine lv_iconst (v := 0) hx hb dX8_bestFrom_92 zk_iconst_0 ?_
              exact (hK0 _ _ _).mp (J93 0 _ _ _  zq5 (Int.le_trans zq6 zq4) hP hD hS (lv_sub hl [1, 2, 3, 4, 5, 6, 7, 0] rfl))
            · have gc85 := ai_eq c85
              have u85f_x82 : x82.toInt ≤ (8 : Int) := Int.le_trans (Int.le_of_eq gc85) u52k0_j39s0
              have l85f_x82 : (0 : Int) ≤ x82.toInt := Int.le_trans l52k0_j39s0 (Int.le_of_eq gc85.symm)
              refine lv_iconst (v := 1) hx hb dX8_bestFrom_88 zk_iconst_1 ?_
              refine lv_goto (tgt := 93) hx hb dX8_bestFrom_89 (by decide) ?_
              exact (hK0 _ _ _).mp (J93 1 _ _ _  (Int.le_trans zq4 zq1) zq0 hP hD hS (lv_sub hl [1, 2, 3, 4, 5, 6, 7, 0] rfl))
          · obtain ⟨hw, h52⟩ := hw
            subst hw
            refine lv_if_ne (tgt := 61) hx hb dX8_bestFrom_55 (by decide) (fun c55 => absurd (by decide +kernel) c55) (fun _ => ?_)
            have J114 : ∀ (j114l4 : Int32) (j114l5 : Int32) (H : Heap) (locs : List Loc) (ls : Array Slot), (-1 : Int) ≤ j114l4.toInt → (0 : Int) ≤ j114l5.toInt → j114l5.toInt ≤ (8 : Int) → va_P (dC, dI) vwCl [(a0, .inr (8, [a0g_0, a0g_1, a0g_2, a0g_3, a0g_4, a0g_5, a0g_6, a0g_7, a0g_8, a0g_9, a0g_10, a0g_11, a0g_12, a0g_13, a0g_14, Value.ref a0_15, a0g_16, a0g_17, a0g_18, a0g_19, a0g_20, a0g_21, a0g_22, a0g_23, a0g_24, a0g_25, a0g_26, a0g_27, a0g_28, a0g_29, a0g_30, a0g_31, Value.ref a0_32, Value.ref a0_33, a0g_34, a0g_35, a0g_36, a0g_37, a0g_38, a0g_39])), (a0_15, .inl (ka0_15, 156, .inl (fa0_15))), (a0_33, .inl (ka0_33, 620, .inl (fa0_33))), (a0_32, .inl (ka0_32, 61, .inl (fa0_32)))] H → va_D A [(a0, .inr (8, [a0g_0, a0g_1, a0g_2, a0g_3, a0g_4, a0g_5, a0g_6, a0g_7, a0g_8, a0g_9, a0g_10, a0g_11, a0g_12, a0g_13, a0g_14, Value.ref a0_15, a0g_16, a0g_17, a0g_18, a0g_19, a0g_20, a0g_21, a0g_22, a0g_23, a0g_24, a0g_25, a0g_26, a0g_27, a0g_28, a0g_29, a0g_30, a0g_31, Value.ref a0_32, Value.ref a0_33, a0g_34, a0g_35, a0g_36, a0g_37, a0g_38, a0g_39])), (a0_15, .inl (ka0_15, 156, .inl (fa0_15))), (a0_33, .inl (ka0_33, 620, .inl (fa0_33))), (a0_32, .inl (ka0_32, 61, .inl (fa0_32)))] → va_S A s.heap H locs → lv_has ls 9 [(0, .ref a0), (1, .int a1), (2, .int a2), (3, .int a3), (4, .int j114l4), (5, .int j114l5), (6, .int j9l6)] → K H locs (F0 m 114 ls []) := by
              intro j114l4 j114l5 H locs ls  bj114l4_l bj114l5_l bj114l5_u hP hD hS hl
              refine (hK0 _ _ _).mpr ?_
              obtain ⟨x114, ex114⟩ : ∃ y : Int32, y = j9l6 + Int32.ofInt 1 := ⟨_, rfl⟩
              have qx114 : x114.toInt = j9l6.toInt + 1 := ai_inc ex114 (by decide) (by decide) u12f_j9l6 (by decide)
              have bx114 : (1 : Int) ≤ x114.toInt ∧ x114.toInt ≤ 3 := ⟨by rw [qx114]; exact Int.add_le_add bj9l6_l (Int.le_refl _), by rw [qx114]; exact Int.add_le_add u12f_j9l6 (Int.le_refl _)⟩
              refine lv_iinc (v := x114) (lv' := [(6, .int x114), (0, .ref a0), (1, .int a1), (2, .int a2), (3, .int a3), (4, .int j114l4), (5, .int j114l5)]) hx hb dX8_bestFrom_114 hl (k := 6) rfl ex114.symm (by decide) rfl (fun ls hl => ?_)
              refine lv_goto (tgt := 9) hx hb dX8_bestFrom_117 (by decide) ?_
              exact (hK0 _ _ _).mp (ih9 x114 j114l5 j114l4 _ _ _ (by first | exact zg_s hm9 qx114 | (have h0 := qx114; omega)) (Int.le_trans zq4 bx114.1) bx114.2 bj114l5_l bj114l5_u bj114l4_l hP hD hS (lv_sub hl [1, 2, 3, 4, 5, 6, 0] rfl))
            refine lv_goto (tgt := 114) hx hb dX8_bestFrom_58 (by decide) ?_
            exact (hK0 _ _ _).mp (J114 j9l4 j9l5 _ _ _  bj9l4_l bj9l5_l bj9l5_u hP hD hS (lv_sub hl [1, 2, 3, 4, 5, 6, 7] rfl))
        refine lv_if_ne (tgt := 24) hx hb dX8_bestFrom_17 (by decide) (fun c17 => ?_) (fun c17 => ?_)
        · have gc17 := ai_ne c17
          have l17t_j9l6 : (1 : Int) ≤ j9l6.toInt := (by first | exact zg_l bj9l6_l gc17 (by decide) (by decide) | (have h1 := bj9l6_l; have h2 : (0 : Int32).toInt = 0 := (by decide); rw [h2] at gc17; omega))
          refine lv_iload hx hb dX8_bestFrom_24 (lv_at hl 6 rfl) ?_
          refine lv_iconst (v := 1) hx hb dX8_bestFrom_26 zk_iconst_1 ?_
          refine lv_icmp_ne (tgt := 36) hx hb dX8_bestFrom_27 (by decide) (fun c27 => ?_) (fun c27 => ?_)
          · have gc27 := ai_ne c27
            have l27t_j9l6 : (2 : Int) ≤ j9l6.toInt := (by first | exact zg_l l17t_j9l6 gc27 (by decide) (by decide) | (have h1 := l17t_j9l6; have h2 : (1 : Int32).toInt = 1 := (by decide); rw [h2] at gc27; omega))
            refine lv_iload_n hx hb dX8_bestFrom_36 rfl (lv_at hl 2 rfl) ?_
            refine lv_iconst (v := 1) hx hb dX8_bestFrom_37 zk_iconst_1 ?_
            refine lv_iadd hx hb dX8_bestFrom_38 ?_
            refine lv_topi (fun x38 ex38 => ?_)
            have qx38 : x38.toInt = a2.toInt + (1 : Int32).toInt := ai_add ex38 ⟨ba2_l, ba2_u⟩ ⟨zq1, zq0⟩ (by decide) (by decide)
            have bx38 : (1 : Int) ≤ x38.toInt ∧ x38.toInt ≤ 9 := ⟨by rw [qx38]; exact Int.add_le_add ba2_l zq1, by rw [qx38]; exact Int.add_le_add ba2_u zq0⟩
            have wx38 : x38.toInt = a2.toInt + 1 := qx38
            exact (hK0 _ _ _).mp (J39 x38 _ _ _  (Int.le_trans zq78 bx38.1) bx38.2 hP hD hS (lv_sub hl [0, 1, 2, 3, 4, 5, 6] rfl))
          · have gc27 := ai_eq c27
            have u27f_j9l6 : j9l6.toInt ≤ (1 : Int) := Int.le_trans (Int.le_of_eq gc27) zq0
            have l27f_j9l6 : (1 : Int) ≤ j9l6.toInt := l17t_j9l6
            refine lv_iload_n hx hb dX8_bestFrom_30 rfl (lv_at hl 2 rfl) ?_
            refine lv_iconst (v := 1) hx hb dX8_bestFrom_31 zk_iconst_1 ?_
            refine lv_isub hx hb dX8_bestFrom_32 ?_
            refine lv_topi (fun x32 ex32 => ?_)
            have qx32 : x32.toInt = a2.toInt - (1 : Int32).toInt := ai_sub ex32 ⟨ba2_l, ba2_u⟩ ⟨zq1, zq0⟩ (by decide) (by decide)
            have bx32 : (-1 : Int) ≤ x32.toInt ∧ x32.toInt ≤ 7 := ⟨by rw [qx32]; exact Int.sub_le_sub ba2_l zq0, by rw [qx32]; exact Int.sub_le_sub ba2_u zq1⟩
            have wx32 : x32.toInt = a2.toInt - 1 := qx32
            refine lv_goto (tgt := 39) hx hb dX8_bestFrom_33 (by decide) ?_
            exact (hK0 _ _ _).mp (J39 x32 _ _ _  bx32.1 (Int.le_trans bx32.2 zq196) hP hD hS (lv_sub hl [0, 1, 2, 3, 4, 5, 6] rfl))
        · have gc17 := ai_eq c17
          have u17f_j9l6 : j9l6.toInt ≤ (0 : Int) := Int.le_trans (Int.le_of_eq gc17) zq6
          have l17f_j9l6 : (0 : Int) ≤ j9l6.toInt := bj9l6_l
          refine lv_iload_n hx hb dX8_bestFrom_20 rfl (lv_at hl 2 rfl) ?_
          refine lv_goto (tgt := 39) hx hb dX8_bestFrom_21 (by decide) ?_
          exact (hK0 _ _ _).mp (J39 a2 _ _ _  (Int.le_trans zq69 ba2_l) (Int.le_trans ba2_u zq22) hP hD hS (lv_sub hl [0, 1, 2, 3, 4, 5, 6] rfl))
  exact (hK0 _ _ _).mp (J9 4 0 a2 (-1) _ _ _ (by first | decide +kernel | (have h1 : (0 : Int) ≤ (0 : Int32).toInt := zq5; have h2 : (0 : Int32).toInt ≤ (0 : Int) := zq6; omega)) zq5 (Int.le_trans zq6 zq11) ba2_l ba2_u zq70 hP hD hS (lv_sub hl [3, 4, 5, 6, 2, 1, 0] rfl))

set_option maxHeartbeats 4000000 in
set_option maxRecDepth 100000 in
theorem c_X8_layRoute (l : Launch) (dC : Nat → ClassId) (dI : Nat → Nat → Nat) (sz : Nat) (a0 : Nat) (a1 : Int32) (a0g_0 a0g_1 a0g_2 a0g_3 a0g_4 a0g_5 a0g_6 a0g_7 a0g_8 a0g_9 a0g_10 a0g_11 a0g_12 a0g_13 a0g_14 a0g_16 a0g_19 a0g_20 a0g_21 a0g_22 a0g_29 a0g_30 a0g_31 a0g_34 a0g_35 a0g_36 a0g_37 a0g_38 a0g_39 : Value) (a0_15 : Nat) (a0_17 : Nat) (a0_18 : Nat) (a0_23 : Nat) (a0_24 : Nat) (a0_25 : Int32) (a0_26 : Int32) (a0_27 : Int32) (a0_28 : Int32) (a0_32 : Nat) (a0_33 : Nat) (ka0_15 : ClassId) (fa0_15 : Nat → Int32) (ka0_23 : ClassId) (fa0_23 : Nat → Int32) (ka0_24 : ClassId) (fa0_24 : Nat → Int32) (ka0_17 : ClassId) (fa0_17 : Nat → Int32) (ka0_18 : ClassId) (fa0_18 : Nat → Int32) (ka0_32 : ClassId) (fa0_32 : Nat → Int32) (ka0_33 : ClassId) (fa0_33 : Nat → Int32) (ba1_l : (1 : Int) ≤ a1.toInt) (ba1_u : a1.toInt ≤ (60 : Int)) (bfa0_15 : ((∀ k : Nat, 0 ≤ k → k ≤ 0 → (2 : Int) ≤ (fa0_15 k).toInt ∧ (fa0_15 k).toInt ≤ 9) ∧ (∀ k : Nat, 1 ≤ k → k ≤ 1 → (1 : Int) ≤ (fa0_15 k).toInt ∧ (fa0_15 k).toInt ≤ 20) ∧ (∀ k : Nat, 2 ≤ k → k ≤ 2 → (0 : Int) ≤ (fa0_15 k).toInt ∧ (fa0_15 k).toInt ≤ 8) ∧ (∀ k : Nat, 3 ≤ k → k ≤ 3 → (0 : Int) ≤ (fa0_15 k).toInt ∧ (fa0_15 k).toInt ≤ 100) ∧ (∀ k : Nat, 4 ≤ k → k ≤ 4 → (0 : Int) ≤ (fa0_15 k).toInt ∧ (fa0_15 k).toInt ≤ 9) ∧ (∀ k : Nat, 5 ≤ k → k ≤ 5 → (0 : Int) ≤ (fa0_15 k).toInt ∧ (fa0_15 k).toInt ≤ 3) ∧ (∀ k : Nat, 6 ≤ k → k ≤ 6 → (0 : Int) ≤ (fa0_15 k).toInt ∧ (fa0_15 k).toInt ≤ 6) ∧ (∀ k : Nat, 7 ≤ k → k ≤ 9 → (0 : Int) ≤ (fa0_15 k).toInt ∧ (fa0_15 k).toInt ≤ 8) ∧ (∀ k : Nat, 12 ≤ k → k ≤ 29 → (0 : Int) ≤ (fa0_15 k).toInt ∧ (fa0_15 k).toInt ≤ 20) ∧ (∀ k : Nat, 30 ≤ k → k ≤ 35 → (0 : Int) ≤ (fa0_15 k).toInt ∧ (fa0_15 k).toInt ≤ 8) ∧ (∀ k : Nat, 36 ≤ k → k ≤ 47 → (0 : Int) ≤ (fa0_15 k).toInt ∧ (fa0_15 k).toInt ≤ 999))) (bfa0_23 : (∀ k, (0 : Int) ≤ (fa0_23 k).toInt ∧ (fa0_23 k).toInt ≤ 80)) (bfa0_24 : (∀ k, (0 : Int) ≤ (fa0_24 k).toInt ∧ (fa0_24 k).toInt ≤ 80)) (bfa0_17 : ((∀ k : Nat, 0 ≤ k → k ≤ 8 → (0 : Int) ≤ (fa0_17 k).toInt ∧ (fa0_17 k).toInt ≤ 8) ∧ (∀ k : Nat, 19 ≤ k → k ≤ 19 → (0 : Int) ≤ (fa0_17 k).toInt ∧ (fa0_17 k).toInt ≤ 8) ∧ (∀ k : Nat, 20 ≤ k → k ≤ 20 → (0 : Int) ≤ (fa0_17 k).toInt ∧ (fa0_17 k).toInt ≤ 19))) (bfa0_18 : ((∀ k : Nat, 0 ≤ k → k ≤ 8 → (0 : Int) ≤ (fa0_18 k).toInt ∧ (fa0_18 k).toInt ≤ 8) ∧ (∀ k : Nat, 19 ≤ k → k ≤ 19 → (0 : Int) ≤ (fa0_18 k).toInt ∧ (fa0_18 k).toInt ≤ 8) ∧ (∀ k : Nat, 20 ≤ k → k ≤ 20 → (0 : Int) ≤ (fa0_18 k).toInt ∧ (fa0_18 k).toInt ≤ 19))) (hkm : ∀ (j i0 i : Int32), (0 : Int) ≤ j.toInt → j.toInt ≤ 8 → i0.toInt = 12 + 2 * j.toInt → i.toInt = 13 + 2 * j.toInt → (fa0_15 i0.toNatClampNeg).toInt = (1 : Int32).toInt → (1 : Int) ≤ (fa0_15 i.toNatClampNeg).toInt) : zm l yX8_layRoute wsX8_layRoute ({ frames := 4, cells := 0, slots := 0, locals := 95 }) [.ref a0, .int a1] dC dI sz [(a0, .inr (8, [a0g_0, a0g_1, a0g_2, a0g_3, a0g_4, a0g_5, a0g_6, a0g_7, a0g_8, a0g_9, a0g_10, a0g_11, a0g_12, a0g_13, a0g_14, Value.ref a0_15, a0g_16, Value.ref a0_17, Value.ref a0_18, a0g_19, a0g_20, a0g_21, a0g_22, Value.ref a0_23, Value.ref a0_24, Value.int a0_25, Value.int a0_26, Value.int a0_27, Value.int a0_28, a0g_29, a0g_30, a0g_31, Value.ref a0_32, Value.ref a0_33, a0g_34, a0g_35, a0g_36, a0g_37, a0g_38, a0g_39])), (a0_15, .inl (ka0_15, 156, .inl (fa0_15))), (a0_23, .inl (ka0_23, 3, .inl (fa0_23))), (a0_24, .inl (ka0_24, 3, .inl (fa0_24))), (a0_17, .inl (ka0_17, 23, .inl (fa0_17))), (a0_18, .inl (ka0_18, 23, .inl (fa0_18))), (a0_32, .inl (ka0_32, 61, .inl (fa0_32))), (a0_33, .inl (ka0_33, 620, .inl (fa0_33)))] [(ka0_15, .int), (ka0_23, .int), (ka0_24, .int), (ka0_17, .int), (ka0_18, .int), (ka0_32, .int), (ka0_33, .int)] (fun A _ => True) (fun A => va_Qv (fun (_ : Unit) => True) (fun (_ : Unit) (t : State) => ∃ na0_25 : Int32, ∃ na0_26 : Int32, ∃ na0_27 : Int32, ∃ na0_28 : Int32, ∃ nfa0_23 : Nat → Int32, ∃ nfa0_24 : Nat → Int32, ∃ nfa0_18 : Nat → Int32, ∃ nfa0_32 : Nat → Int32, ∃ nfa0_33 : Nat → Int32, (∀ k, (0 : Int) ≤ (nfa0_23 k).toInt ∧ (nfa0_23 k).toInt ≤ 80) ∧ (∀ k, (0 : Int) ≤ (nfa0_24 k).toInt ∧ (nfa0_24 k).toInt ≤ 80) ∧ ((∀ k : Nat, 0 ≤ k → k ≤ 8 → (0 : Int) ≤ (nfa0_18 k).toInt ∧ (nfa0_18 k).toInt ≤ 8) ∧ (∀ k : Nat, 19 ≤ k → k ≤ 19 → (0 : Int) ≤ (nfa0_18 k).toInt ∧ (nfa0_18 k).toInt ≤ 8) ∧ (∀ k : Nat, 20 ≤ k → k ≤ 20 → (0 : Int) ≤ (nfa0_18 k).toInt ∧ (nfa0_18 k).toInt ≤ 19)) ∧ ax_B dC dI A [(a0, .inr (8, [a0g_0, a0g_1, a0g_2, a0g_3, a0g_4, a0g_5, a0g_6, a0g_7, a0g_8, a0g_9, a0g_10, a0g_11, a0g_12, a0g_13, a0g_14, Value.ref a0_15, a0g_16, Value.ref a0_17, Value.ref a0_18, a0g_19, a0g_20, a0g_21, a0g_22, Value.ref a0_23, Value.ref a0_24, Value.int na0_25, Value.int na0_26, Value.int na0_27, Value.int na0_28, a0g_29, a0g_30, a0g_31, Value.ref a0_32, Value.ref a0_33, a0g_34, a0g_35, a0g_36, a0g_37, a0g_38, a0g_39])), (a0_15, .inl (ka0_15, 156, .inl (fa0_15))), (a0_23, .inl (ka0_23, 3, .inl (nfa0_23))), (a0_24, .inl (ka0_24, 3, .inl (nfa0_24))), (a0_17, .inl (ka0_17, 23, .inl (fa0_17))), (a0_18, .inl (ka0_18, 23, .inl (nfa0_18))), (a0_32, .inl (ka0_32, 61, .inl (nfa0_32))), (a0_33, .inl (ka0_33, 620, .inl (nfa0_33)))] [(ka0_15, .int), (ka0_23, .int), (ka0_24, .int), (ka0_17, .int), (ka0_18, .int), (ka0_32, .int), (ka0_33, .int)] t) A) := by
  refine zh (cc := cX8_layRoute) (maxL := 4) (ret := none) zn_RX8 rfl (Nat.le_of_ble_eq_true rfl) (fun p e s m below meth c A ls hx hb hml hr hts (hown : s.vm.findClass RX8 = some m.cls) hlocks hA hS hP hK hD hE (hl : lv_has ls 4 [(0, .ref a0), (1, .int a1)]) => ?_)
  refine ai_open (fun K hK0 => ?_)
  refine (hK0 _ _ _).mpr ?_
  refine lv_aload_n hx hb dX8_layRoute_0 rfl (lv_at hl 0 rfl) ?_
  have hKc := hK.sub (tys' := [(ka0_15, .int), (ka0_23, .int), (ka0_24, .int), (ka0_17, .int), (ka0_18, .int)]) [0, 1, 2, 3, 4] rfl
  refine va_callv (va_runV (As := []) (rest := []) ⟨hx, hb, hml, hown, hts⟩ (c_X8_begin l dC dI s.heap.size a0 a0g_0 a0g_1 a0g_2 a0g_3 a0g_4 a0g_5 a0g_6 a0g_7 a0g_8 a0g_9 a0g_10 a0g_11 a0g_12 a0g_13 a0g_14 a0g_16 a0g_19 a0g_20 a0g_21 a0g_22 (Value.int a0_26) (Value.int a0_27) (Value.int a0_28) a0g_29 a0g_30 a0g_31 (Value.ref a0_32) (Value.ref a0_33) a0g_34 a0g_35 a0g_36 a0g_37 a0g_38 a0g_39 a0_15 a0_17 a0_18 a0_23 a0_24 a0_25 ka0_15 fa0_15 ka0_23 fa0_23 ka0_24 fa0_24 ka0_17 fa0_17 ka0_18 fa0_18 bfa0_15 bfa0_23 bfa0_24 bfa0_17 bfa0_18) (cwV 0 hts gX8_layRoute_X8_begin rfl rfl rfl zd_X8_begin ⟨Nat.le_of_ble_eq_true rfl, Nat.le_of_ble_eq_true rfl⟩) ⟨ax_blind (fun _ _ _ _ _ => trivial), zr_8 hKc (zp_P6 hP) (q0 := 0) rfl, ax_pre (zp_P6 hP) hKc (zp_D6 hD) (fun _ _ => trivial)⟩ rfl rfl hl.1 rfl (lv_room (Nat.le_of_ble_eq_true rfl)) dX8_layRoute_1 ⟨Nat.le_of_ble_eq_true rfl, Nat.le_of_ble_eq_true rfl⟩) hS (fun q _ h => zp_F6 hD hS hA q h) (zp_F6 hD hS hA) (fun u t H locs ht hvm hw => zx_4 (fun v1na0_25 v1nfa0_23 v1nfa0_24 v1nfa0_18 => zy_3 (fun bv1nfa0_23 bv1nfa0_24 bv1nfa0_18 hB hz1 hk1 hS1 => zo6 hB ht hP hD hk1 (zp_F6 hD hS hA) hS1 (fun hP hK1 hD hS => ?_))))
  refine lv_iconst (v := 1) hx hb dX8_layRoute_4 zk_iconst_1 ?_
  refine lv_istore_n (lv' := [(2, .int 1), (0, .ref a0), (1, .int a1)]) hx hb dX8_layRoute_5 rfl hl (by decide) rfl (fun ls hl => ?_)
  have J6 : ∀ (n : Nat) (j6l2 : Int32) (j6a0_26 : Int32) (j6a0_27 : Int32) (j6a0_28 : Int32) (j6a0_18_a : Nat → Int32) (j6a0_32_a : Nat → Int32) (H : Heap) (locs : List Loc) (ls : Array Slot), (81 : Int) - j6l2.toInt ≤ (n : Int) → (1 : Int) ≤ j6l2.toInt → j6l2.toInt ≤ (80 : Int) → ((∀ k : Nat, 0 ≤ k → k ≤ 8 → (0 : Int) ≤ (j6a0_18_a k).toInt ∧ (j6a0_18_a k).toInt ≤ 8) ∧ (∀ k : Nat, 19 ≤ k → k ≤ 19 → (0 : Int) ≤ (j6a0_18_a k).toInt ∧ (j6a0_18_a k).toInt ≤ 8) ∧ (∀ k : Nat, 20 ≤ k → k ≤ 20 → (0 : Int) ≤ (j6a0_18_a k).toInt ∧ (j6a0_18_a k).toInt ≤ 19)) → va_P (dC, dI) vwCl [(a0, .inr (8, [a0g_0, a0g_1, a0g_2, a0g_3, a0g_4, a0g_5, a0g_6, a0g_7, a0g_8, a0g_9, a0g_10, a0g_11, a0g_12, a0g_13, a0g_14, Value.ref a0_15, a0g_16, Value.ref a0_17, Value.ref a0_18, a0g_19, a0g_20, a0g_21, a0g_22, Value.ref a0_23, Value.ref a0_24, Value.int v1na0_25, Value.int j6a0_26, Value.int j6a0_27, Value.int j6a0_28, a0g_29, a0g_30, a0g_31, Value.ref a0_32, Value.ref a0_33, a0g_34, a0g_35, a0g_36, a0g_37, a0g_38, a0g_39])), (a0_15, .inl (ka0_15, 156, .inl (fa0_15))), (a0_23, .inl (ka0_23, 3, .inl (v1nfa0_23))), (a0_24, .inl (ka0_24, 3, .inl (v1nfa0_24))), (a0_17, .inl (ka0_17, 23, .inl (fa0_17))), (a0_18, .inl (ka0_18, 23, .inl (j6a0_18_a))), (a0_32, .inl (ka0_32, 61, .inl (j6a0_32_a))), (a0_33, .inl (ka0_33, 620, .inl (fa0_33)))] H → va_D A [(a0, .inr (8, [a0g_0, a0g_1, a0g_2, a0g_3, a0g_4, a0g_5, a0g_6, a0g_7, a0g_8, a0g_9, a0g_10, a0g_11, a0g_12, a0g_13, a0g_14, Value.ref a0_15, a0g_16, Value.ref a0_17, Value.ref a0_18, a0g_19, a0g_20, a0g_21, a0g_22, Value.ref a0_23, Value.ref a0_24, Value.int v1na0_25, Value.int j6a0_26, Value.int j6a0_27, Value.int j6a0_28, a0g_29, a0g_30, a0g_31, Value.ref a0_32, Value.ref a0_33, a0g_34, a0g_35, a0g_36, a0g_37, a0g_38, a0g_39])), (a0_15, .inl (ka0_15, 156, .inl (fa0_15))), (a0_23, .inl (ka0_23, 3, .inl (v1nfa0_23))), (a0_24, .inl (ka0_24, 3, .inl (v1nfa0_24))), (a0_17, .inl (ka0_17, 23, .inl (fa0_17))), (a0_18, .inl (ka0_18, 23, .inl (j6a0_18_a))), (a0_32, .inl (ka0_32, 61, .inl (j6a0_32_a))), (a0_33, .inl (ka0_33, 620, .inl (fa0_33)))] → va_S A s.heap H locs → lv_has ls 4 [(0, .ref a0), (1, .int a1), (2, .int j6l2)] → K H locs (F0 m 6 ls []) := by
    intro n
    induction n with
    | zero =>
      intro j6l2 j6a0_26 j6a0_27 j6a0_28 j6a0_18_a j6a0_32_a H locs ls hm bj6l2_l bj6l2_u bj6a0_18_a hP hD hS hl
      first | exact zg_0 hm bj6l2_u (by decide) | (have h8 := ai_min j6l2; have h9 := ai_max j6l2; exact absurd hm (by omega))
    | succ n ih6 =>
      intro j6l2 j6a0_26 j6a0_27 j6a0_28 j6a0_18_a j6a0_32_a H locs ls hm bj6l2_l bj6l2_u bj6a0_18_a hP hD hS hl
      refine (hK0 _ _ _).mpr ?_
      have hm6 := hm
      refine lv_iload_n hx hb dX8_layRoute_6 rfl (lv_at hl 2 rfl) ?_
      refine lv_iload_n hx hb dX8_layRoute_7 rfl (lv_at hl 1 rfl) ?_
      refine lv_icmp_gt (tgt := 35) hx hb dX8_layRoute_8 (by decide) (fun c8 => ?_) (fun c8 => ?_)
      · have gc8 := ai_lt c8
        have u8t_a1 : a1.toInt ≤ (60 : Int) := ba1_u
        have l8t_j6l2 : (2 : Int) ≤ j6l2.toInt := ai_ltlo gc8 ba1_l
        refine lv_iconst (v := 0) hx hb dX8_layRoute_35 zk_iconst_0 ?_
        refine lv_istore_n (lv' := [(2, .int 0), (0, .ref a0), (1, .int a1)]) hx hb dX8_layRoute_36 rfl hl (by decide) rfl (fun ls hl => ?_)
        have J37 : ∀ (n : Nat) (j37l2 : Int32) (j37a0_33_a : Nat → Int32) (H : Heap) (locs : List Loc) (ls : Array Slot), (10 : Int) - j37l2.toInt ≤ (n : Int) → (0 : Int) ≤ j37l2.toInt → j37l2.toInt ≤ (9 : Int) → va_P (dC, dI) vwCl [(a0, .inr (8, [a0g_0, a0g_1, a0g_2, a0g_3, a0g_4, a0g_5, a0g_6, a0g_7, a0g_8, a0g_9, a0g_10, a0g_11, a0g_12, a0g_13, a0g_14, Value.ref a0_15, a0g_16, Value.ref a0_17, Value.ref a0_18, a0g_19, a0g_20, a0g_21, a0g_22, Value.ref a0_23, Value.ref a0_24, Value.int v1na0_25, Value.int j6a0_26, Value.int j6a0_27, Value.int j6a0_28, a0g_29, a0g_30, a0g_31, Value.ref a0_32, Value.ref a0_33, a0g_34, a0g_35, a0g_36, a0g_37, a0g_38, a0g_39])), (a0_15, .inl (ka0_15, 156, .inl (fa0_15))), (a0_23, .inl (ka0_23, 3, .inl (v1nfa0_23))), (a0_24, .inl (ka0_24, 3, .inl (v1nfa0_24))), (a0_17, .inl (ka0_17, 23, .inl (fa0_17))), (a0_18, .inl (ka0_18, 23, .inl (j6a0_18_a))), (a0_32, .inl (ka0_32, 61, .inl (j6a0_32_a))), (a0_33, .inl (ka0_33, 620, .inl (j37a0_33_a)))] H → va_D A [(a0, .inr (8, [a0g_0, a0g_1, a0g_2, a0g_3, a0g_4, a0g_5, a0g_6, a0g_7, a0g_8, a0g_9, a0g_10, a0g_11, a0g_12, a0g_13, a0g_14, Value.ref a0_15, a0g_16, Value.ref a0_17, Value.ref a0_18, a0g_19, a0g_20, a0g_21, a0g_22, Value.ref a0_23, Value.ref a0_24, Value.int v1na0_25, Value.int j6a0_26, Value.int j6a0_27, Value.int j6a0_28, a0g_29, a0g_30, a0g_31, Value.ref a0_32, Value.ref a0_33, a0g_34, a0g_35, a0g_36, a0g_37, a0g_38, a0g_39])), (a0_15, .inl (ka0_15, 156, .inl (fa0_15))), (a0_23, .inl (ka0_23, 3, .inl (v1nfa0_23))), (a0_24, .inl (ka0_24, 3, .inl (v1nfa0_24))), (a0_17, .inl (ka0_17, 23, .inl (fa0_17))), (a0_18, .inl (ka0_18, 23, .inl (j6a0_18_a))), (a0_32, .inl (ka0_32, 61, .inl (j6a0_32_a))), (a0_33, .inl (ka0_33, 620, .inl (j37a0_33_a)))] → va_S A s.heap H locs → lv_has ls 4 [(0, .ref a0), (1, .int a1), (2, .int j37l2)] → K H locs (F0 m 37 ls []) := by
          intro n
          induction n with
          | zero =>
            intro j37l2 j37a0_33_a H locs ls hm bj37l2_l bj37l2_u hP hD hS hl
            first | exact zg_0 hm bj37l2_u (by decide) | (have h8 := ai_min j37l2; have h9 := ai_max j37l2; exact absurd hm (by omega))
          | succ n ih37 =>
            intro j37l2 j37a0_33_a H locs ls hm bj37l2_l bj37l2_u hP hD hS hl
            refine (hK0 _ _ _).mpr ?_
            have hm37 := hm
            refine lv_iload_n hx hb dX8_layRoute_37 rfl (lv_at hl 2 rfl) ?_
            refine lv_bipush (v := 9) hx hb dX8_layRoute_38 zk_bipush_9 ?_
            refine lv_icmp_ge (tgt := 61) hx hb dX8_layRoute_40 (by decide) (fun c40 => ?_) (fun c40 => ?_)
            · have gc40 := ai_le c40
              have l40t_j37l2 : (9 : Int) ≤ j37l2.toInt := Int.le_trans zq2 gc40
              refine lv_iload_n hx hb dX8_layRoute_61 rfl (lv_at hl 1 rfl) ?_
              refine lv_iconst (v := 1) hx hb dX8_layRoute_62 zk_iconst_1 ?_
              refine lv_isub hx hb dX8_layRoute_63 ?_
              refine lv_topi (fun x63 ex63 => ?_)
              have qx63 : x63.toInt = a1.toInt - (1 : Int32).toInt := ai_sub ex63 ⟨ba1_l, u8t_a1⟩ ⟨zq1, zq0⟩ (by decide) (by decide)
              have bx63 : (0 : Int) ≤ x63.toInt ∧ x63.toInt ≤ 59 := ⟨by rw [qx63]; exact Int.sub_le_sub ba1_l zq0, by rw [qx63]; exact Int.sub_le_sub u8t_a1 zq1⟩
              have wx63 : x63.toInt = a1.toInt - 1 := qx63
              refine lv_istore_n (lv' := [(2, .int x63), (0, .ref a0), (1, .int a1)]) hx hb dX8_layRoute_64 rfl hl (by decide) rfl (fun ls hl => ?_)
              have J65 : ∀ (n : Nat) (j65l2 : Int32) (j65a0_33_a : Nat → Int32) (H : Heap) (locs : List Loc) (ls : Array Slot), j65l2.toInt - (-2 : Int) ≤ (n : Int) → (-1 : Int) ≤ j65l2.toInt → j65l2.toInt ≤ (59 : Int) → va_P (dC, dI) vwCl [(a0, .inr (8, [a0g_0, a0g_1, a0g_2, a0g_3, a0g_4, a0g_5, a0g_6, a0g_7, a0g_8, a0g_9, a0g_10, a0g_11, a0g_12, a0g_13, a0g_14, Value.ref a0_15, a0g_16, Value.ref a0_17, Value.ref a0_18, a0g_19, a0g_20, a0g_21, a0g_22, Value.ref a0_23, Value.ref a0_24, Value.int v1na0_25, Value.int j6a0_26, Value.int j6a0_27, Value.int j6a0_28, a0g_29, a0g_30, a0g_31, Value.ref a0_32, Value.ref a0_33, a0g_34, a0g_35, a0g_36, a0g_37, a0g_38, a0g_39])), (a0_15, .inl (ka0_15, 156, .inl (fa0_15))), (a0_23, .inl (ka0_23, 3, .inl (v1nfa0_23))), (a0_24, .inl (ka0_24, 3, .inl (v1nfa0_24))), (a0_17, .inl (ka0_17, 23, .inl (fa0_17))), (a0_18, .inl (ka0_18, 23, .inl (j6a0_18_a))), (a0_32, .inl (ka0_32, 61, .inl (j6a0_32_a))), (a0_33, .inl (ka0_33, 620, .inl (j65a0_33_a)))] H → va_D A [(a0, .inr (8, [a0g_0, a0g_1, a0g_2, a0g_3, a0g_4, a0g_5, a0g_6, a0g_7, a0g_8, a0g_9, a0g_10, a0g_11, a0g_12, a0g_13, a0g_14, Value.ref a0_15, a0g_16, Value.ref a0_17, Value.ref a0_18, a0g_19, a0g_20, a0g_21, a0g_22, Value.ref a0_23, Value.ref a0_24, Value.int v1na0_25, Value.int j6a0_26, Value.int j6a0_27, Value.int j6a0_28, a0g_29, a0g_30, a0g_31, Value.ref a0_32, Value.ref a0_33, a0g_34, a0g_35, a0g_36, a0g_37, a0g_38, a0g_39])), (a0_15, .inl (ka0_15, 156, .inl (fa0_15))), (a0_23, .inl (ka0_23, 3, .inl (v1nfa0_23))), (a0_24, .inl (ka0_24, 3, .inl (v1nfa0_24))), (a0_17, .inl (ka0_17, 23, .inl (fa0_17))), (a0_18, .inl (ka0_18, 23, .inl (j6a0_18_a))), (a0_32, .inl (ka0_32, 61, .inl (j6a0_32_a))), (a0_33, .inl (ka0_33, 620, .inl (j65a0_33_a)))] → va_S A s.heap H locs → lv_has ls 4 [(0, .ref a0), (2, .int j65l2)] → K H locs (F0 m 65 ls []) := by
                intro n
                induction n with
                | zero =>
                  intro j65l2 j65a0_33_a H locs ls hm bj65l2_l bj65l2_u hP hD hS hl
                  have h8 := ai_min j65l2
                  have h9 := ai_max j65l2
                  exact absurd hm (by omega)
                | succ n ih65 =>
                  intro j65l2 j65a0_33_a H locs ls hm bj65l2_l bj65l2_u hP hD hS hl
                  refine (hK0 _ _ _).mpr ?_
                  have hm65 := hm
                  refine lv_iload_n hx hb dX8_layRoute_65 rfl (lv_at hl 1 rfl) ?_
                  refine lv_if_lt (tgt := 111) hx hb dX8_layRoute_66 (by decide) (fun c66 => ?_) (fun c66 => ?_)
                  · have gc66 := ai_lt c66
                    have u66t_j65l2 : j65l2.toInt ≤ (-1 : Int) := ai_lthi gc66 zq6
                    exact W.vret hx hb hr (fun t ht hW => ⟨⟨(), rfl, trivial, v1na0_25, j6a0_26, j6a0_27, j6a0_28, v1nfa0_23, v1nfa0_24, j6a0_18_a, j6a0_32_a, j65a0_33_a, bv1nfa0_23, bv1nfa0_24, bj6a0_18_a, by rw [ht]; exact hP, va_K.moved hW.alike hK, hD⟩, hS.F ht⟩) hS.2.2 dX8_layRoute_111
                  · have gc66 := ai_nlt c66
                    have l66f_j65l2 : (0 : Int) ≤ j65l2.toInt := Int.le_trans zq5 gc66
                    refine lv_iconst (v := 0) hx hb dX8_layRoute_69 zk_iconst_0 ?_
                    refine lv_istore_n (lv' := [(3, .int 0), (0, .ref a0), (2, .int j65l2)]) hx hb dX8_layRoute_70 rfl hl (by decide) rfl (fun ls hl => ?_)
                    have J71 : ∀ (n : Nat) (j71l3 : Int32) (j71a0_33_a : Nat → Int32) (H : Heap) (locs : List Loc) (ls : Array Slot), (10 : Int) - j71l3.toInt ≤ (n : Int) → (0 : Int) ≤ j71l3.toInt → j71l3.toInt ≤ (9 : Int) → va_P (dC, dI) vwCl [(a0, .inr (8, [a0g_0, a0g_1, a0g_2, a0g_3, a0g_4, a0g_5, a0g_6, a0g_7, a0g_8, a0g_9, a0g_10, a0g_11, a0g_12, a0g_13, a0g_14, Value.ref a0_15, a0g_16, Value.ref a0_17, Value.ref a0_18, a0g_19, a0g_20, a0g_21, a0g_22, Value.ref a0_23, Value.ref a0_24, Value.int v1na0_25, Value.int j6a0_26, Value.int j6a0_27, Value.int j6a0_28, a0g_29, a0g_30, a0g_31, Value.ref a0_32, Value.ref a0_33, a0g_34, a0g_35, a0g_36, a0g_37, a0g_38, a0g_39])), (a0_15, .inl (ka0_15, 156, .inl (fa0_15))), (a0_23, .inl (ka0_23, 3, .inl (v1nfa0_23))), (a0_24, .inl (ka0_24, 3, .inl (v1nfa0_24))), (a0_17, .inl (ka0_17, 23, .inl (fa0_17))), (a0_18, .inl (ka0_18, 23, .inl (j6a0_18_a))), (a0_32, .inl (ka0_32, 61, .inl (j6a0_32_a))), (a0_33, .inl (ka0_33, 620, .inl (j71a0_33_a)))] H → va_D A [(a0, .inr (8, [a0g_0, a0g_1, a0g_2, a0g_3, a0g_4, a0g_5, a0g_6, a0g_7, a0g_8, a0g_9, a0g_10, a0g_11, a0g_12, a0g_13, a0g_14, Value.ref a0_15, a0g_16, Value.ref a0_17, Value.ref a0_18, a0g_19, a0g_20, a0g_21, a0g_22, Value.ref a0_23, Value.ref a0_24, Value.int v1na0_25, Value.int j6a0_26, Value.int j6a0_27, Value.int j6a0_28, a0g_29, a0g_30, a0g_31, Value.ref a0_32, Value.ref a0_33, a0g_34, a0g_35, a0g_36, a0g_37, a0g_38, a0g_39])), (a0_15, .inl (ka0_15, 156, .inl (fa0_15))), (a0_23, .inl (ka0_23, 3, .inl (v1nfa0_23))), (a0_24, .inl (ka0_24, 3, .inl (v1nfa0_24))), (a0_17, .inl (ka0_17, 23, .inl (fa0_17))), (a0_18, .inl (ka0_18, 23, .inl (j6a0_18_a))), (a0_32, .inl (ka0_32, 61, .inl (j6a0_32_a))), (a0_33, .inl (ka0_33, 620, .inl (j71a0_33_a)))] → va_S A s.heap H locs → lv_has ls 4 [(0, .ref a0), (2, .int j65l2), (3, .int j71l3)] → K H locs (F0 m 71 ls []) := by
                      intro n
                      induction n with
                      | zero =>
                        intro j71l3 j71a0_33_a H locs ls hm bj71l3_l bj71l3_u hP hD hS hl
                        first | exact zg_0 hm bj71l3_u (by decide) | (have h8 := ai_min j71l3; have h9 := ai_max j71l3; exact absurd hm (by omega))
                      | succ n ih71 =>
                        intro j71l3 j71a0_33_a H locs ls hm bj71l3_l bj71l3_u hP hD hS hl
                        refine (hK0 _ _ _).mpr ?_
                        have hm71 := hm
                        refine lv_iload_n hx hb dX8_layRoute_71 rfl (lv_at hl 2 rfl) ?_
                        refine lv_aload_n hx hb dX8_layRoute_72 rfl (lv_at hl 0 rfl) ?_
                        refine va_get (D := (dC, dI)) (ci := 8) (v := .ref a0_15) (C := RX8) (T := TX8) (N := 40) hx hb hts zi_X8_layRoute_8 hown hK hP 0 rfl rfl 15 (by decide) (hts (.fieldLink RX8 20 "WaxTurnsModel" "\x72" "[I") (zm_X8_layRoute_r1 (List.mem_of_getElem? (i := 4) rfl))) (fun _ h9 => h9) rfl dX8_layRoute_73 ?_
                        refine lv_iconst (v := 0) hx hb dX8_layRoute_76 zk_iconst_0 ?_
                        refine va_iald hx hb hK hP 1 0 rfl rfl (by unfold vp_in; decide +kernel) dX8_layRoute_77 ?_
                        refine lv_topi (fun x77 ex77 => ?_)
                        have bx77 : (2 : Int) ≤ x77.toInt ∧ x77.toInt ≤ 9 := by rw [ex77]; exact ai_rd bfa0_15.1 zq5 zq6 (by decide) (by decide) (by decide)
                        refine lv_icmp_ge (tgt := 105) hx hb dX8_layRoute_78 (by decide) (fun c78 => ?_) (fun c78 => ?_)
                        · have gc78 := ai_le c78
                          have u78t_x77 : x77.toInt ≤ (9 : Int) := bx77.2
                          have l78t_j71l3 : (2 : Int) ≤ j71l3.toInt := Int.le_trans bx77.1 gc78
                          obtain ⟨x105, ex105⟩ : ∃ y : Int32, y = j65l2 + Int32.ofInt (-1) := ⟨_, rfl⟩
                          have qx105 : x105.toInt = j65l2.toInt + -1 := ai_dec ex105 (by decide) (by decide) l66f_j65l2 (by decide)
                          have bx105 : (-1 : Int) ≤ x105.toInt ∧ x105.toInt ≤ 58 := ⟨by rw [qx105]; exact Int.add_le_add l66f_j65l2 (Int.le_refl _), by rw [qx105]; exact Int.add_le_add bj65l2_u (Int.le_refl _)⟩
                          refine lv_iinc (v := x105) (lv' := [(2, .int x105), (0, .ref a0), (3, .int j71l3)]) hx hb dX8_layRoute_105 hl (k := 1) rfl ex105.symm (by decide) rfl (fun ls hl => ?_)
                          refine lv_goto (tgt := 65) hx hb dX8_layRoute_108 (by decide) ?_
                          exact (hK0 _ _ _).mp (ih65 x105 j71a0_33_a _ _ _ (by have h0 := qx105; omega) bx105.1 (Int.le_trans bx105.2 zq197) hP hD hS (lv_sub hl [1, 0] rfl))
                        · have gc78 := ai_nle c78
                          have u78f_j71l3 : j71l3.toInt ≤ (8 : Int) := ai_lthi gc78 bx77.2
                          have l78f_x77 : (2 : Int) ≤ x77.toInt := bx77.1
                          refine lv_aload_n hx hb dX8_layRoute_81 rfl (lv_at hl 0 rfl) ?_
                          refine va_get (D := (dC, dI)) (ci := 8) (v := .ref a0_33) (C := RX8) (T := TX8) (N := 40) hx hb hts zi_X8_layRoute_8 hown hK hP 0 rfl rfl 33 (by decide) (hts (.fieldLink RX8 50 "WaxTurnsModel" "with" "[I") (zm_X8_layRoute_r1 (List.mem_of_getElem? (i := 3) rfl))) (fun _ h9 => h9) rfl dX8_layRoute_82 ?_
                          refine lv_bipush (v := 10) hx hb dX8_layRoute_85 zk_bipush_10 ?_
                          refine lv_iload_n hx hb dX8_layRoute_87 rfl (lv_at hl 1 rfl) ?_
                          refine lv_imul hx hb dX8_layRoute_88 ?_
                          refine lv_topi (fun x88 ex88 => ?_)
                          have qx88 : x88.toInt = (10 : Int32).toInt * j65l2.toInt ∧ (0 : Int) ≤ x88.toInt ∧ x88.toInt ≤ 590 := ai_mul ex88 ⟨zq26, zq27⟩ ⟨l66f_j65l2, bj65l2_u⟩ (by decide) (by decide) zq198
                          have wx88 : x88.toInt = 10 * j65l2.toInt := qx88.1
                          refine lv_iload_n hx hb dX8_layRoute_89 rfl (lv_at hl 2 rfl) ?_
                          refine lv_iadd hx hb dX8_layRoute_90 ?_
                          refine lv_topi (fun x90 ex90 => ?_)
                          have qx90 : x90.toInt = x88.toInt + j71l3.toInt := ai_add ex90 ⟨qx88.2.1, qx88.2.2⟩ ⟨bj71l3_l, u78f_j71l3⟩ (by decide) (by decide)
                          have bx90 : (0 : Int) ≤ x90.toInt ∧ x90.toInt ≤ 598 := ⟨by rw [qx90]; exact Int.add_le_add qx88.2.1 bj71l3_l, by rw [qx90]; exact Int.add_le_add qx88.2.2 u78f_j71l3⟩
                          refine lv_aload_n hx hb dX8_layRoute_91 rfl (lv_at hl 0 rfl) ?_
                          refine lv_iload_n hx hb dX8_layRoute_92 rfl (lv_at hl 1 rfl) ?_
                          refine lv_iload_n hx hb dX8_layRoute_93 rfl (lv_at hl 2 rfl) ?_
                          refine lv_iconst (v := 0) hx hb dX8_layRoute_94 zk_iconst_0 ?_
                          refine zc_cutc (wc := [(a0, .inr (8, [a0g_0, a0g_1, a0g_2, a0g_3, a0g_4, a0g_5, a0g_6, a0g_7, a0g_8, a0g_9, a0g_10, a0g_11, a0g_12, a0g_13, a0g_14, Value.ref a0_15, a0g_16, Value.ref a0_17, Value.ref a0_18, a0g_19, a0g_20, a0g_21, a0g_22, Value.ref a0_23, Value.ref a0_24, Value.int v1na0_25, Value.int j6a0_26, Value.int j6a0_27, Value.int j6a0_28, a0g_29, a0g_30, a0g_31, Value.ref a0_32, Value.ref a0_33, a0g_34, a0g_35, a0g_36, a0g_37, a0g_38, a0g_39])), (a0_15, .inl (ka0_15, 156, .inl (fa0_15))), (a0_33, .inl (ka0_33, 620, .inl (j71a0_33_a))), (a0_32, .inl (ka0_32, 61, .inl (j6a0_32_a)))]) hP hD hS hA [0, 1, 7, 6] (by decide +kernel) rfl (fun hPc hDc hFc hCc => ?_)
                          have hKc := hK.sub (tys' := [(ka0_15, .int), (ka0_33, .int), (ka0_32, .int)]) [0, 6, 5] rfl
                          refine va_calli (va_runV (As := [.int j65l2, .int j71l3, .int 0]) (rest := [.int x90, .ref a0_33]) ⟨hx, hb, hml, hown, hts⟩ (c_X8_bestFromN l dC dI H.size a0 j65l2 j71l3 0 a0g_0 a0g_1 a0g_2 a0g_3 a0g_4 a0g_5 a0g_6 a0g_7 a0g_8 a0g_9 a0g_10 a0g_11 a0g_12 a0g_13 a0g_14 a0g_16 (Value.ref a0_17) (Value.ref a0_18) a0g_19 a0g_20 a0g_21 a0g_22 (Value.ref a0_23) (Value.ref a0_24) (Value.int v1na0_25) (Value.int j6a0_26) (Value.int j6a0_27) (Value.int j6a0_28) a0g_29 a0g_30 a0g_31 a0g_34 a0g_35 a0g_36 a0g_37 a0g_38 a0g_39 a0_15 a0_32 a0_33 ka0_15 fa0_15 ka0_33 j71a0_33_a ka0_32 j6a0_32_a l66f_j65l2 bj65l2_u bj71l3_l u78f_j71l3 zq5 zq6 bfa0_15) (cwV 3 hts gX8_layRoute_X8_bestFrom rfl rfl rfl zd_X8_bestFrom ⟨Nat.le_of_ble_eq_true rfl, Nat.le_of_ble_eq_true rfl⟩) ⟨ax_blind (fun _ _ _ _ _ => trivial), zr_8 hKc hPc (q0 := 0) rfl, ax_pre hPc hKc hDc (fun _ _ => trivial)⟩ rfl rfl hl.1 rfl (lv_room (Nat.le_of_ble_eq_true rfl)) dX8_layRoute_95 ⟨Nat.le_of_ble_eq_true rfl, Nat.le_of_ble_eq_true rfl⟩) hS (fun q _ h => hFc q h) hFc (fun r95 u t H locs ht hvm hw hB hz1 hk1 hS1 => zo hB ht hS1 (fun hP1 hK1 hD1 hS => ?_))
                          refine zc_backc (w := [(a0, .inr (8, [a0g_0, a0g_1, a0g_2, a0g_3, a0g_4, a0g_5, a0g_6, a0g_7, a0g_8, a0g_9, a0g_10, a0g_11, a0g_12, a0g_13, a0g_14, Value.ref a0_15, a0g_16, Value.ref a0_17, Value.ref a0_18, a0g_19, a0g_20, a0g_21, a0g_22, Value.ref a0_23, Value.ref a0_24, Value.int v1na0_25, Value.int j6a0_26, Value.int j6a0_27, Value.int j6a0_28, a0g_29, a0g_30, a0g_31, Value.ref a0_32, Value.ref a0_33, a0g_34, a0g_35, a0g_36, a0g_37, a0g_38, a0g_39])), (a0_15, .inl (ka0_15, 156, .inl (fa0_15))), (a0_23, .inl (ka0_23, 3, .inl (v1nfa0_23))), (a0_24, .inl (ka0_24, 3, .inl (v1nfa0_24))), (a0_17, .inl (ka0_17, 23, .inl (fa0_17))), (a0_18, .inl (ka0_18, 23, .inl (j6a0_18_a))), (a0_32, .inl (ka0_32, 61, .inl (j6a0_32_a))), (a0_33, .inl (ka0_33, 620, .inl (j71a0_33_a)))]) hP hD hCc hk1 hFc hP1 hD1 [.inr 0, .inr 1, .inl 2, .inl 3, .inl 4, .inl 5, .inr 3, .inr 2] (by decide +kernel) rfl (fun hP hD => ?_)
                          have hw : (-1 : Int) ≤ r95.toInt := hw
                          obtain h95_0 := hw
                          refine va_iast hx hb hK hP hD hS 7 6 rfl rfl (ai_in bx90.1 bx90.2 (by decide) (by decide)) dX8_layRoute_98 (fun H locs hP hD hS => ?_)
                          obtain ⟨f98, ef98⟩ : ∃ g9 : Nat → Int32, g9 = upd j71a0_33_a (x90 : Int32).toNatClampNeg r95 := ⟨_, rfl⟩
                          refine zs_7 (y := (a0_33, .inl (ka0_33, 620, .inl (f98)))) hP hD (by rw [ef98]) (fun hP hD => ?_)
                          obtain ⟨x99, ex99⟩ : ∃ y : Int32, y = j71l3 + Int32.ofInt 1 := ⟨_, rfl⟩
                          have qx99 : x99.toInt = j71l3.toInt + 1 := ai_inc ex99 (by decide) (by decide) u78f_j71l3 (by decide)
                          have bx99 : (1 : Int) ≤ x99.toInt ∧ x99.toInt ≤ 9 := ⟨by rw [qx99]; exact Int.add_le_add bj71l3_l (Int.le_refl _), by rw [qx99]; exact Int.add_le_add u78f_j71l3 (Int.le_refl _)⟩
                          refine lv_iinc (v := x99) (lv' := [(3, .int x99), (0, .ref a0), (2, .int j65l2)]) hx hb dX8_layRoute_99 hl (k := 2) rfl ex99.symm (by decide) rfl (fun ls hl => ?_)
                          refine lv_goto (tgt := 71) hx hb dX8_layRoute_102 (by decide) ?_
                          exact (hK0 _ _ _).mp (ih71 x99 f98 _ _ _ (by first | exact zg_s hm71 qx99 | (have h0 := qx99; omega)) (Int.le_trans zq4 bx99.1) bx99.2 hP hD hS (lv_sub hl [1, 2, 0] rfl))
                    exact (hK0 _ _ _).mp (J71 10 0 j65a0_33_a _ _ _ (by first | decide +kernel | (have h1 : (0 : Int) ≤ (0 : Int32).toInt := zq5; have h2 : (0 : Int32).toInt ≤ (0 : Int) := zq6; omega)) zq5 (Int.le_trans zq6 zq7) hP hD hS (lv_sub hl [1, 2, 0] rfl))
              exact (hK0 _ _ _).mp (J65 61 x63 j37a0_33_a _ _ _ (by have h1 : (0 : Int) ≤ x63.toInt := bx63.1; have h2 : x63.toInt ≤ (59 : Int) := bx63.2; omega) (Int.le_trans zq69 bx63.1) bx63.2 hP hD hS (lv_sub hl [1, 0] rfl))
            · have gc40 := ai_nle c40
              have u40f_j37l2 : j37l2.toInt ≤ (8 : Int) := ai_lthi gc40 zq3
              refine lv_aload_n hx hb dX8_layRoute_43 rfl (lv_at hl 0 rfl) ?_
              refine va_get (D := (dC, dI)) (ci := 8) (v := .ref a0_33) (C := RX8) (T := TX8) (N := 40) hx hb hts zi_X8_layRoute_8 hown hK hP 0 rfl rfl 33 (by decide) (hts (.fieldLink RX8 50 "WaxTurnsModel" "with" "[I") (zm_X8_layRoute_r1 (List.mem_of_getElem? (i := 3) rfl))) (fun _ h9 => h9) rfl dX8_layRoute_44 ?_
              refine lv_bipush (v := 10) hx hb dX8_layRoute_47 zk_bipush_10 ?_
              refine lv_iload_n hx hb dX8_layRoute_49 rfl (lv_at hl 1 rfl) ?_
              refine lv_imul hx hb dX8_layRoute_50 ?_
              refine lv_topi (fun x50 ex50 => ?_)
              have qx50 : x50.toInt = (10 : Int32).toInt * a1.toInt ∧ (10 : Int) ≤ x50.toInt ∧ x50.toInt ≤ 600 := ai_mul ex50 ⟨zq26, zq27⟩ ⟨ba1_l, u8t_a1⟩ (by decide) (by decide) zq195
              have wx50 : x50.toInt = 10 * a1.toInt := qx50.1
              refine lv_iload_n hx hb dX8_layRoute_51 rfl (lv_at hl 2 rfl) ?_
              refine lv_iadd hx hb dX8_layRoute_52 ?_
              refine lv_topi (fun x52 ex52 => ?_)
              have qx52 : x52.toInt = x50.toInt + j37l2.toInt := ai_add ex52 ⟨qx50.2.1, qx50.2.2⟩ ⟨bj37l2_l, u40f_j37l2⟩ (by decide) (by decide)
              have bx52 : (10 : Int) ≤ x52.toInt ∧ x52.toInt ≤ 608 := ⟨by rw [qx52]; exact Int.add_le_add qx50.2.1 bj37l2_l, by rw [qx52]; exact Int.add_le_add qx50.2.2 u40f_j37l2⟩
              refine lv_iconst (v := 0) hx hb dX8_layRoute_53 zk_iconst_0 ?_
              refine va_iast hx hb hK hP hD hS 7 6 rfl rfl (ai_in bx52.1 bx52.2 (by decide) (by decide)) dX8_layRoute_54 (fun H locs hP hD hS => ?_)
              obtain ⟨f54, ef54⟩ : ∃ g9 : Nat → Int32, g9 = upd j37a0_33_a (x52 : Int32).toNatClampNeg (0 : Int32) := ⟨_, rfl⟩
              refine zs_7 (y := (a0_33, .inl (ka0_33, 620, .inl (f54)))) hP hD (by rw [ef54]) (fun hP hD => ?_)
              obtain ⟨x55, ex55⟩ : ∃ y : Int32, y = j37l2 + Int32.ofInt 1 := ⟨_, rfl⟩
              have qx55 : x55.toInt = j37l2.toInt + 1 := ai_inc ex55 (by decide) (by decide) u40f_j37l2 (by decide)
              have bx55 : (1 : Int) ≤ x55.toInt ∧ x55.toInt ≤ 9 := ⟨by rw [qx55]; exact Int.add_le_add bj37l2_l (Int.le_refl _), by rw [qx55]; exact Int.add_le_add u40f_j37l2 (Int.le_refl _)⟩
              refine lv_iinc (v := x55) (lv' := [(2, .int x55), (0, .ref a0), (1, .int a1)]) hx hb dX8_layRoute_55 hl (k := 2) rfl ex55.symm (by decide) rfl (fun ls hl => ?_)
              refine lv_goto (tgt := 37) hx hb dX8_layRoute_58 (by decide) ?_
              exact (hK0 _ _ _).mp (ih37 x55 f54 _ _ _ (by first | exact zg_s hm37 qx55 | (have h0 := qx55; omega)) (Int.le_trans zq4 bx55.1) bx55.2 hP hD hS (lv_sub hl [1, 2, 0] rfl))
        exact (hK0 _ _ _).mp (J37 10 0 fa0_33 _ _ _ (by first | decide +kernel | (have h1 : (0 : Int) ≤ (0 : Int32).toInt := zq5; have h2 : (0 : Int32).toInt ≤ (0 : Int) := zq6; omega)) zq5 (Int.le_trans zq6 zq7) hP hD hS (lv_sub hl [1, 2, 0] rfl))
      · have gc8 := ai_nlt c8
        have u8f_j6l2 : j6l2.toInt ≤ (60 : Int) := Int.le_trans gc8 ba1_u
        have l8f_a1 : (1 : Int) ≤ a1.toInt := ba1_l
        refine lv_aload_n hx hb dX8_layRoute_11 rfl (lv_at hl 0 rfl) ?_
        refine lv_aload_n hx hb dX8_layRoute_12 rfl (lv_at hl 0 rfl) ?_
        refine va_get (D := (dC, dI)) (ci := 8) (v := .ref a0_18) (C := RX8) (T := TX8) (N := 40) hx hb hts zi_X8_layRoute_8 hown hK hP 0 rfl rfl 18 (by decide) (hts (.fieldLink RX8 29 "WaxTurnsModel" "trial" "[I") (zm_X8_layRoute_r1 (List.mem_of_getElem? (i := 0) rfl))) (fun _ h9 => h9) rfl dX8_layRoute_13 ?_
        refine zc_cutc (wc := [(a0, .inr (8, [a0g_0, a0g_1, a0g_2, a0g_3, a0g_4, a0g_5, a0g_6, a0g_7, a0g_8, a0g_9, a0g_10, a0g_11, a0g_12, a0g_13, a0g_14, Value.ref a0_15, a0g_16, Value.ref a0_17, Value.ref a0_18, a0g_19, a0g_20, a0g_21, a0g_22, Value.ref a0_23, Value.ref a0_24, Value.int v1na0_25, Value.int j6a0_26, Value.int j6a0_27, Value.int j6a0_28, a0g_29, a0g_30, a0g_31, Value.ref a0_32, Value.ref a0_33, a0g_34, a0g_35, a0g_36, a0g_37, a0g_38, a0g_39])), (a0_18, .inl (ka0_18, 23, .inl (j6a0_18_a))), (a0_15, .inl (ka0_15, 156, .inl (fa0_15))), (a0_24, .inl (ka0_24, 3, .inl (v1nfa0_24))), (a0_23, .inl (ka0_23, 3, .inl (v1nfa0_23)))]) hP hD hS hA [0, 5, 1, 3, 2] (by decide +kernel) rfl (fun hPc hDc hFc hCc => ?_)
        have hKc := hK.sub (tys' := [(ka0_18, .int), (ka0_15, .int), (ka0_24, .int), (ka0_23, .int)]) [4, 0, 2, 1] rfl
        refine va_callv (va_runV (As := [.ref a0_18]) (rest := []) ⟨hx, hb, hml, hown, hts⟩ (c_X8_minuteOn l dC dI H.size a0 a0_18 a0g_0 a0g_1 a0g_2 a0g_3 a0g_4 a0g_5 a0g_6 a0g_7 a0g_8 a0g_9 a0g_10 a0g_11 a0g_12 a0g_13 a0g_14 a0g_16 (Value.ref a0_17) (Value.ref a0_18) a0g_19 a0g_20 a0g_21 a0g_22 a0g_29 a0g_30 a0g_31 (Value.ref a0_32) (Value.ref a0_33) a0g_34 a0g_35 a0g_36 a0g_37 a0g_38 a0g_39 a0_15 a0_23 a0_24 v1na0_25 j6a0_26 j6a0_27 j6a0_28 ka0_18 j6a0_18_a ka0_15 fa0_15 ka0_24 v1nfa0_24 ka0_23 v1nfa0_23 bj6a0_18_a bfa0_15 bv1nfa0_24 bv1nfa0_23 hkm) (cwV 1 hts gX8_layRoute_X8_minuteOn rfl rfl rfl zd_X8_minuteOn ⟨Nat.le_of_ble_eq_true rfl, Nat.le_of_ble_eq_true rfl⟩) ⟨ax_blind (fun _ _ _ _ _ => trivial), zr_8 hKc hPc (q0 := 0) rfl, ax_pre hPc hKc hDc (fun _ _ => trivial)⟩ rfl rfl hl.1 rfl (lv_room (Nat.le_of_ble_eq_true rfl)) dX8_layRoute_16 ⟨Nat.le_of_ble_eq_true rfl, Nat.le_of_ble_eq_true rfl⟩) hS (fun q _ h => hFc q h) hFc (fun u t H locs ht hvm hw => zx_4 (fun v16na0_26 v16na0_27 v16na0_28 v16nfa1 => zy_1 (fun bv16nfa1 hB hz1 hk1 hS1 => zo hB ht hS1 (fun hP1 hK1 hD1 hS => ?_))))
        refine zc_backc (w := [(a0, .inr (8, [a0g_0, a0g_1, a0g_2, a0g_3, a0g_4, a0g_5, a0g_6, a0g_7, a0g_8, a0g_9, a0g_10, a0g_11, a0g_12, a0g_13, a0g_14, Value.ref a0_15, a0g_16, Value.ref a0_17, Value.ref a0_18, a0g_19, a0g_20, a0g_21, a0g_22, Value.ref a0_23, Value.ref a0_24, Value.int v1na0_25, Value.int v16na0_26, Value.int v16na0_27, Value.int v16na0_28, a0g_29, a0g_30, a0g_31, Value.ref a0_32, Value.ref a0_33, a0g_34, a0g_35, a0g_36, a0g_37, a0g_38, a0g_39])), (a0_15, .inl (ka0_15, 156, .inl (fa0_15))), (a0_23, .inl (ka0_23, 3, .inl (v1nfa0_23))), (a0_24, .inl (ka0_24, 3, .inl (v1nfa0_24))), (a0_17, .inl (ka0_17, 23, .inl (fa0_17))), (a0_18, .inl (ka0_18, 23, .inl (v16nfa1))), (a0_32, .inl (ka0_32, 61, .inl (j6a0_32_a))), (a0_33, .inl (ka0_33, 620, .inl (fa0_33)))]) hP hD hCc hk1 hFc hP1 hD1 [.inr 0, .inr 2, .inr 4, .inr 3, .inl 4, .inr 1, .inl 6, .inl 7] (by decide +kernel) rfl (fun hP hD => ?_)
        refine lv_aload_n hx hb dX8_layRoute_19 rfl (lv_at hl 0 rfl) ?_
        refine va_get (D := (dC, dI)) (ci := 8) (v := .ref a0_32) (C := RX8) (T := TX8) (N := 40) hx hb hts zi_X8_layRoute_8 hown hK hP 0 rfl rfl 32 (by decide) (hts (.fieldLink RX8 47 "WaxTurnsModel" "liveAt" "[I") (zm_X8_layRoute_r1 (List.mem_of_getElem? (i := 1) rfl))) (fun _ h9 => h9) rfl dX8_layRoute_20 ?_
        refine lv_iload_n hx hb dX8_layRoute_23 rfl (lv_at hl 2 rfl) ?_
        refine lv_aload_n hx hb dX8_layRoute_24 rfl (lv_at hl 0 rfl) ?_
        refine va_get (D := (dC, dI)) (ci := 8) (v := .int v16na0_27) (C := RX8) (T := TX8) (N := 40) hx hb hts zi_X8_layRoute_8 hown hK hP 0 rfl rfl 27 (by decide) (hts (.fieldLink RX8 261 "WaxTurnsModel" "livedAt" "I") (zm_X8_layRoute_r1 (List.mem_of_getElem? (i := 2) rfl))) (fun _ h9 => h9) rfl dX8_layRoute_25 ?_
        refine va_iast hx hb hK hP hD hS 6 5 rfl rfl (ai_in bj6l2_l u8f_j6l2 (by decide) (by decide)) dX8_layRoute_28 (fun H locs hP hD hS => ?_)
        obtain ⟨f28, ef28⟩ : ∃ g9 : Nat → Int32, g9 = upd j6a0_32_a (j6l2 : Int32).toNatClampNeg v16na0_27 := ⟨_, rfl⟩
        refine zs_6 (y := (a0_32, .inl (ka0_32, 61, .inl (f28)))) hP hD (by rw [ef28]) (fun hP hD => ?_)
        obtain ⟨x29, ex29⟩ : ∃ y : Int32, y = j6l2 + Int32.ofInt 1 := ⟨_, rfl⟩
        have qx29 : x29.toInt = j6l2.toInt + 1 := ai_inc ex29 (by decide) (by decide) u8f_j6l2 (by decide)
        have bx29 : (2 : Int) ≤ x29.toInt ∧ x29.toInt ≤ 61 := ⟨by rw [qx29]; exact Int.add_le_add bj6l2_l (Int.le_refl _), by rw [qx29]; exact Int.add_le_add u8f_j6l2 (Int.le_refl _)⟩
        refine lv_iinc (v := x29) (lv' := [(2, .int x29), (0, .ref a0), (1, .int a1)]) hx hb dX8_layRoute_29 hl (k := 2) rfl ex29.symm (by decide) rfl (fun ls hl => ?_)
        refine lv_goto (tgt := 6) hx hb dX8_layRoute_32 (by decide) ?_
        exact (hK0 _ _ _).mp (ih6 x29 v16na0_26 v16na0_27 v16na0_28 v16nfa1 f28 _ _ _ (by first | exact zg_s hm6 qx29 | (have h0 := qx29; omega)) (Int.le_trans zq54 bx29.1) (Int.le_trans bx29.2 zq61) bv16nfa1 hP hD hS (lv_sub hl [1, 2, 0] rfl))
  exact (hK0 _ _ _).mp (J6 80 1 a0_26 a0_27 a0_28 v1nfa0_18 fa0_32 _ _ _ (by first | decide +kernel | (have h1 : (1 : Int) ≤ (1 : Int32).toInt := zq1; have h2 : (1 : Int32).toInt ≤ (1 : Int) := zq0; omega)) zq1 (Int.le_trans zq0 zq62) bv1nfa0_18 hP hD hS (lv_sub hl [1, 2, 0] rfl))
end P260_00_safe
section P260_01_safe
set_option maxHeartbeats 4000000 in
set_option maxRecDepth 100000 in
theorem c_X8_route (l : Launch) (dC : Nat → ClassId) (dI : Nat → Nat → Nat) (sz : Nat) (a0 : Nat) (a1 : Int32) (a2 : Int32) (a0_0 : Int32) (a0g_1 a0g_2 a0g_3 a0g_4 a0g_5 a0g_6 a0g_7 a0g_8 a0g_9 a0g_10 a0g_12 a0g_13 a0g_16 a0g_19 a0g_20 a0g_21 a0g_22 a0g_29 a0g_30 a0g_31 a0g_34 a0g_35 a0g_36 a0g_37 a0g_38 a0g_39 : Value) (a0_11 : Int32) (a0_14 : Int32) (a0_15 : Nat) (a0_17 : Nat) (a0_18 : Nat) (a0_23 : Nat) (a0_24 : Nat) (a0_25 : Int32) (a0_26 : Int32) (a0_27 : Int32) (a0_28 : Int32) (a0_32 : Nat) (a0_33 : Nat) (ka0_15 : ClassId) (fa0_15 : Nat → Int32) (ka0_23 : ClassId) (fa0_23 : Nat → Int32) (ka0_24 : ClassId) (fa0_24 : Nat → Int32) (ka0_17 : ClassId) (fa0_17 : Nat → Int32) (ka0_18 : ClassId) (fa0_18 : Nat → Int32) (ka0_32 : ClassId) (fa0_32 : Nat → Int32) (ka0_33 : ClassId) (fa0_33 : Nat → Int32) (ba0_14_l : (1 : Int) ≤ a0_14.toInt) (ba0_14_u : a0_14.toInt ≤ (1 : Int)) (bfa0_15 : ((∀ k : Nat, 0 ≤ k → k ≤ 0 → (2 : Int) ≤ (fa0_15 k).toInt ∧ (fa0_15 k).toInt ≤ 9) ∧ (∀ k : Nat, 1 ≤ k → k ≤ 1 → (1 : Int) ≤ (fa0_15 k).toInt ∧ (fa0_15 k).toInt ≤ 20) ∧ (∀ k : Nat, 2 ≤ k → k ≤ 2 → (0 : Int) ≤ (fa0_15 k).toInt ∧ (fa0_15 k).toInt ≤ 8) ∧ (∀ k : Nat, 3 ≤ k → k ≤ 3 → (0 : Int) ≤ (fa0_15 k).toInt ∧ (fa0_15 k).toInt ≤ 100) ∧ (∀ k : Nat, 4 ≤ k → k ≤ 4 → (0 : Int) ≤ (fa0_15 k).toInt ∧ (fa0_15 k).toInt ≤ 9) ∧ (∀ k : Nat, 5 ≤ k → k ≤ 5 → (0 : Int) ≤ (fa0_15 k).toInt ∧ (fa0_15 k).toInt ≤ 3) ∧ (∀ k : Nat, 6 ≤ k → k ≤ 6 → (0 : Int) ≤ (fa0_15 k).toInt ∧ (fa0_15 k).toInt ≤ 6) ∧ (∀ k : Nat, 7 ≤ k → k ≤ 9 → (0 : Int) ≤ (fa0_15 k).toInt ∧ (fa0_15 k).toInt ≤ 8) ∧ (∀ k : Nat, 12 ≤ k → k ≤ 29 → (0 : Int) ≤ (fa0_15 k).toInt ∧ (fa0_15 k).toInt ≤ 20) ∧ (∀ k : Nat, 30 ≤ k → k ≤ 35 → (0 : Int) ≤ (fa0_15 k).toInt ∧ (fa0_15 k).toInt ≤ 8) ∧ (∀ k : Nat, 36 ≤ k → k ≤ 47 → (0 : Int) ≤ (fa0_15 k).toInt ∧ (fa0_15 k).toInt ≤ 999))) (bfa0_23 : (∀ k, (0 : Int) ≤ (fa0_23 k).toInt ∧ (fa0_23 k).toInt ≤ 80)) (bfa0_24 : (∀ k, (0 : Int) ≤ (fa0_24 k).toInt ∧ (fa0_24 k).toInt ≤ 80)) (bfa0_17 : ((∀ k : Nat, 0 ≤ k → k ≤ 8 → (0 : Int) ≤ (fa0_17 k).toInt ∧ (fa0_17 k).toInt ≤ 8) ∧ (∀ k : Nat, 19 ≤ k → k ≤ 19 → (0 : Int) ≤ (fa0_17 k).toInt ∧ (fa0_17 k).toInt ≤ 8) ∧ (∀ k : Nat, 20 ≤ k → k ≤ 20 → (0 : Int) ≤ (fa0_17 k).toInt ∧ (fa0_17 k).toInt ≤ 19))) (bfa0_18 : ((∀ k : Nat, 0 ≤ k → k ≤ 8 → (0 : Int) ≤ (fa0_18 k).toInt ∧ (fa0_18 k).toInt ≤ 8) ∧ (∀ k : Nat, 19 ≤ k → k ≤ 19 → (0 : Int) ≤ (fa0_18 k).toInt ∧ (fa0_18 k).toInt ≤ 8) ∧ (∀ k : Nat, 20 ≤ k → k ≤ 20 → (0 : Int) ≤ (fa0_18 k).toInt ∧ (fa0_18 k).toInt ≤ 19))) (hkm : ∀ (j i0 i : Int32), (0 : Int) ≤ j.toInt → j.toInt ≤ 8 → i0.toInt = 12 + 2 * j.toInt → i.toInt = 13 + 2 * j.toInt → (fa0_15 i0.toNatClampNeg).toInt = (1 : Int32).toInt → (1 : Int) ≤ (fa0_15 i.toNatClampNeg).toInt) : zm l yX8_route wsX8_route ({ frames := 5, cells := 0, slots := 0, locals := 118 }) [.ref a0, .int a1, .int a2] dC dI sz [(a0, .inr (8, [Value.int a0_0, a0g_1, a0g_2, a0g_3, a0g_4, a0g_5, a0g_6, a0g_7, a0g_8, a0g_9, a0g_10, Value.int a0_11, a0g_12, a0g_13, Value.int a0_14, Value.ref a0_15, a0g_16, Value.ref a0_17, Value.ref a0_18, a0g_19, a0g_20, a0g_21, a0g_22, Value.ref a0_23, Value.ref a0_24, Value.int a0_25, Value.int a0_26, Value.int a0_27, Value.int a0_28, a0g_29, a0g_30, a0g_31, Value.ref a0_32, Value.ref a0_33, a0g_34, a0g_35, a0g_36, a0g_37, a0g_38, a0g_39])), (a0_15, .inl (ka0_15, 156, .inl (fa0_15))), (a0_23, .inl (ka0_23, 3, .inl (fa0_23))), (a0_24, .inl (ka0_24, 3, .inl (fa0_24))), (a0_17, .inl (ka0_17, 23, .inl (fa0_17))), (a0_18, .inl (ka0_18, 23, .inl (fa0_18))), (a0_32, .inl (ka0_32, 61, .inl (fa0_32))), (a0_33, .inl (ka0_33, 620, .inl (fa0_33)))] [(ka0_15, .int), (ka0_23, .int), (ka0_24, .int), (ka0_17, .int), (ka0_18, .int), (ka0_32, .int), (ka0_33, .int)] (fun A _ => True) (fun A => va_Qi (fun (r : Int32) (_ : Unit) => True) (fun (_ : Unit) (t : State) => ∃ na0_0 : Int32, ∃ na0_11 : Int32, ∃ na0_25 : Int32, ∃ na0_26 : Int32, ∃ na0_27 : Int32, ∃ na0_28 : Int32, ∃ nfa0_23 : Nat → Int32, ∃ nfa0_24 : Nat → Int32, ∃ nfa0_18 : Nat → Int32, ∃ nfa0_32 : Nat → Int32, ∃ nfa0_33 : Nat → Int32, (∀ k, (0 : Int) ≤ (nfa0_23 k).toInt ∧ (nfa0_23 k).toInt ≤ 80) ∧ (∀ k, (0 : Int) ≤ (nfa0_24 k).toInt ∧ (nfa0_24 k).toInt ≤ 80) ∧ ((∀ k : Nat, 0 ≤ k → k ≤ 8 → (0 : Int) ≤ (nfa0_18 k).toInt ∧ (nfa0_18 k).toInt ≤ 8) ∧ (∀ k : Nat, 19 ≤ k → k ≤ 19 → (0 : Int) ≤ (nfa0_18 k).toInt ∧ (nfa0_18 k).toInt ≤ 8) ∧ (∀ k : Nat, 20 ≤ k → k ≤ 20 → (0 : Int) ≤ (nfa0_18 k).toInt ∧ (nfa0_18 k).toInt ≤ 19)) ∧ ax_B dC dI A [(a0, .inr (8, [Value.int na0_0, a0g_1, a0g_2, a0g_3, a0g_4, a0g_5, a0g_6, a0g_7, a0g_8, a0g_9, a0g_10, Value.int na0_11, a0g_12, a0g_13, Value.int a0_14, Value.ref a0_15, a0g_16, Value.ref a0_17, Value.ref a0_18, a0g_19, a0g_20, a0g_21, a0g_22, Value.ref a0_23, Value.ref a0_24, Value.int na0_25, Value.int na0_26, Value.int na0_27, Value.int na0_28, a0g_29, a0g_30, a0g_31, Value.ref a0_32, Value.ref a0_33, a0g_34, a0g_35, a0g_36, a0g_37, a0g_38, a0g_39])), (a0_15, .inl (ka0_15, 156, .inl (fa0_15))), (a0_23, .inl (ka0_23, 3, .inl (nfa0_23))), (a0_24, .inl (ka0_24, 3, .inl (nfa0_24))), (a0_17, .inl (ka0_17, 23, .inl (fa0_17))), (a0_18, .inl (ka0_18, 23, .inl (nfa0_18))), (a0_32, .inl (ka0_32, 61, .inl (nfa0_32))), (a0_33, .inl (ka0_33, 620, .inl (nfa0_33)))] [(ka0_15, .int), (ka0_23, .int), (ka0_24, .int), (ka0_17, .int), (ka0_18, .int), (ka0_32, .int), (ka0_33, .int)] t) A) := by
  refine zh (cc := cX8_route) (maxL := 4) (ret := (some .int)) zn_RX8 rfl (Nat.le_of_ble_eq_true rfl) (fun p e s m below meth c A ls hx hb hml hr hts (hown : s.vm.findClass RX8 = some m.cls) hlocks hA hS hP hK hD hE (hl : lv_has ls 4 [(0, .ref a0), (1, .int a1), (2, .int a2)]) => ?_)
  refine lv_aload_n hx hb dX8_route_0 rfl (lv_at hl 0 rfl) ?_
  refine va_callv (va_runV (As := []) (rest := []) ⟨hx, hb, hml, hown, hts⟩ (c_X8_good l dC dI s.heap.size a0 a0_0 a0g_1 a0g_2 a0g_3 a0g_4 a0g_5 a0g_6 a0g_7 a0g_8 a0g_9 a0g_10 a0g_12 a0g_13 (Value.int a0_14) (Value.ref a0_15) a0g_16 (Value.ref a0_17) (Value.ref a0_18) a0g_19 a0g_20 a0g_21 a0g_22 (Value.ref a0_23) (Value.ref a0_24) (Value.int a0_25) (Value.int a0_26) (Value.int a0_27) (Value.int a0_28) a0g_29 a0g_30 a0g_31 (Value.ref a0_32) (Value.ref a0_33) a0g_34 a0g_35 a0g_36 a0g_37 a0g_38 a0g_39 a0_11 ) (cwV 0 hts gX8_route_X8_good rfl rfl rfl zd_X8_good ⟨Nat.le_of_ble_eq_true rfl, Nat.le_of_ble_eq_true rfl⟩) ⟨ax_blind (fun _ _ _ _ _ => trivial), zr_8 (zp_K hK) (zp_P1 hP) (q0 := 0) rfl, ax_pre (zp_P1 hP) (zp_K hK) (zp_D1 hD) (fun _ _ => trivial)⟩ rfl rfl hl.1 rfl (lv_room (Nat.le_of_ble_eq_true rfl)) dX8_route_1 ⟨Nat.le_of_ble_eq_true rfl, Nat.le_of_ble_eq_true rfl⟩) hS (fun q _ h => zp_F1 hD hS hA q h) (zp_F1 hD hS hA) (fun u t H locs ht hvm hw => zx_2 (fun v1na0_0 v1na0_11 hB hz1 hk1 hS1 => zo1 hB ht hP hD hk1 (zp_F1 hD hS hA) hS1 (fun hP hK1 hD hS => ?_)))
  refine lv_aload_n hx hb dX8_route_4 rfl (lv_at hl 0 rfl) ?_
  refine lv_iload_n hx hb dX8_route_5 rfl (lv_at hl 1 rfl) ?_
  refine lv_iload_n hx hb dX8_route_6 rfl (lv_at hl 2 rfl) ?_
  have hKc := hK.sub (tys' := [(ka0_15, .int)]) [0] rfl
  refine va_calli (va_runV (As := [.int a1, .int a2]) (rest := []) ⟨hx, hb, hml, hown, hts⟩ (c_X8_routeWhy l dC dI H.size a0 a1 a2 (Value.int v1na0_0) a0g_1 a0g_2 a0g_3 a0g_4 a0g_5 a0g_6 a0g_7 a0g_8 a0g_9 a0g_10 (Value.int v1na0_11) a0g_12 a0g_13 a0g_16 (Value.ref a0_17) (Value.ref a0_18) a0g_19 a0g_20 a0g_21 a0g_22 (Value.ref a0_23) (Value.ref a0_24) (Value.int a0_25) (Value.int a0_26) (Value.int a0_27) (Value.int a0_28) a0g_29 a0g_30 a0g_31 (Value.ref a0_32) (Value.ref a0_33) a0g_34 a0g_35 a0g_36 a0g_37 a0g_38 a0g_39 a0_14 a0_15 ka0_15 fa0_15 ba0_14_l ba0_14_u bfa0_15) (cwV 2 hts gX8_route_X8_routeWhy rfl rfl rfl zd_X8_routeWhy ⟨Nat.le_of_ble_eq_true rfl, Nat.le_of_ble_eq_true rfl⟩) ⟨ax_blind (fun _ _ _ _ _ => trivial), zr_8 hKc (zp_P2 hP) (q0 := 0) rfl, ax_pre (zp_P2 hP) hKc (zp_D2 hD) (fun _ _ => trivial)⟩ rfl rfl hl.1 rfl (lv_room (Nat.le_of_ble_eq_true rfl)) dX8_route_7 ⟨Nat.le_of_ble_eq_true rfl, Nat.le_of_ble_eq_true rfl⟩) hS (fun q _ h => zp_F2 hD hS hA q h) (zp_F2 hD hS hA) (fun r7 u t H locs ht hvm hw hB hz1 hk1 hS1 => zo2 hB ht hP hD hk1 (zp_F2 hD hS hA) hS1 (fun hP hK1 hD hS => ?_))
  rcases hw with hw | hw | hw
  · obtain ⟨hw, h7_0, h7_1⟩ := hw
    subst hw
    have l7k0_a1 : (0 : Int) ≤ a1.toInt := h7_0
    have u7k0_a1 : a1.toInt ≤ (8 : Int) := h7_1
    refine lv_istore_n (lv' := [(3, .int 2), (0, .ref a0), (1, .int a1), (2, .int a2)]) hx hb dX8_route_10 rfl hl (by decide) rfl (fun ls hl => ?_)
    refine lv_iload_n hx hb dX8_route_11 rfl (lv_at hl 0 rfl) ?_
    refine lv_if_eq (tgt := 21) hx hb dX8_route_12 (by decide) (fun c12 => absurd c12 (by decide +kernel)) (fun _ => ?_)
    refine lv_aload_n hx hb dX8_route_15 rfl (lv_at hl 1 rfl) ?_
    refine lv_iload_n hx hb dX8_route_16 rfl (lv_at hl 0 rfl) ?_
    refine va_calli (va_runV (As := [.int 2]) (rest := []) ⟨hx, hb, hml, hown, hts⟩ (c_X8_no l dC dI H.size a0 2 (Value.int v1na0_0) a0g_1 a0g_2 a0g_3 a0g_4 a0g_5 a0g_6 a0g_7 a0g_8 a0g_9 a0g_10 a0g_12 a0g_13 (Value.int a0_14) (Value.ref a0_15) a0g_16 (Value.ref a0_17) (Value.ref a0_18) a0g_19 a0g_20 a0g_21 a0g_22 (Value.ref a0_23) (Value.ref a0_24) (Value.int a0_25) (Value.int a0_26) (Value.int a0_27) (Value.int a0_28) a0g_29 a0g_30 a0g_31 (Value.ref a0_32) (Value.ref a0_33) a0g_34 a0g_35 a0g_36 a0g_37 a0g_38 a0g_39 v1na0_11 ) (cwV 1 hts gX8_route_X8_no rfl rfl rfl zd_X8_no ⟨Nat.le_of_ble_eq_true rfl, Nat.le_of_ble_eq_true rfl⟩) ⟨ax_blind (fun _ _ _ _ _ => trivial), zr_8 (zp_K hK) (zp_P1 hP) (q0 := 0) rfl, ax_pre (zp_P1 hP) (zp_K hK) (zp_D1 hD) (fun _ _ => trivial)⟩ rfl rfl hl.1 rfl (lv_room (Nat.le_of_ble_eq_true rfl)) dX8_route_17 ⟨Nat.le_of_ble_eq_true rfl, Nat.le_of_ble_eq_true rfl⟩) hS (fun q _ h => zp_F1 hD hS hA q h) (zp_F1 hD hS hA) (fun r17 u t H locs ht hvm hw => zx_1 (fun v17na0_11 hB hz1 hk1 hS1 => zo1 hB ht hP hD hk1 (zp_F1 hD hS hA) hS1 (fun hP hK1 hD hS => ?_)))
    have hw : r17 = (-1) := hw
    have hw := hw.symm
    subst hw
    exact W.iret (v := (-1)) hx hb hr (fun t ht hW => ⟨⟨(-1), (), rfl, trivial, v1na0_0, v17na0_11, a0_25, a0_26, a0_27, a0_28, fa0_23, fa0_24, fa0_18, fa0_32, fa0_33, bfa0_23, bfa0_24, bfa0_18, by rw [ht]; exact hP, va_K.moved hW.alike hK, hD⟩, hS.F ht⟩) hS.2.2 dX8_route_20
  · subst hw
    refine lv_istore_n (lv' := [(3, .int 1), (0, .ref a0), (1, .int a1), (2, .int a2)]) hx hb dX8_route_10 rfl hl (by decide) rfl (fun ls hl => ?_)
    refine lv_iload_n hx hb dX8_route_11 rfl (lv_at hl 0 rfl) ?_
    refine lv_if_eq (tgt := 21) hx hb dX8_route_12 (by decide) (fun c12 => absurd c12 (by decide +kernel)) (fun _ => ?_)
    refine lv_aload_n hx hb dX8_route_15 rfl (lv_at hl 1 rfl) ?_
    refine lv_iload_n hx hb dX8_route_16 rfl (lv_at hl 0 rfl) ?_
    refine va_calli (va_runV (As := [.int 1]) (rest := []) ⟨hx, hb, hml, hown, hts⟩ (c_X8_no l dC dI H.size a0 1 (Value.int v1na0_0) a0g_1 a0g_2 a0g_3 a0g_4 a0g_5 a0g_6 a0g_7 a0g_8 a0g_9 a0g_10 a0g_12 a0g_13 (Value.int a0_14) (Value.ref a0_15) a0g_16 (Value.ref a0_17) (Value.ref a0_18) a0g_19 a0g_20 a0g_21 a0g_22 (Value.ref a0_23) (Value.ref a0_24) (Value.int a0_25) (Value.int a0_26) (Value.int a0_27) (Value.int a0_28) a0g_29 a0g_30 a0g_31 (Value.ref a0_32) (Value.ref a0_33) a0g_34 a0g_35 a0g_36 a0g_37 a0g_38 a0g_39 v1na0_11 ) (cwV 1 hts gX8_route_X8_no rfl rfl rfl zd_X8_no ⟨Nat.le_of_ble_eq_true rfl, Nat.le_of_ble_eq_true rfl⟩) ⟨ax_blind (fun _ _ _ _ _ => trivial), zr_8 (zp_K hK) (zp_P1 hP) (q0 := 0) rfl, ax_pre (zp_P1 hP) (zp_K hK) (zp_D1 hD) (fun _ _ => trivial)⟩ rfl rfl hl.1 rfl (lv_room (Nat.le_of_ble_eq_true rfl)) dX8_route_17 ⟨Nat.le_of_ble_eq_true rfl, Nat.le_of_ble_eq_true rfl⟩) hS (fun q _ h => zp_F1 hD hS hA q h) (zp_F1 hD hS hA) (fun r17 u t H locs ht hvm hw => zx_1 (fun v17na0_11 hB hz1 hk1 hS1 => zo1 hB ht hP hD hk1 (zp_F1 hD hS hA) hS1 (fun hP hK1 hD hS => ?_)))
    have hw : r17 = (-1) := hw
    have hw := hw.symm
    subst hw
    exact W.iret (v := (-1)) hx hb hr (fun t ht hW => ⟨⟨(-1), (), rfl, trivial, v1na0_0, v17na0_11, a0_25, a0_26, a0_27, a0_28, fa0_23, fa0_24, fa0_18, fa0_32, fa0_33, bfa0_23, bfa0_24, bfa0_18, by rw [ht]; exact hP, va_K.moved hW.alike hK, hD⟩, hS.F ht⟩) hS.2.2 dX8_route_20
  · obtain ⟨hw, h7_0, h7_1, h7_2, h7_3⟩ := hw
    subst hw
    have l7k2_a1 : (0 : Int) ≤ a1.toInt := h7_0
    have u7k2_a1 : a1.toInt ≤ (8 : Int) := h7_1
    have l7k2_a2 : (1 : Int) ≤ a2.toInt := h7_2
    have u7k2_a2 : a2.toInt ≤ (60 : Int) := h7_3
    refine lv_istore_n (lv' := [(3, .int 0), (0, .ref a0), (1, .int a1), (2, .int a2)]) hx hb dX8_route_10 rfl hl (by decide) rfl (fun ls hl => ?_)
    refine lv_iload_n hx hb dX8_route_11 rfl (lv_at hl 0 rfl) ?_
    refine lv_if_eq (tgt := 21) hx hb dX8_route_12 (by decide) (fun _ => ?_) (fun c12 => absurd (by decide +kernel) c12)
    refine lv_aload_n hx hb dX8_route_21 rfl (lv_at hl 1 rfl) ?_
    refine lv_iload_n hx hb dX8_route_22 rfl (lv_at hl 3 rfl) ?_
    have hKc := hK.sub (tys' := [(ka0_15, .int), (ka0_23, .int), (ka0_24, .int), (ka0_17, .int), (ka0_18, .int), (ka0_32, .int), (ka0_33, .int)]) [0, 1, 2, 3, 4, 5, 6] rfl
    refine va_callv (va_runV (As := [.int a2]) (rest := []) ⟨hx, hb, hml, hown, hts⟩ (c_X8_layRoute l dC dI H.size a0 a2 (Value.int v1na0_0) a0g_1 a0g_2 a0g_3 a0g_4 a0g_5 a0g_6 a0g_7 a0g_8 a0g_9 a0g_10 (Value.int v1na0_11) a0g_12 a0g_13 (Value.int a0_14) a0g_16 a0g_19 a0g_20 a0g_21 a0g_22 a0g_29 a0g_30 a0g_31 a0g_34 a0g_35 a0g_36 a0g_37 a0g_38 a0g_39 a0_15 a0_17 a0_18 a0_23 a0_24 a0_25 a0_26 a0_27 a0_28 a0_32 a0_33 ka0_15 fa0_15 ka0_23 fa0_23 ka0_24 fa0_24 ka0_17 fa0_17 ka0_18 fa0_18 ka0_32 fa0_32 ka0_33 fa0_33 l7k2_a2 u7k2_a2 bfa0_15 bfa0_23 bfa0_24 bfa0_17 bfa0_18 hkm) (cwV 1 hts gX8_route_X8_layRoute rfl rfl rfl zd_X8_layRoute ⟨Nat.le_of_ble_eq_true rfl, Nat.le_of_ble_eq_true rfl⟩) ⟨ax_blind (fun _ _ _ _ _ => trivial), zr_8 hKc (zp_P8 hP) (q0 := 0) rfl, ax_pre (zp_P8 hP) hKc (zp_D8 hD) (fun _ _ => trivial)⟩ rfl rfl hl.1 rfl (lv_room (Nat.le_of_ble_eq_true rfl)) dX8_route_23 ⟨Nat.le_of_ble_eq_true rfl, Nat.le_of_ble_eq_true rfl⟩) hS (fun q _ h => zp_F8 hD hS hA q h) (zp_F8 hD hS hA) (fun u t H locs ht hvm hw => zx_9 (fun v23na0_25 v23na0_26 v23na0_27 v23na0_28 v23nfa0_23 v23nfa0_24 v23nfa0_18 v23nfa0_32 v23nfa0_33 => zy_3 (fun bv23nfa0_23 bv23nfa0_24 bv23nfa0_18 hB hz1 hk1 hS1 => zo8 hB ht hP hD hk1 (zp_F8 hD hS hA) hS1 (fun hP hK1 hD hS => ?_))))
    refine lv_aload_n hx hb dX8_route_26 rfl (lv_at hl 1 rfl) ?_
    refine va_get (D := (dC, dI)) (ci := 8) (v := .ref a0_33) (C := RX8) (T := TX8) (N := 40) hx hb hts zi_X8_route_8 hown hK hP 0 rfl rfl 33 (by decide) (hts (.fieldLink RX8 50 "WaxTurnsModel" "with" "[I") (zm_X8_route_r1 (List.mem_of_getElem? (i := 0) rfl))) (fun _ h9 => h9) rfl dX8_route_27 ?_
    refine lv_iload_n hx hb dX8_route_30 rfl (lv_at hl 2 rfl) ?_
    refine va_iald hx hb hK hP 7 6 rfl rfl (ai_in l7k2_a1 u7k2_a1 (by decide) (by decide)) dX8_route_31 ?_
    refine lv_topi (fun x31 ex31 => ?_)
    exact W.iret (v := x31) hx hb hr (fun t ht hW => ⟨⟨x31, (), rfl, trivial, v1na0_0, v1na0_11, v23na0_25, v23na0_26, v23na0_27, v23na0_28, v23nfa0_23, v23nfa0_24, v23nfa0_18, v23nfa0_32, v23nfa0_33, bv23nfa0_23, bv23nfa0_24, bv23nfa0_18, by rw [ht]; exact hP, va_K.moved hW.alike hK, hD⟩, hS.F ht⟩) hS.2.2 dX8_route_32

set_option maxHeartbeats 4000000 in
set_option maxRecDepth 100000 in
theorem c_X8_stand (l : Launch) (dC : Nat → ClassId) (dI : Nat → Nat → Nat) (sz : Nat) (a0 : Nat) (a1 : Int32) (a0_0 : Int32) (a0g_1 a0g_2 a0g_3 a0g_4 a0g_5 a0g_6 a0g_7 a0g_8 a0g_9 a0g_10 a0g_12 a0g_13 a0g_16 a0g_19 a0g_20 a0g_21 a0g_22 a0g_29 a0g_30 a0g_31 a0g_34 a0g_35 a0g_36 a0g_37 a0g_38 a0g_39 : Value) (a0_11 : Int32) (a0_14 : Int32) (a0_15 : Nat) (a0_17 : Nat) (a0_18 : Nat) (a0_23 : Nat) (a0_24 : Nat) (a0_25 : Int32) (a0_26 : Int32) (a0_27 : Int32) (a0_28 : Int32) (a0_32 : Nat) (a0_33 : Nat) (ka0_15 : ClassId) (fa0_15 : Nat → Int32) (ka0_23 : ClassId) (fa0_23 : Nat → Int32) (ka0_24 : ClassId) (fa0_24 : Nat → Int32) (ka0_17 : ClassId) (fa0_17 : Nat → Int32) (ka0_18 : ClassId) (fa0_18 : Nat → Int32) (ka0_32 : ClassId) (fa0_32 : Nat → Int32) (ka0_33 : ClassId) (fa0_33 : Nat → Int32) (ba0_14_l : (1 : Int) ≤ a0_14.toInt) (ba0_14_u : a0_14.toInt ≤ (1 : Int)) (bfa0_15 : ((∀ k : Nat, 0 ≤ k → k ≤ 0 → (2 : Int) ≤ (fa0_15 k).toInt ∧ (fa0_15 k).toInt ≤ 9) ∧ (∀ k : Nat, 1 ≤ k → k ≤ 1 → (1 : Int) ≤ (fa0_15 k).toInt ∧ (fa0_15 k).toInt ≤ 20) ∧ (∀ k : Nat, 2 ≤ k → k ≤ 2 → (0 : Int) ≤ (fa0_15 k).toInt ∧ (fa0_15 k).toInt ≤ 8) ∧ (∀ k : Nat, 3 ≤ k → k ≤ 3 → (0 : Int) ≤ (fa0_15 k).toInt ∧ (fa0_15 k).toInt ≤ 100) ∧ (∀ k : Nat, 4 ≤ k → k ≤ 4 → (0 : Int) ≤ (fa0_15 k).toInt ∧ (fa0_15 k).toInt ≤ 9) ∧ (∀ k : Nat, 5 ≤ k → k ≤ 5 → (0 : Int) ≤ (fa0_15 k).toInt ∧ (fa0_15 k).toInt ≤ 3) ∧ (∀ k : Nat, 6 ≤ k → k ≤ 6 → (0 : Int) ≤ (fa0_15 k).toInt ∧ (fa0_15 k).toInt ≤ 6) ∧ (∀ k : Nat, 7 ≤ k → k ≤ 9 → (0 : Int) ≤ (fa0_15 k).toInt ∧ (fa0_15 k).toInt ≤ 8) ∧ (∀ k : Nat, 12 ≤ k → k ≤ 29 → (0 : Int) ≤ (fa0_15 k).toInt ∧ (fa0_15 k).toInt ≤ 20) ∧ (∀ k : Nat, 30 ≤ k → k ≤ 35 → (0 : Int) ≤ (fa0_15 k).toInt ∧ (fa0_15 k).toInt ≤ 8) ∧ (∀ k : Nat, 36 ≤ k → k ≤ 47 → (0 : Int) ≤ (fa0_15 k).toInt ∧ (fa0_15 k).toInt ≤ 999))) (bfa0_23 : (∀ k, (0 : Int) ≤ (fa0_23 k).toInt ∧ (fa0_23 k).toInt ≤ 80)) (bfa0_24 : (∀ k, (0 : Int) ≤ (fa0_24 k).toInt ∧ (fa0_24 k).toInt ≤ 80)) (bfa0_17 : ((∀ k : Nat, 0 ≤ k → k ≤ 8 → (0 : Int) ≤ (fa0_17 k).toInt ∧ (fa0_17 k).toInt ≤ 8) ∧ (∀ k : Nat, 19 ≤ k → k ≤ 19 → (0 : Int) ≤ (fa0_17 k).toInt ∧ (fa0_17 k).toInt ≤ 8) ∧ (∀ k : Nat, 20 ≤ k → k ≤ 20 → (0 : Int) ≤ (fa0_17 k).toInt ∧ (fa0_17 k).toInt ≤ 19))) (bfa0_18 : ((∀ k : Nat, 0 ≤ k → k ≤ 8 → (0 : Int) ≤ (fa0_18 k).toInt ∧ (fa0_18 k).toInt ≤ 8) ∧ (∀ k : Nat, 19 ≤ k → k ≤ 19 → (0 : Int) ≤ (fa0_18 k).toInt ∧ (fa0_18 k).toInt ≤ 8) ∧ (∀ k : Nat, 20 ≤ k → k ≤ 20 → (0 : Int) ≤ (fa0_18 k).toInt ∧ (fa0_18 k).toInt ≤ 19))) (hkm : ∀ (j i0 i : Int32), (0 : Int) ≤ j.toInt → j.toInt ≤ 8 → i0.toInt = 12 + 2 * j.toInt → i.toInt = 13 + 2 * j.toInt → (fa0_15 i0.toNatClampNeg).toInt = (1 : Int32).toInt → (1 : Int) ≤ (fa0_15 i.toNatClampNeg).toInt) : zm l yX8_stand wsX8_stand ({ frames := 5, cells := 0, slots := 0, locals := 118 }) [.ref a0, .int a1] dC dI sz [(a0, .inr (8, [Value.int a0_0, a0g_1, a0g_2, a0g_3, a0g_4, a0g_5, a0g_6, a0g_7, a0g_8, a0g_9, a0g_10, Value.int a0_11, a0g_12, a0g_13, Value.int a0_14, Value.ref a0_15, a0g_16, Value.ref a0_17, Value.ref a0_18, a0g_19, a0g_20, a0g_21, a0g_22, Value.ref a0_23, Value.ref a0_24, Value.int a0_25, Value.int a0_26, Value.int a0_27, Value.int a0_28, a0g_29, a0g_30, a0g_31, Value.ref a0_32, Value.ref a0_33, a0g_34, a0g_35, a0g_36, a0g_37, a0g_38, a0g_39])), (a0_15, .inl (ka0_15, 156, .inl (fa0_15))), (a0_23, .inl (ka0_23, 3, .inl (fa0_23))), (a0_24, .inl (ka0_24, 3, .inl (fa0_24))), (a0_17, .inl (ka0_17, 23, .inl (fa0_17))), (a0_18, .inl (ka0_18, 23, .inl (fa0_18))), (a0_32, .inl (ka0_32, 61, .inl (fa0_32))), (a0_33, .inl (ka0_33, 620, .inl (fa0_33)))] [(ka0_15, .int), (ka0_23, .int), (ka0_24, .int), (ka0_17, .int), (ka0_18, .int), (ka0_32, .int), (ka0_33, .int)] (fun A _ => True) (fun A => va_Qi (fun (r : Int32) (_ : Unit) => (-1 : Int) ≤ r.toInt ∧ r.toInt ≤ (8 : Int)) (fun (_ : Unit) (t : State) => ∃ na0_0 : Int32, ∃ na0_11 : Int32, ∃ na0_25 : Int32, ∃ na0_26 : Int32, ∃ na0_27 : Int32, ∃ na0_28 : Int32, ∃ nfa0_23 : Nat → Int32, ∃ nfa0_24 : Nat → Int32, ∃ nfa0_18 : Nat → Int32, ∃ nfa0_32 : Nat → Int32, ∃ nfa0_33 : Nat → Int32, (∀ k, (0 : Int) ≤ (nfa0_23 k).toInt ∧ (nfa0_23 k).toInt ≤ 80) ∧ (∀ k, (0 : Int) ≤ (nfa0_24 k).toInt ∧ (nfa0_24 k).toInt ≤ 80) ∧ ((∀ k : Nat, 0 ≤ k → k ≤ 8 → (0 : Int) ≤ (nfa0_18 k).toInt ∧ (nfa0_18 k).toInt ≤ 8) ∧ (∀ k : Nat, 19 ≤ k → k ≤ 19 → (0 : Int) ≤ (nfa0_18 k).toInt ∧ (nfa0_18 k).toInt ≤ 8) ∧ (∀ k : Nat, 20 ≤ k → k ≤ 20 → (0 : Int) ≤ (nfa0_18 k).toInt ∧ (nfa0_18 k).toInt ≤ 19)) ∧ ax_B dC dI A [(a0, .inr (8, [Value.int na0_0, a0g_1, a0g_2, a0g_3, a0g_4, a0g_5, a0g_6, a0g_7, a0g_8, a0g_9, a0g_10, Value.int na0_11, a0g_12, a0g_13, Value.int a0_14, Value.ref a0_15, a0g_16, Value.ref a0_17, Value.ref a0_18, a0g_19, a0g_20, a0g_21, a0g_22, Value.ref a0_23, Value.ref a0_24, Value.int na0_25, Value.int na0_26, Value.int na0_27, Value.int na0_28, a0g_29, a0g_30, a0g_31, Value.ref a0_32, Value.ref a0_33, a0g_34, a0g_35, a0g_36, a0g_37, a0g_38, a0g_39])), (a0_15, .inl (ka0_15, 156, .inl (fa0_15))), (a0_23, .inl (ka0_23, 3, .inl (nfa0_23))), (a0_24, .inl (ka0_24, 3, .inl (nfa0_24))), (a0_17, .inl (ka0_17, 23, .inl (fa0_17))), (a0_18, .inl (ka0_18, 23, .inl (nfa0_18))), (a0_32, .inl (ka0_32, 61, .inl (nfa0_32))), (a0_33, .inl (ka0_33, 620, .inl (nfa0_33)))] [(ka0_15, .int), (ka0_23, .int), (ka0_24, .int), (ka0_17, .int), (ka0_18, .int), (ka0_32, .int), (ka0_33, .int)] t) A) := by
  refine zh (cc := cX8_stand) (maxL := 5) (ret := (some .int)) zn_RX8 rfl (Nat.le_of_ble_eq_true rfl) (fun p e s m below meth c A ls hx hb hml hr hts (hown : s.vm.findClass RX8 = some m.cls) hlocks hA hS hP hK hD hE (hl : lv_has ls 5 [(0, .ref a0), (1, .int a1)]) => ?_)
  refine ai_open (fun K hK0 => ?_)
  refine (hK0 _ _ _).mpr ?_
  refine lv_aload_n hx hb dX8_stand_0 rfl (lv_at hl 0 rfl) ?_
  refine va_callv (va_runV (As := []) (rest := []) ⟨hx, hb, hml, hown, hts⟩ (c_X8_good l dC dI s.heap.size a0 a0_0 a0g_1 a0g_2 a0g_3 a0g_4 a0g_5 a0g_6 a0g_7 a0g_8 a0g_9 a0g_10 a0g_12 a0g_13 (Value.int a0_14) (Value.ref a0_15) a0g_16 (Value.ref a0_17) (Value.ref a0_18) a0g_19 a0g_20 a0g_21 a0g_22 (Value.ref a0_23) (Value.ref a0_24) (Value.int a0_25) (Value.int a0_26) (Value.int a0_27) (Value.int a0_28) a0g_29 a0g_30 a0g_31 (Value.ref a0_32) (Value.ref a0_33) a0g_34 a0g_35 a0g_36 a0g_37 a0g_38 a0g_39 a0_11 ) (cwV 0 hts gX8_stand_X8_good rfl rfl rfl zd_X8_good ⟨Nat.le_of_ble_eq_true rfl, Nat.le_of_ble_eq_true rfl⟩) ⟨ax_blind (fun _ _ _ _ _ => trivial), zr_8 (zp_K hK) (zp_P1 hP) (q0 := 0) rfl, ax_pre (zp_P1 hP) (zp_K hK) (zp_D1 hD) (fun _ _ => trivial)⟩ rfl rfl hl.1 rfl (lv_room (Nat.le_of_ble_eq_true rfl)) dX8_stand_1 ⟨Nat.le_of_ble_eq_true rfl, Nat.le_of_ble_eq_true rfl⟩) hS (fun q _ h => zp_F1 hD hS hA q h) (zp_F1 hD hS hA) (fun u t H locs ht hvm hw => zx_2 (fun v1na0_0 v1na0_11 hB hz1 hk1 hS1 => zo1 hB ht hP hD hk1 (zp_F1 hD hS hA) hS1 (fun hP hK1 hD hS => ?_)))
  refine lv_aload_n hx hb dX8_stand_4 rfl (lv_at hl 0 rfl) ?_
  refine lv_aload_n hx hb dX8_stand_5 rfl (lv_at hl 0 rfl) ?_
  refine va_get (D := (dC, dI)) (ci := 8) (v := .int a0_14) (C := RX8) (T := TX8) (N := 40) hx hb hts zi_X8_stand_8 hown hK hP 0 rfl rfl 14 (by decide) (hts (.fieldLink RX8 173 "WaxTurnsModel" "hasGallery" "Z") (zm_X8_stand_r1 (List.mem_of_getElem? (i := 0) rfl))) (fun _ h9 => h9) rfl dX8_stand_6 ?_
  refine lv_iload_n hx hb dX8_stand_9 rfl (lv_at hl 1 rfl) ?_
  refine lv_iconst (v := 1) hx hb dX8_stand_10 zk_iconst_1 ?_
  refine lv_bipush (v := 60) hx hb dX8_stand_11 zk_bipush_60 ?_
  refine va_calli (va_runS (As := [.int a1, .int 1, .int 60]) (rest := [.int a0_14, .ref a0]) ⟨hx, hb, hml, hown, hts⟩ (c_X8_in l dC dI H.size a1 1 60 ) (va_cwS 3 hts gX8_stand_X8_in rfl rfl rfl zd_X8_in.2 ⟨Nat.le_of_ble_eq_true rfl, Nat.le_of_ble_eq_true rfl⟩) ⟨ax_blind (fun _ _ _ _ _ => trivial), ax_pre (zp_P0 hP) (zp_K hK) (zp_D0 hD) (fun _ _ => trivial)⟩ rfl rfl hl.1 rfl (lv_room (Nat.le_of_ble_eq_true rfl)) dX8_stand_13 ⟨Nat.le_of_ble_eq_true rfl, Nat.le_of_ble_eq_true rfl⟩) hS (fun q _ h => zp_F0 hD hS hA q h) (zp_F0 hD hS hA) (fun r13 u t H locs ht hvm hw hB hz1 hk1 hS1 => zo0 hB ht hP hD hk1 (zp_F0 hD hS hA) hS1 (fun hP hK1 hD hS => ?_))
  rcases hw with hw | hw
  · obtain ⟨hw, h13⟩ := hw
    subst hw
    have l13k0_a1 : (1 : Int) ≤ a1.toInt := Int.le_trans zq1 h13.1
    have u13k0_a1 : a1.toInt ≤ (60 : Int) := Int.le_trans h13.2 zq46
    refine va_calli (va_runV (As := [.int a0_14, .int 1]) (rest := []) ⟨hx, hb, hml, hown, hts⟩ (c_X8_whyB l dC dI H.size a0 a0_14 1 (Value.int v1na0_0) a0g_1 a0g_2 a0g_3 a0g_4 a0g_5 a0g_6 a0g_7 a0g_8 a0g_9 a0g_10 (Value.int v1na0_11) a0g_12 a0g_13 (Value.int a0_14) (Value.ref a0_15) a0g_16 (Value.ref a0_17) (Value.ref a0_18) a0g_19 a0g_20 a0g_21 a0g_22 (Value.ref a0_23) (Value.ref a0_24) (Value.int a0_25) (Value.int a0_26) (Value.int a0_27) (Value.int a0_28) a0g_29 a0g_30 a0g_31 (Value.ref a0_32) (Value.ref a0_33) a0g_34 a0g_35 a0g_36 a0g_37 a0g_38 a0g_39 (Int.le_trans zq4 ba0_14_l) ba0_14_u (Int.le_trans zq4 zq1) zq0) (cwV 2 hts gX8_stand_X8_why rfl rfl rfl zd_X8_why ⟨Nat.le_of_ble_eq_true rfl, Nat.le_of_ble_eq_true rfl⟩) ⟨ax_blind (fun _ _ _ _ _ => trivial), zr_8 (zp_K hK) (zp_P1 hP) (q0 := 0) rfl, ax_pre (zp_P1 hP) (zp_K hK) (zp_D1 hD) (fun _ _ => trivial)⟩ rfl rfl hl.1 rfl (lv_room (Nat.le_of_ble_eq_true rfl)) dX8_stand_16 ⟨Nat.le_of_ble_eq_true rfl, Nat.le_of_ble_eq_true rfl⟩) hS (fun q _ h => zp_F1 hD hS hA q h) (zp_F1 hD hS hA) (fun r16 u t H locs ht hvm hw hB hz1 hk1 hS1 => zo1 hB ht hP hD hk1 (zp_F1 hD hS hA) hS1 (fun hP hK1 hD hS => ?_))
    rcases hw with hw | hw | hw
    · obtain ⟨hw, h16_0, h16_1, h16_2, h16_3⟩ := hw
      subst hw
      have l16k0_a0_14 : (1 : Int) ≤ a0_14.toInt := ba0_14_l
      have u16k0_a0_14 : a0_14.toInt ≤ (1 : Int) := ba0_14_u
      exact absurd h16_3 (by decide)
    · obtain ⟨hw, h16_0, h16_1⟩ := hw
      subst hw
      have l16k1_a0_14 : (1 : Int) ≤ a0_14.toInt := ba0_14_l
      have u16k1_a0_14 : a0_14.toInt ≤ (0 : Int) := h16_1
      exact absurd (Int.le_trans l16k1_a0_14 u16k1_a0_14) (by decide)
    · obtain ⟨hw, h16_0, h16_1, h16_2, h16_3⟩ := hw
      subst hw
      have l16k2_a0_14 : (1 : Int) ≤ a0_14.toInt := ba0_14_l
      have u16k2_a0_14 : a0_14.toInt ≤ (1 : Int) := ba0_14_u
      refine lv_istore_n (lv' := [(2, .int 0), (0, .ref a0), (1, .int a1)]) hx hb dX8_stand_19 rfl hl (by decide) rfl (fun ls hl => ?_)
      refine lv_iload_n hx hb dX8_stand_20 rfl (lv_at hl 0 rfl) ?_
      refine lv_if_eq (tgt := 30) hx hb dX8_stand_21 (by decide) (fun _ => ?_) (fun c21 => absurd (by decide +kernel) c21)
      refine lv_aload_n hx hb dX8_stand_30 rfl (lv_at hl 1 rfl) ?_
      refine lv_iload_n hx hb dX8_stand_31 rfl (lv_at hl 2 rfl) ?_
      have hKc := hK.sub (tys' := [(ka0_15, .int), (ka0_23, .int), (ka0_24, .int), (ka0_17, .int), (ka0_18, .int), (ka0_32, .int), (ka0_33, .int)]) [0, 1, 2, 3, 4, 5, 6] rfl
      refine va_callv (va_runV (As := [.int a1]) (rest := []) ⟨hx, hb, hml, hown, hts⟩ (c_X8_layRoute l dC dI H.size a0 a1 (Value.int v1na0_0) a0g_1 a0g_2 a0g_3 a0g_4 a0g_5 a0g_6 a0g_7 a0g_8 a0g_9 a0g_10 (Value.int v1na0_11) a0g_12 a0g_13 (Value.int a0_14) a0g_16 a0g_19 a0g_20 a0g_21 a0g_22 a0g_29 a0g_30 a0g_31 a0g_34 a0g_35 a0g_36 a0g_37 a0g_38 a0g_39 a0_15 a0_17 a0_18 a0_23 a0_24 a0_25 a0_26 a0_27 a0_28 a0_32 a0_33 ka0_15 fa0_15 ka0_23 fa0_23 ka0_24 fa0_24 ka0_17 fa0_17 ka0_18 fa0_18 ka0_32 fa0_32 ka0_33 fa0_33 l13k0_a1 u13k0_a1 bfa0_15 bfa0_23 bfa0_24 bfa0_17 bfa0_18 hkm) (cwV 1 hts gX8_stand_X8_layRoute rfl rfl rfl zd_X8_layRoute ⟨Nat.le_of_ble_eq_true rfl, Nat.le_of_ble_eq_true rfl⟩) ⟨ax_blind (fun _ _ _ _ _ => trivial), zr_8 hKc (zp_P8 hP) (q0 := 0) rfl, ax_pre (zp_P8 hP) hKc (zp_D8 hD) (fun _ _ => trivial)⟩ rfl rfl hl.1 rfl (lv_room (Nat.le_of_ble_eq_true rfl)) dX8_stand_32 ⟨Nat.le_of_ble_eq_true rfl, Nat.le_of_ble_eq_true rfl⟩) hS (fun q _ h => zp_F8 hD hS hA q h) (zp_F8 hD hS hA) (fun u t H locs ht hvm hw => zx_9 (fun v32na0_25 v32na0_26 v32na0_27 v32na0_28 v32nfa0_23 v32nfa0_24 v32nfa0_18 v32nfa0_32 v32nfa0_33 => zy_3 (fun bv32nfa0_23 bv32nfa0_24 bv32nfa0_18 hB hz1 hk1 hS1 => zo8 hB ht hP hD hk1 (zp_F8 hD hS hA) hS1 (fun hP hK1 hD hS => ?_))))
      refine lv_iconst (v := 0) hx hb dX8_stand_35 zk_iconst_0 ?_
      refine lv_istore_n (lv' := [(3, .int 0), (2, .int 0), (0, .ref a0), (1, .int a1)]) hx hb dX8_stand_36 rfl hl (by decide) rfl (fun ls hl => ?_)
      refine lv_iconst (v := 1) hx hb dX8_stand_37 zk_iconst_1 ?_
      refine lv_istore (lv' := [(4, .int 1), (3, .int 0), (2, .int 0), (0, .ref a0), (1, .int a1)]) hx hb dX8_stand_38 hl (by decide) rfl (fun ls hl => ?_)
      have J40 : ∀ (n : Nat) (j40l4 : Int32) (j40l3 : Int32) (H : Heap) (locs : List Loc) (ls : Array Slot), (10 : Int) - j40l4.toInt ≤ (n : Int) → (1 : Int) ≤ j40l4.toInt → j40l4.toInt ≤ (9 : Int) → (0 : Int) ≤ j40l3.toInt → j40l3.toInt ≤ (8 : Int) → va_P (dC, dI) vwCl [(a0, .inr (8, [Value.int v1na0_0, a0g_1, a0g_2, a0g_3, a0g_4, a0g_5, a0g_6, a0g_7, a0g_8, a0g_9, a0g_10, Value.int v1na0_11, a0g_12, a0g_13, Value.int a0_14, Value.ref a0_15, a0g_16, Value.ref a0_17, Value.ref a0_18, a0g_19, a0g_20, a0g_21, a0g_22, Value.ref a0_23, Value.ref a0_24, Value.int v32na0_25, Value.int v32na0_26, Value.int v32na0_27, Value.int v32na0_28, a0g_29, a0g_30, a0g_31, Value.ref a0_32, Value.ref a0_33, a0g_34, a0g_35, a0g_36, a0g_37, a0g_38, a0g_39])), (a0_15, .inl (ka0_15, 156, .inl (fa0_15))), (a0_23, .inl (ka0_23, 3, .inl (v32nfa0_23))), (a0_24, .inl (ka0_24, 3, .inl (v32nfa0_24))), (a0_17, .inl (ka0_17, 23, .inl (fa0_17))), (a0_18, .inl (ka0_18, 23, .inl (v32nfa0_18))), (a0_32, .inl (ka0_32, 61, .inl (v32nfa0_32))), (a0_33, .inl (ka0_33, 620, .inl (v32nfa0_33)))] H → va_D A [(a0, .inr (8, [Value.int v1na0_0, a0g_1, a0g_2, a0g_3, a0g_4, a0g_5, a0g_6, a0g_7, a0g_8, a0g_9, a0g_10, Value.int v1na0_11, a0g_12, a0g_13, Value.int a0_14, Value.ref a0_15, a0g_16, Value.ref a0_17, Value.ref a0_18, a0g_19, a0g_20, a0g_21, a0g_22, Value.ref a0_23, Value.ref a0_24, Value.int v32na0_25, Value.int v32na0_26, Value.int v32na0_27, Value.int v32na0_28, a0g_29, a0g_30, a0g_31, Value.ref a0_32, Value.ref a0_33, a0g_34, a0g_35, a0g_36, a0g_37, a0g_38, a0g_39])), (a0_15, .inl (ka0_15, 156, .inl (fa0_15))), (a0_23, .inl (ka0_23, 3, .inl (v32nfa0_23))), (a0_24, .inl (ka0_24, 3, .inl (v32nfa0_24))), (a0_17, .inl (ka0_17, 23, .inl (fa0_17))), (a0_18, .inl (ka0_18, 23, .inl (v32nfa0_18))), (a0_32, .inl (ka0_32, 61, .inl (v32nfa0_32))), (a0_33, .inl (ka0_33, 620, .inl (v32nfa0_33)))] → va_S A s.heap H locs → lv_has ls 5 [(0, .ref a0), (3, .int j40l3), (4, .int j40l4)] → K H locs (F0 m 40 ls []) := by
        intro n
        induction n with
        | zero =>
          intro j40l4 j40l3 H locs ls hm bj40l4_l bj40l4_u bj40l3_l bj40l3_u hP hD hS hl
          first | exact zg_0 hm bj40l4_u (by decide) | (have h8 := ai_min j40l4; have h9 := ai_max j40l4; exact absurd hm (by omega))
        | succ n ih40 =>
          intro j40l4 j40l3 H locs ls hm bj40l4_l bj40l4_u bj40l3_l bj40l3_u hP hD hS hl
          refine (hK0 _ _ _).mpr ?_
          have hm40 := hm
          refine lv_iload hx hb dX8_stand_40 (lv_at hl 2 rfl) ?_
          refine lv_aload_n hx hb dX8_stand_42 rfl (lv_at hl 0 rfl) ?_
          refine va_get (D := (dC, dI)) (ci := 8) (v := .ref a0_15) (C := RX8) (T := TX8) (N := 40) hx hb hts zi_X8_stand_8 hown hK hP 0 rfl rfl 15 (by decide) (hts (.fieldLink RX8 20 "WaxTurnsModel" "\x72" "[I") (zm_X8_stand_r1 (List.mem_of_getElem? (i := 1) rfl))) (fun _ h9 => h9) rfl dX8_stand_43 ?_
          refine lv_iconst (v := 0) hx hb dX8_stand_46 zk_iconst_0 ?_
          refine va_iald hx hb hK hP 1 0 rfl rfl (by unfold vp_in; decide +kernel) dX8_stand_47 ?_
          refine lv_topi (fun x47 ex47 => ?_)
          have bx47 : (2 : Int) ≤ x47.toInt ∧ x47.toInt ≤ 9 := by rw [ex47]; exact ai_rd bfa0_15.1 zq5 zq6 (by decide) (by decide) (by decide)
          refine lv_icmp_ge (tgt := 76) hx hb dX8_stand_48 (by decide) (fun c48 => ?_) (fun c48 => ?_)
          · have gc48 := ai_le c48
            have u48t_x47 : x47.toInt ≤ (9 : Int) := bx47.2
            have l48t_j40l4 : (2 : Int) ≤ j40l4.toInt := Int.le_trans bx47.1 gc48
            refine lv_iload_n hx hb dX8_stand_76 rfl (lv_at hl 1 rfl) ?_
            exact W.iret (v := j40l3) hx hb hr (fun t ht hW => ⟨⟨j40l3, (), rfl, ⟨(Int.le_trans zq69 bj40l3_l), bj40l3_u⟩, v1na0_0, v1na0_11, v32na0_25, v32na0_26, v32na0_27, v32na0_28, v32nfa0_23, v32nfa0_24, v32nfa0_18, v32nfa0_32, v32nfa0_33, bv32nfa0_23, bv32nfa0_24, bv32nfa0_18, by rw [ht]; exact hP, va_K.moved hW.alike hK, hD⟩, hS.F ht⟩) hS.2.2 dX8_stand_77
          · have gc48 := ai_nle c48
            have u48f_j40l4 : j40l4.toInt ≤ (8 : Int) := ai_lthi gc48 bx47.2
            have l48f_x47 : (2 : Int) ≤ x47.toInt := bx47.1
            refine lv_aload_n hx hb dX8_stand_51 rfl (lv_at hl 0 rfl) ?_
            refine va_get (D := (dC, dI)) (ci := 8) (v := .ref a0_33) (C := RX8) (T := TX8) (N := 40) hx hb hts zi_X8_stand_8 hown hK hP 0 rfl rfl 33 (by decide) (hts (.fieldLink RX8 50 "WaxTurnsModel" "with" "[I") (zm_X8_stand_r1 (List.mem_of_getElem? (i := 2) rfl))) (fun _ h9 => h9) rfl dX8_stand_52 ?_
            refine lv_iload hx hb dX8_stand_55 (lv_at hl 2 rfl) ?_
            refine va_iald hx hb hK hP 7 6 rfl rfl (ai_in bj40l4_l u48f_j40l4 (by decide) (by decide)) dX8_stand_57 ?_
            refine lv_topi (fun x57 ex57 => ?_)
            refine lv_aload_n hx hb dX8_stand_58 rfl (lv_at hl 0 rfl) ?_
            refine va_get (D := (dC, dI)) (ci := 8) (v := .ref a0_33) (C := RX8) (T := TX8) (N := 40) hx hb hts zi_X8_stand_8 hown hK hP 0 rfl rfl 33 (by decide) (hts (.fieldLink RX8 50 "WaxTurnsModel" "with" "[I") (zm_X8_stand_r1 (List.mem_of_getElem? (i := 2) rfl))) (fun _ h9 => h9) rfl dX8_stand_59 ?_
            refine lv_iload_n hx hb dX8_stand_62 rfl (lv_at hl 1 rfl) ?_
            refine va_iald hx hb hK hP 7 6 rfl rfl (ai_in bj40l3_l bj40l3_u (by decide) (by decide)) dX8_stand_63 ?_
            refine lv_topi (fun x63 ex63 => ?_)
            have J70 : ∀ (j70l3 : Int32) (H : Heap) (locs : List Loc) (ls : Array Slot), (0 : Int) ≤ j70l3.toInt → j70l3.toInt ≤ (8 : Int) → va_P (dC, dI) vwCl [(a0, .inr (8, [Value.int v1na0_0, a0g_1, a0g_2, a0g_3, a0g_4, a0g_5, a0g_6, a0g_7, a0g_8, a0g_9, a0g_10, Value.int v1na0_11, a0g_12, a0g_13, Value.int a0_14, Value.ref a0_15, a0g_16, Value.ref a0_17, Value.ref a0_18, a0g_19, a0g_20, a0g_21, a0g_22, Value.ref a0_23, Value.ref a0_24, Value.int v32na0_25, Value.int v32na0_26, Value.int v32na0_27, Value.int v32na0_28, a0g_29, a0g_30, a0g_31, Value.ref a0_32, Value.ref a0_33, a0g_34, a0g_35, a0g_36, a0g_37, a0g_38, a0g_39])), (a0_15, .inl (ka0_15, 156, .inl (fa0_15))), (a0_23, .inl (ka0_23, 3, .inl (v32nfa0_23))), (a0_24, .inl (ka0_24, 3, .inl (v32nfa0_24))), (a0_17, .inl (ka0_17, 23, .inl (fa0_17))), (a0_18, .inl (ka0_18, 23, .inl (v32nfa0_18))), (a0_32, .inl (ka0_32, 61, .inl (v32nfa0_32))), (a0_33, .inl (ka0_33, 620, .inl (v32nfa0_33)))] H → va_D A [(a0, .inr (8, [Value.int v1na0_0, a0g_1, a0g_2, a0g_3, a0g_4, a0g_5, a0g_6, a0g_7, a0g_8, a0g_9, a0g_10, Value.int v1na0_11, a0g_12, a0g_13, Value.int a0_14, Value.ref a0_15, a0g_16, Value.ref a0_17, Value.ref a0_18, a0g_19, a0g_20, a0g_21, a0g_22, Value.ref a0_23, Value.ref a0_24, Value.int v32na0_25, Value.int v32na0_26, Value.int v32na0_27, Value.int v32na0_28, a0g_29, a0g_30, a0g_31, Value.ref a0_32, Value.ref a0_33, a0g_34, a0g_35, a0g_36, a0g_37, a0g_38, a0g_39])), (a0_15, .inl (ka0_15, 156, .inl (fa0_15))), (a0_23, .inl (ka0_23, 3, .inl (v32nfa0_23))), (a0_24, .inl (ka0_24, 3, .inl (v32nfa0_24))), (a0_17, .inl (ka0_17, 23, .inl (fa0_17))), (a0_18, .inl (ka0_18, 23, .inl (v32nfa0_18))), (a0_32, .inl (ka0_32, 61, .inl (v32nfa0_32))), (a0_33, .inl (ka0_33, 620, .inl (v32nfa0_33)))] → va_S A s.heap H locs → lv_has ls 5 [(0, .ref a0), (3, .int j70l3), (4, .int j40l4)] → K H locs (F0 m 70 ls []) := by
              intro j70l3 H locs ls  bj70l3_l bj70l3_u hP hD hS hl
              refine (hK0 _ _ _).mpr ?_
              obtain ⟨x70, ex70⟩ : ∃ y : Int32, y = j40l4 + Int32.ofInt 1 := ⟨_, rfl⟩
              have qx70 : x70.toInt = j40l4.toInt + 1 := ai_inc ex70 (by decide) (by decide) u48f_j40l4 (by decide)
              have bx70 : (2 : Int) ≤ x70.toInt ∧ x70.toInt ≤ 9 := ⟨by rw [qx70]; exact Int.add_le_add bj40l4_l (Int.le_refl _), by rw [qx70]; exact Int.add_le_add u48f_j40l4 (Int.le_refl _)⟩
              refine lv_iinc (v := x70) (lv' := [(4, .int x70), (0, .ref a0), (3, .int j70l3)]) hx hb dX8_stand_70 hl (k := 2) rfl ex70.symm (by decide) rfl (fun ls hl => ?_)
              refine lv_goto (tgt := 40) hx hb dX8_stand_73 (by decide) ?_
              exact (hK0 _ _ _).mp (ih40 x70 j70l3 _ _ _ (by first | exact zg_s hm40 qx70 | (have h0 := qx70; omega)) (Int.le_trans zq54 bx70.1) bx70.2 bj70l3_l bj70l3_u hP hD hS (lv_sub hl [1, 2, 0] rfl))
            refine lv_icmp_le (tgt := 70) hx hb dX8_stand_64 (by decide) (fun c64 => ?_) (fun c64 => ?_)
            · have gc64 := ai_le c64
              exact (hK0 _ _ _).mp (J70 j40l3 _ _ _  bj40l3_l bj40l3_u hP hD hS (lv_sub hl [0, 1, 2] rfl))
            · have gc64 := ai_nle c64
              have u64f_x63 : x63.toInt ≤ (2147483646 : Int) := ai_lthi gc64 (ai_max x57)
              have l64f_x57 : (-2147483647 : Int) ≤ x57.toInt := ai_ltlo gc64 (ai_min x63)
              refine lv_iload hx hb dX8_stand_67 (lv_at hl 2 rfl) ?_
              refine lv_istore_n (lv' := [(3, .int j40l4), (0, .ref a0), (4, .int j40l4)]) hx hb dX8_stand_69 rfl hl (by decide) rfl (fun ls hl => ?_)
              exact (hK0 _ _ _).mp (J70 j40l4 _ _ _  (Int.le_trans zq4 bj40l4_l) u48f_j40l4 hP hD hS (lv_sub hl [1, 0, 2] rfl))
      exact (hK0 _ _ _).mp (J40 9 1 0 _ _ _ (by first | decide +kernel | (have h1 : (1 : Int) ≤ (1 : Int32).toInt := zq1; have h2 : (1 : Int32).toInt ≤ (1 : Int) := zq0; omega)) zq1 (Int.le_trans zq0 zq56) zq5 (Int.le_trans zq6 zq20) hP hD hS (lv_sub hl [3, 1, 0] rfl))
  · obtain ⟨hw, h13⟩ := hw
    subst hw
    refine va_calli (va_runV (As := [.int a0_14, .int 0]) (rest := []) ⟨hx, hb, hml, hown, hts⟩ (c_X8_whyB l dC dI H.size a0 a0_14 0 (Value.int v1na0_0) a0g_1 a0g_2 a0g_3 a0g_4 a0g_5 a0g_6 a0g_7 a0g_8 a0g_9 a0g_10 (Value.int v1na0_11) a0g_12 a0g_13 (Value.int a0_14) (Value.ref a0_15) a0g_16 (Value.ref a0_17) (Value.ref a0_18) a0g_19 a0g_20 a0g_21 a0g_22 (Value.ref a0_23) (Value.ref a0_24) (Value.int a0_25) (Value.int a0_26) (Value.int a0_27) (Value.int a0_28) a0g_29 a0g_30 a0g_31 (Value.ref a0_32) (Value.ref a0_33) a0g_34 a0g_35 a0g_36 a0g_37 a0g_38 a0g_39 (Int.le_trans zq4 ba0_14_l) ba0_14_u zq5 (Int.le_trans zq6 zq4)) (cwV 2 hts gX8_stand_X8_why rfl rfl rfl zd_X8_why ⟨Nat.le_of_ble_eq_true rfl, Nat.le_of_ble_eq_true rfl⟩) ⟨ax_blind (fun _ _ _ _ _ => trivial), zr_8 (zp_K hK) (zp_P1 hP) (q0 := 0) rfl, ax_pre (zp_P1 hP) (zp_K hK) (zp_D1 hD) (fun _ _ => trivial)⟩ rfl rfl hl.1 rfl (lv_room (Nat.le_of_ble_eq_true rfl)) dX8_stand_16 ⟨Nat.le_of_ble_eq_true rfl, Nat.le_of_ble_eq_true rfl⟩) hS (fun q _ h => zp_F1 hD hS hA q h) (zp_F1 hD hS hA) (fun r16 u t H locs ht hvm hw hB hz1 hk1 hS1 => zo1 hB ht hP hD hk1 (zp_F1 hD hS hA) hS1 (fun hP hK1 hD hS => ?_))
    rcases hw with hw | hw | hw
    · obtain ⟨hw, h16_0, h16_1, h16_2, h16_3⟩ := hw
      subst hw
      have l16k0_a0_14 : (1 : Int) ≤ a0_14.toInt := ba0_14_l
      have u16k0_a0_14 : a0_14.toInt ≤ (1 : Int) := ba0_14_u
      refine lv_istore_n (lv' := [(2, .int 2), (0, .ref a0), (1, .int a1)]) hx hb dX8_stand_19 rfl hl (by decide) rfl (fun ls hl => ?_)
      refine lv_iload_n hx hb dX8_stand_20 rfl (lv_at hl 0 rfl) ?_
      refine lv_if_eq (tgt := 30) hx hb dX8_stand_21 (by decide) (fun c21 => absurd c21 (by decide +kernel)) (fun _ => ?_)
      refine lv_aload_n hx hb dX8_stand_24 rfl (lv_at hl 1 rfl) ?_
      refine lv_iload_n hx hb dX8_stand_25 rfl (lv_at hl 0 rfl) ?_
      refine va_calli (va_runV (As := [.int 2]) (rest := []) ⟨hx, hb, hml, hown, hts⟩ (c_X8_no l dC dI H.size a0 2 (Value.int v1na0_0) a0g_1 a0g_2 a0g_3 a0g_4 a0g_5 a0g_6 a0g_7 a0g_8 a0g_9 a0g_10 a0g_12 a0g_13 (Value.int a0_14) (Value.ref a0_15) a0g_16 (Value.ref a0_17) (Value.ref a0_18) a0g_19 a0g_20 a0g_21 a0g_22 (Value.ref a0_23) (Value.ref a0_24) (Value.int a0_25) (Value.int a0_26) (Value.int a0_27) (Value.int a0_28) a0g_29 a0g_30 a0g_31 (Value.ref a0_32) (Value.ref a0_33) a0g_34 a0g_35 a0g_36 a0g_37 a0g_38 a0g_39 v1na0_11 ) (cwV 1 hts gX8_stand_X8_no rfl rfl rfl zd_X8_no ⟨Nat.le_of_ble_eq_true rfl, Nat.le_of_ble_eq_true rfl⟩) ⟨ax_blind (fun _ _ _ _ _ => trivial), zr_8 (zp_K hK) (zp_P1 hP) (q0 := 0) rfl, ax_pre (zp_P1 hP) (zp_K hK) (zp_D1 hD) (fun _ _ => trivial)⟩ rfl rfl hl.1 rfl (lv_room (Nat.le_of_ble_eq_true rfl)) dX8_stand_26 ⟨Nat.le_of_ble_eq_true rfl, Nat.le_of_ble_eq_true rfl⟩) hS (fun q _ h => zp_F1 hD hS hA q h) (zp_F1 hD hS hA) (fun r26 u t H locs ht hvm hw => zx_1 (fun v26na0_11 hB hz1 hk1 hS1 => zo1 hB ht hP hD hk1 (zp_F1 hD hS hA) hS1 (fun hP hK1 hD hS => ?_)))
      have hw : r26 = (-1) := hw
      have hw := hw.symm
      subst hw
      exact W.iret (v := (-1)) hx hb hr (fun t ht hW => ⟨⟨(-1), (), rfl, ⟨zq70, (Int.le_trans zq71 zq72)⟩, v1na0_0, v26na0_11, a0_25, a0_26, a0_27, a0_28, fa0_23, fa0_24, fa0_18, fa0_32, fa0_33, bfa0_23, bfa0_24, bfa0_18, by rw [ht]; exact hP, va_K.moved hW.alike hK, hD⟩, hS.F ht⟩) hS.2.2 dX8_stand_29
    · obtain ⟨hw, h16_0, h16_1⟩ := hw
      subst hw
      have l16k1_a0_14 : (1 : Int) ≤ a0_14.toInt := ba0_14_l
      have u16k1_a0_14 : a0_14.toInt ≤ (0 : Int) := h16_1
      exact absurd (Int.le_trans l16k1_a0_14 u16k1_a0_14) (by decide)
    · obtain ⟨hw, h16_0, h16_1, h16_2, h16_3⟩ := hw
      subst hw
      have l16k2_a0_14 : (1 : Int) ≤ a0_14.toInt := ba0_14_l
      have u16k2_a0_14 : a0_14.toInt ≤ (1 : Int) := ba0_14_u
      exact absurd h16_2 (by decide)

set_option maxHeartbeats 4000000 in
set_option maxRecDepth 100000 in
theorem c_X8_guard (l : Launch) (dC : Nat → ClassId) (dI : Nat → Nat → Nat) (sz : Nat) (a0 : Nat) (a1 : Int32) (a0_0 : Int32) (a0g_1 a0g_2 a0g_3 a0g_4 a0g_5 a0g_6 a0g_7 a0g_8 a0g_9 a0g_10 a0g_12 a0g_13 a0g_16 a0g_19 a0g_20 a0g_21 a0g_22 a0g_29 a0g_30 a0g_31 a0g_32 a0g_33 a0g_34 a0g_35 a0g_36 a0g_37 a0g_38 a0g_39 : Value) (a0_11 : Int32) (a0_14 : Int32) (a0_15 : Nat) (a0_17 : Nat) (a0_18 : Nat) (a0_23 : Nat) (a0_24 : Nat) (a0_25 : Int32) (a0_26 : Int32) (a0_27 : Int32) (a0_28 : Int32) (ka0_15 : ClassId) (fa0_15 : Nat → Int32) (ka0_23 : ClassId) (fa0_23 : Nat → Int32) (ka0_24 : ClassId) (fa0_24 : Nat → Int32) (ka0_17 : ClassId) (fa0_17 : Nat → Int32) (ka0_18 : ClassId) (fa0_18 : Nat → Int32) (ba0_14_l : (1 : Int) ≤ a0_14.toInt) (ba0_14_u : a0_14.toInt ≤ (1 : Int)) (bfa0_15 : ((∀ k : Nat, 0 ≤ k → k ≤ 0 → (2 : Int) ≤ (fa0_15 k).toInt ∧ (fa0_15 k).toInt ≤ 9) ∧ (∀ k : Nat, 1 ≤ k → k ≤ 1 → (1 : Int) ≤ (fa0_15 k).toInt ∧ (fa0_15 k).toInt ≤ 20) ∧ (∀ k : Nat, 2 ≤ k → k ≤ 2 → (0 : Int) ≤ (fa0_15 k).toInt ∧ (fa0_15 k).toInt ≤ 8) ∧ (∀ k : Nat, 3 ≤ k → k ≤ 3 → (0 : Int) ≤ (fa0_15 k).toInt ∧ (fa0_15 k).toInt ≤ 100) ∧ (∀ k : Nat, 4 ≤ k → k ≤ 4 → (0 : Int) ≤ (fa0_15 k).toInt ∧ (fa0_15 k).toInt ≤ 9) ∧ (∀ k : Nat, 5 ≤ k → k ≤ 5 → (0 : Int) ≤ (fa0_15 k).toInt ∧ (fa0_15 k).toInt ≤ 3) ∧ (∀ k : Nat, 6 ≤ k → k ≤ 6 → (0 : Int) ≤ (fa0_15 k).toInt ∧ (fa0_15 k).toInt ≤ 6) ∧ (∀ k : Nat, 7 ≤ k → k ≤ 9 → (0 : Int) ≤ (fa0_15 k).toInt ∧ (fa0_15 k).toInt ≤ 8) ∧ (∀ k : Nat, 12 ≤ k → k ≤ 29 → (0 : Int) ≤ (fa0_15 k).toInt ∧ (fa0_15 k).toInt ≤ 20) ∧ (∀ k : Nat, 30 ≤ k → k ≤ 35 → (0 : Int) ≤ (fa0_15 k).toInt ∧ (fa0_15 k).toInt ≤ 8) ∧ (∀ k : Nat, 36 ≤ k → k ≤ 47 → (0 : Int) ≤ (fa0_15 k).toInt ∧ (fa0_15 k).toInt ≤ 999))) (bfa0_23 : (∀ k, (0 : Int) ≤ (fa0_23 k).toInt ∧ (fa0_23 k).toInt ≤ 80)) (bfa0_24 : (∀ k, (0 : Int) ≤ (fa0_24 k).toInt ∧ (fa0_24 k).toInt ≤ 80)) (bfa0_17 : ((∀ k : Nat, 0 ≤ k → k ≤ 8 → (0 : Int) ≤ (fa0_17 k).toInt ∧ (fa0_17 k).toInt ≤ 8) ∧ (∀ k : Nat, 19 ≤ k → k ≤ 19 → (0 : Int) ≤ (fa0_17 k).toInt ∧ (fa0_17 k).toInt ≤ 8) ∧ (∀ k : Nat, 20 ≤ k → k ≤ 20 → (0 : Int) ≤ (fa0_17 k).toInt ∧ (fa0_17 k).toInt ≤ 19))) (bfa0_18 : ((∀ k : Nat, 0 ≤ k → k ≤ 8 → (0 : Int) ≤ (fa0_18 k).toInt ∧ (fa0_18 k).toInt ≤ 8) ∧ (∀ k : Nat, 19 ≤ k → k ≤ 19 → (0 : Int) ≤ (fa0_18 k).toInt ∧ (fa0_18 k).toInt ≤ 8) ∧ (∀ k : Nat, 20 ≤ k → k ≤ 20 → (0 : Int) ≤ (fa0_18 k).toInt ∧ (fa0_18 k).toInt ≤ 19))) (hkm : ∀ (j i0 i : Int32), (0 : Int) ≤ j.toInt → j.toInt ≤ 8 → i0.toInt = 12 + 2 * j.toInt → i.toInt = 13 + 2 * j.toInt → (fa0_15 i0.toNatClampNeg).toInt = (1 : Int32).toInt → (1 : Int) ≤ (fa0_15 i.toNatClampNeg).toInt) : zm l yX8_guard wsX8_guard ({ frames := 4, cells := 0, slots := 0, locals := 95 }) [.ref a0, .int a1] dC dI sz [(a0, .inr (8, [Value.int a0_0, a0g_1, a0g_2, a0g_3, a0g_4, a0g_5, a0g_6, a0g_7, a0g_8, a0g_9, a0g_10, Value.int a0_11, a0g_12, a0g_13, Value.int a0_14, Value.ref a0_15, a0g_16, Value.ref a0_17, Value.ref a0_18, a0g_19, a0g_20, a0g_21, a0g_22, Value.ref a0_23, Value.ref a0_24, Value.int a0_25, Value.int a0_26, Value.int a0_27, Value.int a0_28, a0g_29, a0g_30, a0g_31, a0g_32, a0g_33, a0g_34, a0g_35, a0g_36, a0g_37, a0g_38, a0g_39])), (a0_15, .inl (ka0_15, 156, .inl (fa0_15))), (a0_23, .inl (ka0_23, 3, .inl (fa0_23))), (a0_24, .inl (ka0_24, 3, .inl (fa0_24))), (a0_17, .inl (ka0_17, 23, .inl (fa0_17))), (a0_18, .inl (ka0_18, 23, .inl (fa0_18)))] [(ka0_15, .int), (ka0_23, .int), (ka0_24, .int), (ka0_17, .int), (ka0_18, .int)] (fun A _ => True) (fun A => va_Qi (fun (r : Int32) (_ : Unit) => (-2 : Int) ≤ r.toInt ∧ r.toInt ≤ (729 : Int)) (fun (_ : Unit) (t : State) => ∃ na0_0 : Int32, ∃ na0_11 : Int32, ∃ na0_25 : Int32, ∃ na0_26 : Int32, ∃ na0_27 : Int32, ∃ na0_28 : Int32, ∃ nfa0_23 : Nat → Int32, ∃ nfa0_24 : Nat → Int32, ∃ nfa0_18 : Nat → Int32, (∀ k, (0 : Int) ≤ (nfa0_23 k).toInt ∧ (nfa0_23 k).toInt ≤ 80) ∧ (∀ k, (0 : Int) ≤ (nfa0_24 k).toInt ∧ (nfa0_24 k).toInt ≤ 80) ∧ ((∀ k : Nat, 0 ≤ k → k ≤ 8 → (0 : Int) ≤ (nfa0_18 k).toInt ∧ (nfa0_18 k).toInt ≤ 8) ∧ (∀ k : Nat, 19 ≤ k → k ≤ 19 → (0 : Int) ≤ (nfa0_18 k).toInt ∧ (nfa0_18 k).toInt ≤ 8) ∧ (∀ k : Nat, 20 ≤ k → k ≤ 20 → (0 : Int) ≤ (nfa0_18 k).toInt ∧ (nfa0_18 k).toInt ≤ 19)) ∧ ax_B dC dI A [(a0, .inr (8, [Value.int na0_0, a0g_1, a0g_2, a0g_3, a0g_4, a0g_5, a0g_6, a0g_7, a0g_8, a0g_9, a0g_10, Value.int na0_11, a0g_12, a0g_13, Value.int a0_14, Value.ref a0_15, a0g_16, Value.ref a0_17, Value.ref a0_18, a0g_19, a0g_20, a0g_21, a0g_22, Value.ref a0_23, Value.ref a0_24, Value.int na0_25, Value.int na0_26, Value.int na0_27, Value.int na0_28, a0g_29, a0g_30, a0g_31, a0g_32, a0g_33, a0g_34, a0g_35, a0g_36, a0g_37, a0g_38, a0g_39])), (a0_15, .inl (ka0_15, 156, .inl (fa0_15))), (a0_23, .inl (ka0_23, 3, .inl (nfa0_23))), (a0_24, .inl (ka0_24, 3, .inl (nfa0_24))), (a0_17, .inl (ka0_17, 23, .inl (fa0_17))), (a0_18, .inl (ka0_18, 23, .inl (nfa0_18)))] [(ka0_15, .int), (ka0_23, .int), (ka0_24, .int), (ka0_17, .int), (ka0_18, .int)] t) A) := by
  refine zh (cc := cX8_guard) (maxL := 6) (ret := (some .int)) zn_RX8 rfl (Nat.le_of_ble_eq_true rfl) (fun p e s m below meth c A ls hx hb hml hr hts (hown : s.vm.findClass RX8 = some m.cls) hlocks hA hS hP hK hD hE (hl : lv_has ls 6 [(0, .ref a0), (1, .int a1)]) => ?_)
  refine ai_open (fun K hK0 => ?_)
  refine (hK0 _ _ _).mpr ?_
  refine lv_aload_n hx hb dX8_guard_0 rfl (lv_at hl 0 rfl) ?_
  refine va_callv (va_runV (As := []) (rest := []) ⟨hx, hb, hml, hown, hts⟩ (c_X8_good l dC dI s.heap.size a0 a0_0 a0g_1 a0g_2 a0g_3 a0g_4 a0g_5 a0g_6 a0g_7 a0g_8 a0g_9 a0g_10 a0g_12 a0g_13 (Value.int a0_14) (Value.ref a0_15) a0g_16 (Value.ref a0_17) (Value.ref a0_18) a0g_19 a0g_20 a0g_21 a0g_22 (Value.ref a0_23) (Value.ref a0_24) (Value.int a0_25) (Value.int a0_26) (Value.int a0_27) (Value.int a0_28) a0g_29 a0g_30 a0g_31 a0g_32 a0g_33 a0g_34 a0g_35 a0g_36 a0g_37 a0g_38 a0g_39 a0_11 ) (cwV 0 hts gX8_guard_X8_good rfl rfl rfl zd_X8_good ⟨Nat.le_of_ble_eq_true rfl, Nat.le_of_ble_eq_true rfl⟩) ⟨ax_blind (fun _ _ _ _ _ => trivial), zr_8 (zp_K hK) (zp_P1 hP) (q0 := 0) rfl, ax_pre (zp_P1 hP) (zp_K hK) (zp_D1 hD) (fun _ _ => trivial)⟩ rfl rfl hl.1 rfl (lv_room (Nat.le_of_ble_eq_true rfl)) dX8_guard_1 ⟨Nat.le_of_ble_eq_true rfl, Nat.le_of_ble_eq_true rfl⟩) hS (fun q _ h => zp_F1 hD hS hA q h) (zp_F1 hD hS hA) (fun u t H locs ht hvm hw => zx_2 (fun v1na0_0 v1na0_11 hB hz1 hk1 hS1 => zo1 hB ht hP hD hk1 (zp_F1 hD hS hA) hS1 (fun hP hK1 hD hS => ?_)))
  refine lv_aload_n hx hb dX8_guard_4 rfl (lv_at hl 0 rfl) ?_
  refine lv_aload_n hx hb dX8_guard_5 rfl (lv_at hl 0 rfl) ?_
  refine va_get (D := (dC, dI)) (ci := 8) (v := .int a0_14) (C := RX8) (T := TX8) (N := 40) hx hb hts zi_X8_guard_8 hown hK hP 0 rfl rfl 14 (by decide) (hts (.fieldLink RX8 173 "WaxTurnsModel" "hasGallery" "Z") (zm_X8_guard_r1 (List.mem_of_getElem? (i := 0) rfl))) (fun _ h9 => h9) rfl dX8_guard_6 ?_
  refine lv_iload_n hx hb dX8_guard_9 rfl (lv_at hl 1 rfl) ?_
  refine lv_iconst (v := 1) hx hb dX8_guard_10 zk_iconst_1 ?_
  refine lv_bipush (v := 60) hx hb dX8_guard_11 zk_bipush_60 ?_
  refine va_calli (va_runS (As := [.int a1, .int 1, .int 60]) (rest := [.int a0_14, .ref a0]) ⟨hx, hb, hml, hown, hts⟩ (c_X8_in l dC dI H.size a1 1 60 ) (va_cwS 3 hts gX8_guard_X8_in rfl rfl rfl zd_X8_in.2 ⟨Nat.le_of_ble_eq_true rfl, Nat.le_of_ble_eq_true rfl⟩) ⟨ax_blind (fun _ _ _ _ _ => trivial), ax_pre (zp_P0 hP) (zp_K hK) (zp_D0 hD) (fun _ _ => trivial)⟩ rfl rfl hl.1 rfl (lv_room (Nat.le_of_ble_eq_true rfl)) dX8_guard_13 ⟨Nat.le_of_ble_eq_true rfl, Nat.le_of_ble_eq_true rfl⟩) hS (fun q _ h => zp_F0 hD hS hA q h) (zp_F0 hD hS hA) (fun r13 u t H locs ht hvm hw hB hz1 hk1 hS1 => zo0 hB ht hP hD hk1 (zp_F0 hD hS hA) hS1 (fun hP hK1 hD hS => ?_))
  rcases hw with hw | hw
  · obtain ⟨hw, h13⟩ := hw
    subst hw
    have l13k0_a1 : (1 : Int) ≤ a1.toInt := Int.le_trans zq1 h13.1
    have u13k0_a1 : a1.toInt ≤ (60 : Int) := Int.le_trans h13.2 zq46
    refine va_calli (va_runV (As := [.int a0_14, .int 1]) (rest := []) ⟨hx, hb, hml, hown, hts⟩ (c_X8_whyB l dC dI H.size a0 a0_14 1 (Value.int v1na0_0) a0g_1 a0g_2 a0g_3 a0g_4 a0g_5 a0g_6 a0g_7 a0g_8 a0g_9 a0g_10 (Value.int v1na0_11) a0g_12 a0g_13 (Value.int a0_14) (Value.ref a0_15) a0g_16 (Value.ref a0_17) (Value.ref a0_18) a0g_19 a0g_20 a0g_21 a0g_22 (Value.ref a0_23) (Value.ref a0_24) (Value.int a0_25) (Value.int a0_26) (Value.int a0_27) (Value.int a0_28) a0g_29 a0g_30 a0g_31 a0g_32 a0g_33 a0g_34 a0g_35 a0g_36 a0g_37 a0g_38 a0g_39 (Int.le_trans zq4 ba0_14_l) ba0_14_u (Int.le_trans zq4 zq1) zq0) (cwV 2 hts gX8_guard_X8_why rfl rfl rfl zd_X8_why ⟨Nat.le_of_ble_eq_true rfl, Nat.le_of_ble_eq_true rfl⟩) ⟨ax_blind (fun _ _ _ _ _ => trivial), zr_8 (zp_K hK) (zp_P1 hP) (q0 := 0) rfl, ax_pre (zp_P1 hP) (zp_K hK) (zp_D1 hD) (fun _ _ => trivial)⟩ rfl rfl hl.1 rfl (lv_room (Nat.le_of_ble_eq_true rfl)) dX8_guard_16 ⟨Nat.le_of_ble_eq_true rfl, Nat.le_of_ble_eq_true rfl⟩) hS (fun q _ h => zp_F1 hD hS hA q h) (zp_F1 hD hS hA) (fun r16 u t H locs ht hvm hw hB hz1 hk1 hS1 => zo1 hB ht hP hD hk1 (zp_F1 hD hS hA) hS1 (fun hP hK1 hD hS => ?_))
    rcases hw with hw | hw | hw
    · obtain ⟨hw, h16_0, h16_1, h16_2, h16_3⟩ := hw
      subst hw
      have l16k0_a0_14 : (1 : Int) ≤ a0_14.toInt := ba0_14_l
      have u16k0_a0_14 : a0_14.toInt ≤ (1 : Int) := ba0_14_u
      exact absurd h16_3 (by decide)
    · obtain ⟨hw, h16_0, h16_1⟩ := hw
      subst hw
      have l16k1_a0_14 : (1 : Int) ≤ a0_14.toInt := ba0_14_l
      have u16k1_a0_14 : a0_14.toInt ≤ (0 : Int) := h16_1
      exact absurd (Int.le_trans l16k1_a0_14 u16k1_a0_14) (by decide)
    · obtain ⟨hw, h16_0, h16_1, h16_2, h16_3⟩ := hw
      subst hw
      have l16k2_a0_14 : (1 : Int) ≤ a0_14.toInt := ba0_14_l
      have u16k2_a0_14 : a0_14.toInt ≤ (1 : Int) := ba0_14_u
      refine lv_istore_n (lv' := [(2, .int 0), (0, .ref a0), (1, .int a1)]) hx hb dX8_guard_19 rfl hl (by decide) rfl (fun ls hl => ?_)
      refine lv_iload_n hx hb dX8_guard_20 rfl (lv_at hl 0 rfl) ?_
      refine lv_if_eq (tgt := 30) hx hb dX8_guard_21 (by decide) (fun _ => ?_) (fun c21 => absurd (by decide +kernel) c21)
      refine lv_bipush (v := (-2)) hx hb dX8_guard_30 zk_bipush_n2 ?_
      refine lv_istore_n (lv' := [(3, .int (-2)), (2, .int 0), (0, .ref a0), (1, .int a1)]) hx hb dX8_guard_32 rfl hl (by decide) rfl (fun ls hl => ?_)
      refine lv_iconst (v := 0) hx hb dX8_guard_33 zk_iconst_0 ?_
      refine lv_istore (lv' := [(4, .int 0), (3, .int (-2)), (2, .int 0), (0, .ref a0), (1, .int a1)]) hx hb dX8_guard_34 hl (by decide) rfl (fun ls hl => ?_)
      have J36 : ∀ (n : Nat) (j36l4 : Int32) (j36l3 : Int32) (j36a0_25 : Int32) (j36a0_26 : Int32) (j36a0_27 : Int32) (j36a0_28 : Int32) (j36a0_23_a : Nat → Int32) (j36a0_24_a : Nat → Int32) (j36a0_18_a : Nat → Int32) (H : Heap) (locs : List Loc) (ls : Array Slot), (730 : Int) - j36l4.toInt ≤ (n : Int) → (0 : Int) ≤ j36l4.toInt → j36l4.toInt ≤ (729 : Int) → (-2 : Int) ≤ j36l3.toInt → j36l3.toInt ≤ (729 : Int) → (∀ k, (0 : Int) ≤ (j36a0_23_a k).toInt ∧ (j36a0_23_a k).toInt ≤ 80) → (∀ k, (0 : Int) ≤ (j36a0_24_a k).toInt ∧ (j36a0_24_a k).toInt ≤ 80) → ((∀ k : Nat, 0 ≤ k → k ≤ 8 → (0 : Int) ≤ (j36a0_18_a k).toInt ∧ (j36a0_18_a k).toInt ≤ 8) ∧ (∀ k : Nat, 19 ≤ k → k ≤ 19 → (0 : Int) ≤ (j36a0_18_a k).toInt ∧ (j36a0_18_a k).toInt ≤ 8) ∧ (∀ k : Nat, 20 ≤ k → k ≤ 20 → (0 : Int) ≤ (j36a0_18_a k).toInt ∧ (j36a0_18_a k).toInt ≤ 19)) → va_P (dC, dI) vwCl [(a0, .inr (8, [Value.int v1na0_0, a0g_1, a0g_2, a0g_3, a0g_4, a0g_5, a0g_6, a0g_7, a0g_8, a0g_9, a0g_10, Value.int v1na0_11, a0g_12, a0g_13, Value.int a0_14, Value.ref a0_15, a0g_16, Value.ref a0_17, Value.ref a0_18, a0g_19, a0g_20, a0g_21, a0g_22, Value.ref a0_23, Value.ref a0_24, Value.int j36a0_25, Value.int j36a0_26, Value.int j36a0_27, Value.int j36a0_28, a0g_29, a0g_30, a0g_31, a0g_32, a0g_33, a0g_34, a0g_35, a0g_36, a0g_37, a0g_38, a0g_39])), (a0_15, .inl (ka0_15, 156, .inl (fa0_15))), (a0_23, .inl (ka0_23, 3, .inl (j36a0_23_a))), (a0_24, .inl (ka0_24, 3, .inl (j36a0_24_a))), (a0_17, .inl (ka0_17, 23, .inl (fa0_17))), (a0_18, .inl (ka0_18, 23, .inl (j36a0_18_a)))] H → va_D A [(a0, .inr (8, [Value.int v1na0_0, a0g_1, a0g_2, a0g_3, a0g_4, a0g_5, a0g_6, a0g_7, a0g_8, a0g_9, a0g_10, Value.int v1na0_11, a0g_12, a0g_13, Value.int a0_14, Value.ref a0_15, a0g_16, Value.ref a0_17, Value.ref a0_18, a0g_19, a0g_20, a0g_21, a0g_22, Value.ref a0_23, Value.ref a0_24, Value.int j36a0_25, Value.int j36a0_26, Value.int j36a0_27, Value.int j36a0_28, a0g_29, a0g_30, a0g_31, a0g_32, a0g_33, a0g_34, a0g_35, a0g_36, a0g_37, a0g_38, a0g_39])), (a0_15, .inl (ka0_15, 156, .inl (fa0_15))), (a0_23, .inl (ka0_23, 3, .inl (j36a0_23_a))), (a0_24, .inl (ka0_24, 3, .inl (j36a0_24_a))), (a0_17, .inl (ka0_17, 23, .inl (fa0_17))), (a0_18, .inl (ka0_18, 23, .inl (j36a0_18_a)))] → va_S A s.heap H locs → lv_has ls 6 [(0, .ref a0), (1, .int a1), (3, .int j36l3), (4, .int j36l4)] → K H locs (F0 m 36 ls []) := by
        intro n
        induction n with
        | zero =>
          intro j36l4 j36l3 j36a0_25 j36a0_26 j36a0_27 j36a0_28 j36a0_23_a j36a0_24_a j36a0_18_a H locs ls hm bj36l4_l bj36l4_u bj36l3_l bj36l3_u bj36a0_23_a bj36a0_24_a bj36a0_18_a hP hD hS hl
          first | exact zg_0 hm bj36l4_u (by decide) | (have h8 := ai_min j36l4; have h9 := ai_max j36l4; exact absurd hm (by omega))
        | succ n ih36 =>
          intro j36l4 j36l3 j36a0_25 j36a0_26 j36a0_27 j36a0_28 j36a0_23_a j36a0_24_a j36a0_18_a H locs ls hm bj36l4_l bj36l4_u bj36l3_l bj36l3_u bj36a0_23_a bj36a0_24_a bj36a0_18_a hP hD hS hl
          refine (hK0 _ _ _).mpr ?_
          have hm36 := hm
          refine lv_iload hx hb dX8_guard_36 (lv_at hl 3 rfl) ?_
          refine lv_iconst (v := 1) hx hb dX8_guard_38 zk_iconst_1 ?_
          refine lv_aload_n hx hb dX8_guard_39 rfl (lv_at hl 0 rfl) ?_
          refine va_get (D := (dC, dI)) (ci := 8) (v := .ref a0_15) (C := RX8) (T := TX8) (N := 40) hx hb hts zi_X8_guard_8 hown hK hP 0 rfl rfl 15 (by decide) (hts (.fieldLink RX8 20 "WaxTurnsModel" "\x72" "[I") (zm_X8_guard_r1 (List.mem_of_getElem? (i := 1) rfl))) (fun _ h9 => h9) rfl dX8_guard_40 ?_
          refine lv_iconst (v := 0) hx hb dX8_guard_43 zk_iconst_0 ?_
          refine va_iald hx hb hK hP 1 0 rfl rfl (by unfold vp_in; decide +kernel) dX8_guard_44 ?_
          refine lv_topi (fun x44 ex44 => ?_)
          have bx44 : (2 : Int) ≤ x44.toInt ∧ x44.toInt ≤ 9 := by rw [ex44]; exact ai_rd bfa0_15.1 zq5 zq6 (by decide) (by decide) (by decide)
          refine lv_ishl hx hb dX8_guard_45 ?_
          refine lv_topi (fun x45 ex45 => ?_)
          have bx45 : (1 : Int) ≤ x45.toInt ∧ x45.toInt ≤ 512 := sh_1 ex45 (Int.le_trans zq50 bx44.1) bx44.2
          refine lv_icmp_ge (tgt := 127) hx hb dX8_guard_46 (by decide) (fun c46 => ?_) (fun c46 => ?_)
          · have gc46 := ai_le c46
            have u46t_x45 : x45.toInt ≤ (512 : Int) := bx45.2
            have l46t_j36l4 : (1 : Int) ≤ j36l4.toInt := Int.le_trans bx45.1 gc46
            refine lv_aload_n hx hb dX8_guard_127 rfl (lv_at hl 0 rfl) ?_
            refine lv_iconst (v := 0) hx hb dX8_guard_128 zk_iconst_0 ?_
            refine va_put (D := (dC, dI)) (ci := 8) (v := .int 0) (ty := .int) (C := RX8) (T := TX8) (N := 40) hx hb hts zi_X8_guard_8 tyX8 tyX8_ok nmX8 hown hK hP hD hS 0 rfl rfl 25 (by decide) (hts (.fieldLink RX8 235 "WaxTurnsModel" "stood" "I") (zm_X8_guard_r1 (List.mem_of_getElem? (i := 2) rfl))) (fun _ h9 => h9) rfl (tyX8_ok 25 (by decide)) rfl rfl (Nat.le_of_ble_eq_true rfl) dX8_guard_129 (fun H locs hP hD hS => ?_)
            refine zs_0 (y := (a0, .inr (8, [Value.int v1na0_0, a0g_1, a0g_2, a0g_3, a0g_4, a0g_5, a0g_6, a0g_7, a0g_8, a0g_9, a0g_10, Value.int v1na0_11, a0g_12, a0g_13, Value.int a0_14, Value.ref a0_15, a0g_16, Value.ref a0_17, Value.ref a0_18, a0g_19, a0g_20, a0g_21, a0g_22, Value.ref a0_23, Value.ref a0_24, Value.int 0, Value.int j36a0_26, Value.int j36a0_27, Value.int j36a0_28, a0g_29, a0g_30, a0g_31, a0g_32, a0g_33, a0g_34, a0g_35, a0g_36, a0g_37, a0g_38, a0g_39]))) hP hD rfl (fun hP hD => ?_)
            refine lv_iload_n hx hb dX8_guard_132 rfl (lv_at hl 2 rfl) ?_
            exact W.iret (v := j36l3) hx hb hr (fun t ht hW => ⟨⟨j36l3, (), rfl, ⟨bj36l3_l, bj36l3_u⟩, v1na0_0, v1na0_11, 0, j36a0_26, j36a0_27, j36a0_28, j36a0_23_a, j36a0_24_a, j36a0_18_a, bj36a0_23_a, bj36a0_24_a, bj36a0_18_a, by rw [ht]; exact hP, va_K.moved hW.alike hK, hD⟩, hS.F ht⟩) hS.2.2 dX8_guard_133
          · have gc46 := ai_nle c46
            have u46f_j36l4 : j36l4.toInt ≤ (511 : Int) := ai_lthi gc46 bx45.2
            have l46f_x45 : (1 : Int) ≤ x45.toInt := bx45.1
            refine lv_iload_n hx hb dX8_guard_49 rfl (lv_at hl 2 rfl) ?_
            have J121 : ∀ (j121l3 : Int32) (j121a0_25 : Int32) (j121a0_26 : Int32) (j121a0_27 : Int32) (j121a0_28 : Int32) (j121a0_23_a : Nat → Int32) (j121a0_24_a : Nat → Int32) (j121a0_18_a : Nat → Int32) (H : Heap) (locs : List Loc) (ls : Array Slot), (-2 : Int) ≤ j121l3.toInt → j121l3.toInt ≤ (729 : Int) → (∀ k, (0 : Int) ≤ (j121a0_23_a k).toInt ∧ (j121a0_23_a k).toInt ≤ 80) → (∀ k, (0 : Int) ≤ (j121a0_24_a k).toInt ∧ (j121a0_24_a k).toInt ≤ 80) → ((∀ k : Nat, 0 ≤ k → k ≤ 8 → (0 : Int) ≤ (j121a0_18_a k).toInt ∧ (j121a0_18_a k).toInt ≤ 8) ∧ (∀ k : Nat, 19 ≤ k → k ≤ 19 → (0 : Int) ≤ (j121a0_18_a k).toInt ∧ (j121a0_18_a k).toInt ≤ 8) ∧ (∀ k : Nat, 20 ≤ k → k ≤ 20 → (0 : Int) ≤ (j121a0_18_a k).toInt ∧ (j121a0_18_a k).toInt ≤ 19)) → va_P (dC, dI) vwCl [(a0, .inr (8, [Value.int v1na0_0, a0g_1, a0g_2, a0g_3, a0g_4, a0g_5, a0g_6, a0g_7, a0g_8, a0g_9, a0g_10, Value.int v1na0_11, a0g_12, a0g_13, Value.int a0_14, Value.ref a0_15, a0g_16, Value.ref a0_17, Value.ref a0_18, a0g_19, a0g_20, a0g_21, a0g_22, Value.ref a0_23, Value.ref a0_24, Value.int j121a0_25, Value.int j121a0_26, Value.int j121a0_27, Value.int j121a0_28, a0g_29, a0g_30, a0g_31, a0g_32, a0g_33, a0g_34, a0g_35, a0g_36, a0g_37, a0g_38, a0g_39])), (a0_15, .inl (ka0_15, 156, .inl (fa0_15))), (a0_23, .inl (ka0_23, 3, .inl (j121a0_23_a))), (a0_24, .inl (ka0_24, 3, .inl (j121a0_24_a))), (a0_17, .inl (ka0_17, 23, .inl (fa0_17))), (a0_18, .inl (ka0_18, 23, .inl (j121a0_18_a)))] H → va_D A [(a0, .inr (8, [Value.int v1na0_0, a0g_1, a0g_2, a0g_3, a0g_4, a0g_5, a0g_6, a0g_7, a0g_8, a0g_9, a0g_10, Value.int v1na0_11, a0g_12, a0g_13, Value.int a0_14, Value.ref a0_15, a0g_16, Value.ref a0_17, Value.ref a0_18, a0g_19, a0g_20, a0g_21, a0g_22, Value.ref a0_23, Value.ref a0_24, Value.int j121a0_25, Value.int j121a0_26, Value.int j121a0_27, Value.int j121a0_28, a0g_29, a0g_30, a0g_31, a0g_32, a0g_33, a0g_34, a0g_35, a0g_36, a0g_37, a0g_38, a0g_39])), (a0_15, .inl (ka0_15, 156, .inl (fa0_15))), (a0_23, .inl (ka0_23, 3, .inl (j121a0_23_a))), (a0_24, .inl (ka0_24, 3, .inl (j121a0_24_a))), (a0_17, .inl (ka0_17, 23, .inl (fa0_17))), (a0_18, .inl (ka0_18, 23, .inl (j121a0_18_a)))] → va_S A s.heap H locs → lv_has ls 6 [(0, .ref a0), (1, .int a1), (3, .int j121l3), (4, .int j36l4)] → K H locs (F0 m 121 ls []) := by
              intro j121l3 j121a0_25 j121a0_26 j121a0_27 j121a0_28 j121a0_23_a j121a0_24_a j121a0_18_a H locs ls  bj121l3_l bj121l3_u bj121a0_23_a bj121a0_24_a bj121a0_18_a hP hD hS hl
              refine (hK0 _ _ _).mpr ?_
              obtain ⟨x121, ex121⟩ : ∃ y : Int32, y = j36l4 + Int32.ofInt 1 := ⟨_, rfl⟩
              have qx121 : x121.toInt = j36l4.toInt + 1 := ai_inc ex121 (by decide) (by decide) u46f_j36l4 (by decide)
              have bx121 : (1 : Int) ≤ x121.toInt ∧ x121.toInt ≤ 512 := ⟨by rw [qx121]; exact Int.add_le_add bj36l4_l (Int.le_refl _), by rw [qx121]; exact Int.add_le_add u46f_j36l4 (Int.le_refl _)⟩
              refine lv_iinc (v := x121) (lv' := [(4, .int x121), (0, .ref a0), (1, .int a1), (3, .int j121l3)]) hx hb dX8_guard_121 hl (k := 3) rfl ex121.symm (by decide) rfl (fun ls hl => ?_)
              refine lv_goto (tgt := 36) hx hb dX8_guard_124 (by decide) ?_
              exact (hK0 _ _ _).mp (ih36 x121 j121l3 j121a0_25 j121a0_26 j121a0_27 j121a0_28 j121a0_23_a j121a0_24_a j121a0_18_a _ _ _ (by first | exact zg_s hm36 qx121 | (have h0 := qx121; omega)) (Int.le_trans zq4 bx121.1) (Int.le_trans bx121.2 zq199) bj121l3_l bj121l3_u bj121a0_23_a bj121a0_24_a bj121a0_18_a hP hD hS (lv_sub hl [1, 2, 3, 0] rfl))
            have J68 : ∀ (H : Heap) (locs : List Loc) (ls : Array Slot), va_P (dC, dI) vwCl [(a0, .inr (8, [Value.int v1na0_0, a0g_1, a0g_2, a0g_3, a0g_4, a0g_5, a0g_6, a0g_7, a0g_8, a0g_9, a0g_10, Value.int v1na0_11, a0g_12, a0g_13, Value.int a0_14, Value.ref a0_15, a0g_16, Value.ref a0_17, Value.ref a0_18, a0g_19, a0g_20, a0g_21, a0g_22, Value.ref a0_23, Value.ref a0_24, Value.int j36a0_25, Value.int j36a0_26, Value.int j36a0_27, Value.int j36a0_28, a0g_29, a0g_30, a0g_31, a0g_32, a0g_33, a0g_34, a0g_35, a0g_36, a0g_37, a0g_38, a0g_39])), (a0_15, .inl (ka0_15, 156, .inl (fa0_15))), (a0_23, .inl (ka0_23, 3, .inl (j36a0_23_a))), (a0_24, .inl (ka0_24, 3, .inl (j36a0_24_a))), (a0_17, .inl (ka0_17, 23, .inl (fa0_17))), (a0_18, .inl (ka0_18, 23, .inl (j36a0_18_a)))] H → va_D A [(a0, .inr (8, [Value.int v1na0_0, a0g_1, a0g_2, a0g_3, a0g_4, a0g_5, a0g_6, a0g_7, a0g_8, a0g_9, a0g_10, Value.int v1na0_11, a0g_12, a0g_13, Value.int a0_14, Value.ref a0_15, a0g_16, Value.ref a0_17, Value.ref a0_18, a0g_19, a0g_20, a0g_21, a0g_22, Value.ref a0_23, Value.ref a0_24, Value.int j36a0_25, Value.int j36a0_26, Value.int j36a0_27, Value.int j36a0_28, a0g_29, a0g_30, a0g_31, a0g_32, a0g_33, a0g_34, a0g_35, a0g_36, a0g_37, a0g_38, a0g_39])), (a0_15, .inl (ka0_15, 156, .inl (fa0_15))), (a0_23, .inl (ka0_23, 3, .inl (j36a0_23_a))), (a0_24, .inl (ka0_24, 3, .inl (j36a0_24_a))), (a0_17, .inl (ka0_17, 23, .inl (fa0_17))), (a0_18, .inl (ka0_18, 23, .inl (j36a0_18_a)))] → va_S A s.heap H locs → lv_has ls 6 [(0, .ref a0), (1, .int a1), (3, .int j36l3), (4, .int j36l4)] → K H locs (F0 m 68 ls []) := by
              intro  H locs ls   hP hD hS hl
              refine (hK0 _ _ _).mpr ?_
              refine lv_aload_n hx hb dX8_guard_68 rfl (lv_at hl 0 rfl) ?_
              have hKc := hK.sub (tys' := [(ka0_15, .int), (ka0_23, .int), (ka0_24, .int), (ka0_17, .int), (ka0_18, .int)]) [0, 1, 2, 3, 4] rfl
              refine va_callv (va_runV (As := []) (rest := []) ⟨hx, hb, hml, hown, hts⟩ (c_X8_begin l dC dI H.size a0 (Value.int v1na0_0) a0g_1 a0g_2 a0g_3 a0g_4 a0g_5 a0g_6 a0g_7 a0g_8 a0g_9 a0g_10 (Value.int v1na0_11) a0g_12 a0g_13 (Value.int a0_14) a0g_16 a0g_19 a0g_20 a0g_21 a0g_22 (Value.int j36a0_26) (Value.int j36a0_27) (Value.int j36a0_28) a0g_29 a0g_30 a0g_31 a0g_32 a0g_33 a0g_34 a0g_35 a0g_36 a0g_37 a0g_38 a0g_39 a0_15 a0_17 a0_18 a0_23 a0_24 j36a0_25 ka0_15 fa0_15 ka0_23 j36a0_23_a ka0_24 j36a0_24_a ka0_17 fa0_17 ka0_18 j36a0_18_a bfa0_15 bj36a0_23_a bj36a0_24_a bfa0_17 bj36a0_18_a) (cwV 0 hts gX8_guard_X8_begin rfl rfl rfl zd_X8_begin ⟨Nat.le_of_ble_eq_true rfl, Nat.le_of_ble_eq_true rfl⟩) ⟨ax_blind (fun _ _ _ _ _ => trivial), zr_8 hKc (zp_P6 hP) (q0 := 0) rfl, ax_pre (zp_P6 hP) hKc (zp_D6 hD) (fun _ _ => trivial)⟩ rfl rfl hl.1 rfl (lv_room (Nat.le_of_ble_eq_true rfl)) dX8_guard_69 ⟨Nat.le_of_ble_eq_true rfl, Nat.le_of_ble_eq_true rfl⟩) hS (fun q _ h => zp_F6 hD hS hA q h) (zp_F6 hD hS hA) (fun u t H locs ht hvm hw => zx_4 (fun v69na0_25 v69nfa0_23 v69nfa0_24 v69nfa0_18 => zy_3 (fun bv69nfa0_23 bv69nfa0_24 bv69nfa0_18 hB hz1 hk1 hS1 => zo6 hB ht hP hD hk1 (zp_F6 hD hS hA) hS1 (fun hP hK1 hD hS => ?_))))
              refine lv_aload_n hx hb dX8_guard_72 rfl (lv_at hl 0 rfl) ?_
              refine lv_iload hx hb dX8_guard_73 (lv_at hl 3 rfl) ?_
              refine va_put (D := (dC, dI)) (ci := 8) (v := .int j36l4) (ty := .int) (C := RX8) (T := TX8) (N := 40) hx hb hts zi_X8_guard_8 tyX8 tyX8_ok nmX8 hown hK hP hD hS 0 rfl rfl 25 (by decide) (hts (.fieldLink RX8 235 "WaxTurnsModel" "stood" "I") (zm_X8_guard_r1 (List.mem_of_getElem? (i := 2) rfl))) (fun _ h9 => h9) rfl (tyX8_ok 25 (by decide)) rfl rfl (Nat.le_of_ble_eq_true rfl) dX8_guard_75 (fun H locs hP hD hS => ?_)
              refine zs_0 (y := (a0, .inr (8, [Value.int v1na0_0, a0g_1, a0g_2, a0g_3, a0g_4, a0g_5, a0g_6, a0g_7, a0g_8, a0g_9, a0g_10, Value.int v1na0_11, a0g_12, a0g_13, Value.int a0_14, Value.ref a0_15, a0g_16, Value.ref a0_17, Value.ref a0_18, a0g_19, a0g_20, a0g_21, a0g_22, Value.ref a0_23, Value.ref a0_24, Value.int j36l4, Value.int j36a0_26, Value.int j36a0_27, Value.int j36a0_28, a0g_29, a0g_30, a0g_31, a0g_32, a0g_33, a0g_34, a0g_35, a0g_36, a0g_37, a0g_38, a0g_39]))) hP hD rfl (fun hP hD => ?_)
              refine lv_iconst (v := 0) hx hb dX8_guard_78 zk_iconst_0 ?_
              refine lv_istore (lv' := [(5, .int 0), (0, .ref a0), (1, .int a1), (3, .int j36l3), (4, .int j36l4)]) hx hb dX8_guard_79 hl (by decide) rfl (fun ls hl => ?_)
              have J81 : ∀ (n : Nat) (j81l5 : Int32) (j81a0_26 : Int32) (j81a0_27 : Int32) (j81a0_28 : Int32) (j81a0_18_a : Nat → Int32) (H : Heap) (locs : List Loc) (ls : Array Slot), (61 : Int) - j81l5.toInt ≤ (n : Int) → (0 : Int) ≤ j81l5.toInt → j81l5.toInt ≤ (60 : Int) → ((∀ k : Nat, 0 ≤ k → k ≤ 8 → (0 : Int) ≤ (j81a0_18_a k).toInt ∧ (j81a0_18_a k).toInt ≤ 8) ∧ (∀ k : Nat, 19 ≤ k → k ≤ 19 → (0 : Int) ≤ (j81a0_18_a k).toInt ∧ (j81a0_18_a k).toInt ≤ 8) ∧ (∀ k : Nat, 20 ≤ k → k ≤ 20 → (0 : Int) ≤ (j81a0_18_a k).toInt ∧ (j81a0_18_a k).toInt ≤ 19)) → va_P (dC, dI) vwCl [(a0, .inr (8, [Value.int v1na0_0, a0g_1, a0g_2, a0g_3, a0g_4, a0g_5, a0g_6, a0g_7, a0g_8, a0g_9, a0g_10, Value.int v1na0_11, a0g_12, a0g_13, Value.int a0_14, Value.ref a0_15, a0g_16, Value.ref a0_17, Value.ref a0_18, a0g_19, a0g_20, a0g_21, a0g_22, Value.ref a0_23, Value.ref a0_24, Value.int j36l4, Value.int j81a0_26, Value.int j81a0_27, Value.int j81a0_28, a0g_29, a0g_30, a0g_31, a0g_32, a0g_33, a0g_34, a0g_35, a0g_36, a0g_37, a0g_38, a0g_39])), (a0_15, .inl (ka0_15, 156, .inl (fa0_15))), (a0_23, .inl (ka0_23, 3, .inl (v69nfa0_23))), (a0_24, .inl (ka0_24, 3, .inl (v69nfa0_24))), (a0_17, .inl (ka0_17, 23, .inl (fa0_17))), (a0_18, .inl (ka0_18, 23, .inl (j81a0_18_a)))] H → va_D A [(a0, .inr (8, [Value.int v1na0_0, a0g_1, a0g_2, a0g_3, a0g_4, a0g_5, a0g_6, a0g_7, a0g_8, a0g_9, a0g_10, Value.int v1na0_11, a0g_12, a0g_13, Value.int a0_14, Value.ref a0_15, a0g_16, Value.ref a0_17, Value.ref a0_18, a0g_19, a0g_20, a0g_21, a0g_22, Value.ref a0_23, Value.ref a0_24, Value.int j36l4, Value.int j81a0_26, Value.int j81a0_27, Value.int j81a0_28, a0g_29, a0g_30, a0g_31, a0g_32, a0g_33, a0g_34, a0g_35, a0g_36, a0g_37, a0g_38, a0g_39])), (a0_15, .inl (ka0_15, 156, .inl (fa0_15))), (a0_23, .inl (ka0_23, 3, .inl (v69nfa0_23))), (a0_24, .inl (ka0_24, 3, .inl (v69nfa0_24))), (a0_17, .inl (ka0_17, 23, .inl (fa0_17))), (a0_18, .inl (ka0_18, 23, .inl (j81a0_18_a)))] → va_S A s.heap H locs → lv_has ls 6 [(0, .ref a0), (1, .int a1), (3, .int j36l3), (4, .int j36l4), (5, .int j81l5)] → K H locs (F0 m 81 ls []) := by
                intro n
                induction n with
                | zero =>
                  intro j81l5 j81a0_26 j81a0_27 j81a0_28 j81a0_18_a H locs ls hm bj81l5_l bj81l5_u bj81a0_18_a hP hD hS hl
                  first | exact zg_0 hm bj81l5_u (by decide) | (have h8 := ai_min j81l5; have h9 := ai_max j81l5; exact absurd hm (by omega))
                | succ n ih81 =>
                  intro j81l5 j81a0_26 j81a0_27 j81a0_28 j81a0_18_a H locs ls hm bj81l5_l bj81l5_u bj81a0_18_a hP hD hS hl
                  refine (hK0 _ _ _).mpr ?_
                  have hm81 := hm
                  refine lv_iload hx hb dX8_guard_81 (lv_at hl 4 rfl) ?_
                  refine lv_iload_n hx hb dX8_guard_83 rfl (lv_at hl 1 rfl) ?_
                  refine lv_icmp_ge (tgt := 101) hx hb dX8_guard_84 (by decide) (fun c84 => ?_) (fun c84 => ?_)
                  · have gc84 := ai_le c84
                    have u84t_a1 : a1.toInt ≤ (60 : Int) := u13k0_a1
                    have l84t_j81l5 : (1 : Int) ≤ j81l5.toInt := Int.le_trans l13k0_a1 gc84
                    refine lv_aload_n hx hb dX8_guard_101 rfl (lv_at hl 0 rfl) ?_
                    refine va_get (D := (dC, dI)) (ci := 8) (v := .ref a0_18) (C := RX8) (T := TX8) (N := 40) hx hb hts zi_X8_guard_8 hown hK hP 0 rfl rfl 18 (by decide) (hts (.fieldLink RX8 29 "WaxTurnsModel" "trial" "[I") (zm_X8_guard_r1 (List.mem_of_getElem? (i := 3) rfl))) (fun _ h9 => h9) rfl dX8_guard_102 ?_
                    refine lv_bipush (v := 18) hx hb dX8_guard_105 zk_bipush_18 ?_
                    refine va_iald hx hb hK hP 5 4 rfl rfl (by unfold vp_in; decide +kernel) dX8_guard_107 ?_
                    refine lv_topi (fun x107 ex107 => ?_)
                    refine lv_aload_n hx hb dX8_guard_108 rfl (lv_at hl 0 rfl) ?_
                    refine va_get (D := (dC, dI)) (ci := 8) (v := .ref a0_17) (C := RX8) (T := TX8) (N := 40) hx hb hts zi_X8_guard_8 hown hK hP 0 rfl rfl 17 (by decide) (hts (.fieldLink RX8 26 "WaxTurnsModel" "st" "[I") (zm_X8_guard_r1 (List.mem_of_getElem? (i := 4) rfl))) (fun _ h9 => h9) rfl dX8_guard_109 ?_
                    refine lv_bipush (v := 18) hx hb dX8_guard_112 zk_bipush_18 ?_
                    refine va_iald hx hb hK hP 4 3 rfl rfl (by unfold vp_in; decide +kernel) dX8_guard_114 ?_
                    refine lv_topi (fun x114 ex114 => ?_)
                    refine lv_icmp_ne (tgt := 121) hx hb dX8_guard_115 (by decide) (fun c115 => ?_) (fun c115 => ?_)
                    · have gc115 := ai_ne c115
                      exact (hK0 _ _ _).mp (J121 j36l3 j36l4 j81a0_26 j81a0_27 j81a0_28 v69nfa0_23 v69nfa0_24 j81a0_18_a _ _ _  bj36l3_l bj36l3_u bv69nfa0_23 bv69nfa0_24 bj81a0_18_a hP hD hS (lv_sub hl [0, 1, 2, 3] rfl))
                    · have gc115 := ai_eq c115
                      refine lv_iload hx hb dX8_guard_118 (lv_at hl 3 rfl) ?_
                      refine lv_istore_n (lv' := [(3, .int j36l4), (0, .ref a0), (1, .int a1), (4, .int j36l4), (5, .int j81l5)]) hx hb dX8_guard_120 rfl hl (by decide) rfl (fun ls hl => ?_)
                      exact (hK0 _ _ _).mp (J121 j36l4 j36l4 j81a0_26 j81a0_27 j81a0_28 v69nfa0_23 v69nfa0_24 j81a0_18_a _ _ _  (Int.le_trans zq75 bj36l4_l) (Int.le_trans u46f_j36l4 zq200) bv69nfa0_23 bv69nfa0_24 bj81a0_18_a hP hD hS (lv_sub hl [1, 2, 0, 3] rfl))
                  · have gc84 := ai_nle c84
                    have u84f_j81l5 : j81l5.toInt ≤ (59 : Int) := ai_lthi gc84 u13k0_a1
                    have l84f_a1 : (1 : Int) ≤ a1.toInt := l13k0_a1
                    refine lv_aload_n hx hb dX8_guard_87 rfl (lv_at hl 0 rfl) ?_
                    refine lv_aload_n hx hb dX8_guard_88 rfl (lv_at hl 0 rfl) ?_
                    refine va_get (D := (dC, dI)) (ci := 8) (v := .ref a0_18) (C := RX8) (T := TX8) (N := 40) hx hb hts zi_X8_guard_8 hown hK hP 0 rfl rfl 18 (by decide) (hts (.fieldLink RX8 29 "WaxTurnsModel" "trial" "[I") (zm_X8_guard_r1 (List.mem_of_getElem? (i := 3) rfl))) (fun _ h9 => h9) rfl dX8_guard_89 ?_
                    refine zc_cutc (wc := [(a0, .inr (8, [Value.int v1na0_0, a0g_1, a0g_2, a0g_3, a0g_4, a0g_5, a0g_6, a0g_7, a0g_8, a0g_9, a0g_10, Value.int v1na0_11, a0g_12, a0g_13, Value.int a0_14, Value.ref a0_15, a0g_16, Value.ref a0_17, Value.ref a0_18, a0g_19, a0g_20, a0g_21, a0g_22, Value.ref a0_23, Value.ref a0_24, Value.int j36l4, Value.int j81a0_26, Value.int j81a0_27, Value.int j81a0_28, a0g_29, a0g_30, a0g_31, a0g_32, a0g_33, a0g_34, a0g_35, a0g_36, a0g_37, a0g_38, a0g_39])), (a0_18, .inl (ka0_18, 23, .inl (j81a0_18_a))), (a0_15, .inl (ka0_15, 156, .inl (fa0_15))), (a0_24, .inl (ka0_24, 3, .inl (v69nfa0_24))), (a0_23, .inl (ka0_23, 3, .inl (v69nfa0_23)))]) hP hD hS hA [0, 5, 1, 3, 2] (by decide +kernel) rfl (fun hPc hDc hFc hCc => ?_)
                    have hKc := hK.sub (tys' := [(ka0_18, .int), (ka0_15, .int), (ka0_24, .int), (ka0_23, .int)]) [4, 0, 2, 1] rfl
                    refine va_callv (va_runV (As := [.ref a0_18]) (rest := []) ⟨hx, hb, hml, hown, hts⟩ (c_X8_minuteOn l dC dI H.size a0 a0_18 (Value.int v1na0_0) a0g_1 a0g_2 a0g_3 a0g_4 a0g_5 a0g_6 a0g_7 a0g_8 a0g_9 a0g_10 (Value.int v1na0_11) a0g_12 a0g_13 (Value.int a0_14) a0g_16 (Value.ref a0_17) (Value.ref a0_18) a0g_19 a0g_20 a0g_21 a0g_22 a0g_29 a0g_30 a0g_31 a0g_32 a0g_33 a0g_34 a0g_35 a0g_36 a0g_37 a0g_38 a0g_39 a0_15 a0_23 a0_24 j36l4 j81a0_26 j81a0_27 j81a0_28 ka0_18 j81a0_18_a ka0_15 fa0_15 ka0_24 v69nfa0_24 ka0_23 v69nfa0_23 bj81a0_18_a bfa0_15 bv69nfa0_24 bv69nfa0_23 hkm) (cwV 1 hts gX8_guard_X8_minuteOn rfl rfl rfl zd_X8_minuteOn ⟨Nat.le_of_ble_eq_true rfl, Nat.le_of_ble_eq_true rfl⟩) ⟨ax_blind (fun _ _ _ _ _ => trivial), zr_8 hKc hPc (q0 := 0) rfl, ax_pre hPc hKc hDc (fun _ _ => trivial)⟩ rfl rfl hl.1 rfl (lv_room (Nat.le_of_ble_eq_true rfl)) dX8_guard_92 ⟨Nat.le_of_ble_eq_true rfl, Nat.le_of_ble_eq_true rfl⟩) hS (fun q _ h => hFc q h) hFc (fun u t H locs ht hvm hw => zx_4 (fun v92na0_26 v92na0_27 v92na0_28 v92nfa1 => zy_1 (fun bv92nfa1 hB hz1 hk1 hS1 => zo hB ht hS1 (fun hP1 hK1 hD1 hS => ?_))))
                    refine zc_backc (w := [(a0, .inr (8, [Value.int v1na0_0, a0g_1, a0g_2, a0g_3, a0g_4, a0g_5, a0g_6, a0g_7, a0g_8, a0g_9, a0g_10, Value.int v1na0_11, a0g_12, a0g_13, Value.int a0_14, Value.ref a0_15, a0g_16, Value.ref a0_17, Value.ref a0_18, a0g_19, a0g_20, a0g_21, a0g_22, Value.ref a0_23, Value.ref a0_24, Value.int j36l4, Value.int v92na0_26, Value.int v92na0_27, Value.int v92na0_28, a0g_29, a0g_30, a0g_31, a0g_32, a0g_33, a0g_34, a0g_35, a0g_36, a0g_37, a0g_38, a0g_39])), (a0_15, .inl (ka0_15, 156, .inl (fa0_15))), (a0_23, .inl (ka0_23, 3, .inl (v69nfa0_23))), (a0_24, .inl (ka0_24, 3, .inl (v69nfa0_24))), (a0_17, .inl (ka0_17, 23, .inl (fa0_17))), (a0_18, .inl (ka0_18, 23, .inl (v92nfa1)))]) hP hD hCc hk1 hFc hP1 hD1 [.inr 0, .inr 2, .inr 4, .inr 3, .inl 4, .inr 1] (by decide +kernel) rfl (fun hP hD => ?_)
                    obtain ⟨x95, ex95⟩ : ∃ y : Int32, y = j81l5 + Int32.ofInt 1 := ⟨_, rfl⟩
                    have qx95 : x95.toInt = j81l5.toInt + 1 := ai_inc ex95 (by decide) (by decide) u84f_j81l5 (by decide)
                    have bx95 : (1 : Int) ≤ x95.toInt ∧ x95.toInt ≤ 60 := ⟨by rw [qx95]; exact Int.add_le_add bj81l5_l (Int.le_refl _), by rw [qx95]; exact Int.add_le_add u84f_j81l5 (Int.le_refl _)⟩
                    refine lv_iinc (v := x95) (lv' := [(5, .int x95), (0, .ref a0), (1, .int a1), (3, .int j36l3), (4, .int j36l4)]) hx hb dX8_guard_95 hl (k := 4) rfl ex95.symm (by decide) rfl (fun ls hl => ?_)
                    refine lv_goto (tgt := 81) hx hb dX8_guard_98 (by decide) ?_
                    exact (hK0 _ _ _).mp (ih81 x95 v92na0_26 v92na0_27 v92na0_28 v92nfa1 _ _ _ (by first | exact zg_s hm81 qx95 | (have h0 := qx95; omega)) (Int.le_trans zq4 bx95.1) bx95.2 bv92nfa1 hP hD hS (lv_sub hl [1, 2, 3, 4, 0] rfl))
              exact (hK0 _ _ _).mp (J81 61 0 j36a0_26 j36a0_27 j36a0_28 v69nfa0_18 _ _ _ (by first | decide +kernel | (have h1 : (0 : Int) ≤ (0 : Int32).toInt := zq5; have h2 : (0 : Int32).toInt ≤ (0 : Int) := zq6; omega)) zq5 (Int.le_trans zq6 zq128) bv69nfa0_18 hP hD hS (lv_sub hl [1, 2, 3, 4, 0] rfl))
            refine lv_if_lt (tgt := 68) hx hb dX8_guard_50 (by decide) (fun c50 => ?_) (fun c50 => ?_)
            · have gc50 := ai_lt c50
              have u50t_j36l3 : j36l3.toInt ≤ (-1 : Int) := ai_lthi gc50 zq6
              exact (hK0 _ _ _).mp (J68  _ _ _   hP hD hS (lv_sub hl [0, 1, 2, 3] rfl))
            · have gc50 := ai_nlt c50
              have l50f_j36l3 : (0 : Int) ≤ j36l3.toInt := Int.le_trans zq5 gc50
              refine lv_iload hx hb dX8_guard_53 (lv_at hl 3 rfl) ?_
              refine va_calli (va_runS (As := [.int j36l4]) (rest := []) ⟨hx, hb, hml, hown, hts⟩ (c_X8_ones l dC dI H.size j36l4 ) (va_cwS 1 hts gX8_guard_X8_ones rfl rfl rfl zd_X8_ones.2 ⟨Nat.le_of_ble_eq_true rfl, Nat.le_of_ble_eq_true rfl⟩) ⟨ax_blind (fun _ _ _ _ _ => trivial), ax_pre (zp_P0 hP) (zp_K hK) (zp_D0 hD) (fun _ _ => trivial)⟩ rfl rfl hl.1 rfl (lv_room (Nat.le_of_ble_eq_true rfl)) dX8_guard_55 ⟨Nat.le_of_ble_eq_true rfl, Nat.le_of_ble_eq_true rfl⟩) hS (fun q _ h => zp_F0 hD hS hA q h) (zp_F0 hD hS hA) (fun r55 u t H locs ht hvm hw hB hz1 hk1 hS1 => zo0 hB ht hP hD hk1 (zp_F0 hD hS hA) hS1 (fun hP hK1 hD hS => ?_))
              refine lv_iload_n hx hb dX8_guard_58 rfl (lv_at hl 2 rfl) ?_
              refine va_calli (va_runS (As := [.int j36l3]) (rest := [.int r55]) ⟨hx, hb, hml, hown, hts⟩ (c_X8_ones l dC dI H.size j36l3 ) (va_cwS 1 hts gX8_guard_X8_ones rfl rfl rfl zd_X8_ones.2 ⟨Nat.le_of_ble_eq_true rfl, Nat.le_of_ble_eq_true rfl⟩) ⟨ax_blind (fun _ _ _ _ _ => trivial), ax_pre (zp_P0 hP) (zp_K hK) (zp_D0 hD) (fun _ _ => trivial)⟩ rfl rfl hl.1 rfl (lv_room (Nat.le_of_ble_eq_true rfl)) dX8_guard_59 ⟨Nat.le_of_ble_eq_true rfl, Nat.le_of_ble_eq_true rfl⟩) hS (fun q _ h => zp_F0 hD hS hA q h) (zp_F0 hD hS hA) (fun r59 u t H locs ht hvm hw hB hz1 hk1 hS1 => zo0 hB ht hP hD hk1 (zp_F0 hD hS hA) hS1 (fun hP hK1 hD hS => ?_))
              refine lv_icmp_lt (tgt := 68) hx hb dX8_guard_62 (by decide) (fun c62 => ?_) (fun c62 => ?_)
              · have gc62 := ai_lt c62
                have u62t_r55 : r55.toInt ≤ (2147483646 : Int) := ai_lthi gc62 (ai_max r59)
                have l62t_r59 : (-2147483647 : Int) ≤ r59.toInt := ai_ltlo gc62 (ai_min r55)
                exact (hK0 _ _ _).mp (J68  _ _ _   hP hD hS (lv_sub hl [0, 1, 2, 3] rfl))
              · have gc62 := ai_nlt c62
                refine lv_goto (tgt := 121) hx hb dX8_guard_65 (by decide) ?_
                exact (hK0 _ _ _).mp (J121 j36l3 j36a0_25 j36a0_26 j36a0_27 j36a0_28 j36a0_23_a j36a0_24_a j36a0_18_a _ _ _  (Int.le_trans zq75 l50f_j36l3) bj36l3_u bj36a0_23_a bj36a0_24_a bj36a0_18_a hP hD hS (lv_sub hl [0, 1, 2, 3] rfl))
      exact (hK0 _ _ _).mp (J36 730 0 (-2) a0_25 a0_26 a0_27 a0_28 fa0_23 fa0_24 fa0_18 _ _ _ (by first | decide +kernel | (have h1 : (0 : Int) ≤ (0 : Int32).toInt := zq5; have h2 : (0 : Int32).toInt ≤ (0 : Int) := zq6; omega)) zq5 (Int.le_trans zq6 zq35) zq45 (Int.le_trans zq44 zq201) bfa0_23 bfa0_24 bfa0_18 hP hD hS (lv_sub hl [3, 4, 1, 0] rfl))
  · obtain ⟨hw, h13⟩ := hw
    subst hw
    refine va_calli (va_runV (As := [.int a0_14, .int 0]) (rest := []) ⟨hx, hb, hml, hown, hts⟩ (c_X8_whyB l dC dI H.size a0 a0_14 0 (Value.int v1na0_0) a0g_1 a0g_2 a0g_3 a0g_4 a0g_5 a0g_6 a0g_7 a0g_8 a0g_9 a0g_10 (Value.int v1na0_11) a0g_12 a0g_13 (Value.int a0_14) (Value.ref a0_15) a0g_16 (Value.ref a0_17) (Value.ref a0_18) a0g_19 a0g_20 a0g_21 a0g_22 (Value.ref a0_23) (Value.ref a0_24) (Value.int a0_25) (Value.int a0_26) (Value.int a0_27) (Value.int a0_28) a0g_29 a0g_30 a0g_31 a0g_32 a0g_33 a0g_34 a0g_35 a0g_36 a0g_37 a0g_38 a0g_39 (Int.le_trans zq4 ba0_14_l) ba0_14_u zq5 (Int.le_trans zq6 zq4)) (cwV 2 hts gX8_guard_X8_why rfl rfl rfl zd_X8_why ⟨Nat.le_of_ble_eq_true rfl, Nat.le_of_ble_eq_true rfl⟩) ⟨ax_blind (fun _ _ _ _ _ => trivial), zr_8 (zp_K hK) (zp_P1 hP) (q0 := 0) rfl, ax_pre (zp_P1 hP) (zp_K hK) (zp_D1 hD) (fun _ _ => trivial)⟩ rfl rfl hl.1 rfl (lv_room (Nat.le_of_ble_eq_true rfl)) dX8_guard_16 ⟨Nat.le_of_ble_eq_true rfl, Nat.le_of_ble_eq_true rfl⟩) hS (fun q _ h => zp_F1 hD hS hA q h) (zp_F1 hD hS hA) (fun r16 u t H locs ht hvm hw hB hz1 hk1 hS1 => zo1 hB ht hP hD hk1 (zp_F1 hD hS hA) hS1 (fun hP hK1 hD hS => ?_))
    rcases hw with hw | hw | hw
    · obtain ⟨hw, h16_0, h16_1, h16_2, h16_3⟩ := hw
      subst hw
      have l16k0_a0_14 : (1 : Int) ≤ a0_14.toInt := ba0_14_l
      have u16k0_a0_14 : a0_14.toInt ≤ (1 : Int) := ba0_14_u
      refine lv_istore_n (lv' := [(2, .int 2), (0, .ref a0), (1, .int a1)]) hx hb dX8_guard_19 rfl hl (by decide) rfl (fun ls hl => ?_)
      refine lv_iload_n hx hb dX8_guard_20 rfl (lv_at hl 0 rfl) ?_
      refine lv_if_eq (tgt := 30) hx hb dX8_guard_21 (by decide) (fun c21 => absurd c21 (by decide +kernel)) (fun _ => ?_)
      refine lv_aload_n hx hb dX8_guard_24 rfl (lv_at hl 1 rfl) ?_
      refine lv_iload_n hx hb dX8_guard_25 rfl (lv_at hl 0 rfl) ?_
      refine va_calli (va_runV (As := [.int 2]) (rest := []) ⟨hx, hb, hml, hown, hts⟩ (c_X8_no l dC dI H.size a0 2 (Value.int v1na0_0) a0g_1 a0g_2 a0g_3 a0g_4 a0g_5 a0g_6 a0g_7 a0g_8 a0g_9 a0g_10 a0g_12 a0g_13 (Value.int a0_14) (Value.ref a0_15) a0g_16 (Value.ref a0_17) (Value.ref a0_18) a0g_19 a0g_20 a0g_21 a0g_22 (Value.ref a0_23) (Value.ref a0_24) (Value.int a0_25) (Value.int a0_26) (Value.int a0_27) (Value.int a0_28) a0g_29 a0g_30 a0g_31 a0g_32 a0g_33 a0g_34 a0g_35 a0g_36 a0g_37 a0g_38 a0g_39 v1na0_11 ) (cwV 1 hts gX8_guard_X8_no rfl rfl rfl zd_X8_no ⟨Nat.le_of_ble_eq_true rfl, Nat.le_of_ble_eq_true rfl⟩) ⟨ax_blind (fun _ _ _ _ _ => trivial), zr_8 (zp_K hK) (zp_P1 hP) (q0 := 0) rfl, ax_pre (zp_P1 hP) (zp_K hK) (zp_D1 hD) (fun _ _ => trivial)⟩ rfl rfl hl.1 rfl (lv_room (Nat.le_of_ble_eq_true rfl)) dX8_guard_26 ⟨Nat.le_of_ble_eq_true rfl, Nat.le_of_ble_eq_true rfl⟩) hS (fun q _ h => zp_F1 hD hS hA q h) (zp_F1 hD hS hA) (fun r26 u t H locs ht hvm hw => zx_1 (fun v26na0_11 hB hz1 hk1 hS1 => zo1 hB ht hP hD hk1 (zp_F1 hD hS hA) hS1 (fun hP hK1 hD hS => ?_)))
      have hw : r26 = (-1) := hw
      have hw := hw.symm
      subst hw
      exact W.iret (v := (-1)) hx hb hr (fun t ht hW => ⟨⟨(-1), (), rfl, ⟨(Int.le_trans zq76 zq70), (Int.le_trans zq71 zq95)⟩, v1na0_0, v26na0_11, a0_25, a0_26, a0_27, a0_28, fa0_23, fa0_24, fa0_18, bfa0_23, bfa0_24, bfa0_18, by rw [ht]; exact hP, va_K.moved hW.alike hK, hD⟩, hS.F ht⟩) hS.2.2 dX8_guard_29
    · obtain ⟨hw, h16_0, h16_1⟩ := hw
      subst hw
      have l16k1_a0_14 : (1 : Int) ≤ a0_14.toInt := ba0_14_l
      have u16k1_a0_14 : a0_14.toInt ≤ (0 : Int) := h16_1
      exact absurd (Int.le_trans l16k1_a0_14 u16k1_a0_14) (by decide)
    · obtain ⟨hw, h16_0, h16_1, h16_2, h16_3⟩ := hw
      subst hw
      have l16k2_a0_14 : (1 : Int) ≤ a0_14.toInt := ba0_14_l
      have u16k2_a0_14 : a0_14.toInt ≤ (1 : Int) := ba0_14_u
      exact absurd h16_2 (by decide)
end P260_01_safe
section P260_02_safe
set_option maxHeartbeats 4000000 in
set_option maxRecDepth 100000 in
theorem c_X8_routeAt (l : Launch) (dC : Nat → ClassId) (dI : Nat → Nat → Nat) (sz : Nat) (a0 : Nat) (a1 : Int32) (a2 : Int32) (a3 : Int32) (a0_0 : Int32) (a0g_1 a0g_2 a0g_3 a0g_4 a0g_5 a0g_6 a0g_7 a0g_8 a0g_9 a0g_10 a0g_12 a0g_13 a0g_16 a0g_19 a0g_20 a0g_21 a0g_22 a0g_29 a0g_30 a0g_31 a0g_34 a0g_35 a0g_36 a0g_37 a0g_38 a0g_39 : Value) (a0_11 : Int32) (a0_14 : Int32) (a0_15 : Nat) (a0_17 : Nat) (a0_18 : Nat) (a0_23 : Nat) (a0_24 : Nat) (a0_25 : Int32) (a0_26 : Int32) (a0_27 : Int32) (a0_28 : Int32) (a0_32 : Nat) (a0_33 : Nat) (ka0_15 : ClassId) (fa0_15 : Nat → Int32) (ka0_23 : ClassId) (fa0_23 : Nat → Int32) (ka0_24 : ClassId) (fa0_24 : Nat → Int32) (ka0_17 : ClassId) (fa0_17 : Nat → Int32) (ka0_18 : ClassId) (fa0_18 : Nat → Int32) (ka0_32 : ClassId) (fa0_32 : Nat → Int32) (ka0_33 : ClassId) (fa0_33 : Nat → Int32) (ba0_14_l : (1 : Int) ≤ a0_14.toInt) (ba0_14_u : a0_14.toInt ≤ (1 : Int)) (bfa0_15 : ((∀ k : Nat, 0 ≤ k → k ≤ 0 → (2 : Int) ≤ (fa0_15 k).toInt ∧ (fa0_15 k).toInt ≤ 9) ∧ (∀ k : Nat, 1 ≤ k → k ≤ 1 → (1 : Int) ≤ (fa0_15 k).toInt ∧ (fa0_15 k).toInt ≤ 20) ∧ (∀ k : Nat, 2 ≤ k → k ≤ 2 → (0 : Int) ≤ (fa0_15 k).toInt ∧ (fa0_15 k).toInt ≤ 8) ∧ (∀ k : Nat, 3 ≤ k → k ≤ 3 → (0 : Int) ≤ (fa0_15 k).toInt ∧ (fa0_15 k).toInt ≤ 100) ∧ (∀ k : Nat, 4 ≤ k → k ≤ 4 → (0 : Int) ≤ (fa0_15 k).toInt ∧ (fa0_15 k).toInt ≤ 9) ∧ (∀ k : Nat, 5 ≤ k → k ≤ 5 → (0 : Int) ≤ (fa0_15 k).toInt ∧ (fa0_15 k).toInt ≤ 3) ∧ (∀ k : Nat, 6 ≤ k → k ≤ 6 → (0 : Int) ≤ (fa0_15 k).toInt ∧ (fa0_15 k).toInt ≤ 6) ∧ (∀ k : Nat, 7 ≤ k → k ≤ 9 → (0 : Int) ≤ (fa0_15 k).toInt ∧ (fa0_15 k).toInt ≤ 8) ∧ (∀ k : Nat, 12 ≤ k → k ≤ 29 → (0 : Int) ≤ (fa0_15 k).toInt ∧ (fa0_15 k).toInt ≤ 20) ∧ (∀ k : Nat, 30 ≤ k → k ≤ 35 → (0 : Int) ≤ (fa0_15 k).toInt ∧ (fa0_15 k).toInt ≤ 8) ∧ (∀ k : Nat, 36 ≤ k → k ≤ 47 → (0 : Int) ≤ (fa0_15 k).toInt ∧ (fa0_15 k).toInt ≤ 999))) (bfa0_23 : (∀ k, (0 : Int) ≤ (fa0_23 k).toInt ∧ (fa0_23 k).toInt ≤ 80)) (bfa0_24 : (∀ k, (0 : Int) ≤ (fa0_24 k).toInt ∧ (fa0_24 k).toInt ≤ 80)) (bfa0_17 : ((∀ k : Nat, 0 ≤ k → k ≤ 8 → (0 : Int) ≤ (fa0_17 k).toInt ∧ (fa0_17 k).toInt ≤ 8) ∧ (∀ k : Nat, 19 ≤ k → k ≤ 19 → (0 : Int) ≤ (fa0_17 k).toInt ∧ (fa0_17 k).toInt ≤ 8) ∧ (∀ k : Nat, 20 ≤ k → k ≤ 20 → (0 : Int) ≤ (fa0_17 k).toInt ∧ (fa0_17 k).toInt ≤ 19))) (bfa0_18 : ((∀ k : Nat, 0 ≤ k → k ≤ 8 → (0 : Int) ≤ (fa0_18 k).toInt ∧ (fa0_18 k).toInt ≤ 8) ∧ (∀ k : Nat, 19 ≤ k → k ≤ 19 → (0 : Int) ≤ (fa0_18 k).toInt ∧ (fa0_18 k).toInt ≤ 8) ∧ (∀ k : Nat, 20 ≤ k → k ≤ 20 → (0 : Int) ≤ (fa0_18 k).toInt ∧ (fa0_18 k).toInt ≤ 19))) (hkm : ∀ (j i0 i : Int32), (0 : Int) ≤ j.toInt → j.toInt ≤ 8 → i0.toInt = 12 + 2 * j.toInt → i.toInt = 13 + 2 * j.toInt → (fa0_15 i0.toNatClampNeg).toInt = (1 : Int32).toInt → (1 : Int) ≤ (fa0_15 i.toNatClampNeg).toInt) : zm l yX8_routeAt wsX8_routeAt ({ frames := 5, cells := 0, slots := 0, locals := 118 }) [.ref a0, .int a1, .int a2, .int a3] dC dI sz [(a0, .inr (8, [Value.int a0_0, a0g_1, a0g_2, a0g_3, a0g_4, a0g_5, a0g_6, a0g_7, a0g_8, a0g_9, a0g_10, Value.int a0_11, a0g_12, a0g_13, Value.int a0_14, Value.ref a0_15, a0g_16, Value.ref a0_17, Value.ref a0_18, a0g_19, a0g_20, a0g_21, a0g_22, Value.ref a0_23, Value.ref a0_24, Value.int a0_25, Value.int a0_26, Value.int a0_27, Value.int a0_28, a0g_29, a0g_30, a0g_31, Value.ref a0_32, Value.ref a0_33, a0g_34, a0g_35, a0g_36, a0g_37, a0g_38, a0g_39])), (a0_15, .inl (ka0_15, 156, .inl (fa0_15))), (a0_23, .inl (ka0_23, 3, .inl (fa0_23))), (a0_24, .inl (ka0_24, 3, .inl (fa0_24))), (a0_17, .inl (ka0_17, 23, .inl (fa0_17))), (a0_18, .inl (ka0_18, 23, .inl (fa0_18))), (a0_32, .inl (ka0_32, 61, .inl (fa0_32))), (a0_33, .inl (ka0_33, 620, .inl (fa0_33)))] [(ka0_15, .int), (ka0_23, .int), (ka0_24, .int), (ka0_17, .int), (ka0_18, .int), (ka0_32, .int), (ka0_33, .int)] (fun A _ => True) (fun A => va_Qi (fun (r : Int32) (_ : Unit) => (-1 : Int) ≤ r.toInt ∧ r.toInt ≤ (8 : Int)) (fun (_ : Unit) (t : State) => ∃ na0_0 : Int32, ∃ na0_11 : Int32, ∃ na0_25 : Int32, ∃ na0_26 : Int32, ∃ na0_27 : Int32, ∃ na0_28 : Int32, ∃ nfa0_23 : Nat → Int32, ∃ nfa0_24 : Nat → Int32, ∃ nfa0_18 : Nat → Int32, ∃ nfa0_32 : Nat → Int32, ∃ nfa0_33 : Nat → Int32, (∀ k, (0 : Int) ≤ (nfa0_23 k).toInt ∧ (nfa0_23 k).toInt ≤ 80) ∧ (∀ k, (0 : Int) ≤ (nfa0_24 k).toInt ∧ (nfa0_24 k).toInt ≤ 80) ∧ ((∀ k : Nat, 0 ≤ k → k ≤ 8 → (0 : Int) ≤ (nfa0_18 k).toInt ∧ (nfa0_18 k).toInt ≤ 8) ∧ (∀ k : Nat, 19 ≤ k → k ≤ 19 → (0 : Int) ≤ (nfa0_18 k).toInt ∧ (nfa0_18 k).toInt ≤ 8) ∧ (∀ k : Nat, 20 ≤ k → k ≤ 20 → (0 : Int) ≤ (nfa0_18 k).toInt ∧ (nfa0_18 k).toInt ≤ 19)) ∧ ax_B dC dI A [(a0, .inr (8, [Value.int na0_0, a0g_1, a0g_2, a0g_3, a0g_4, a0g_5, a0g_6, a0g_7, a0g_8, a0g_9, a0g_10, Value.int na0_11, a0g_12, a0g_13, Value.int a0_14, Value.ref a0_15, a0g_16, Value.ref a0_17, Value.ref a0_18, a0g_19, a0g_20, a0g_21, a0g_22, Value.ref a0_23, Value.ref a0_24, Value.int na0_25, Value.int na0_26, Value.int na0_27, Value.int na0_28, a0g_29, a0g_30, a0g_31, Value.ref a0_32, Value.ref a0_33, a0g_34, a0g_35, a0g_36, a0g_37, a0g_38, a0g_39])), (a0_15, .inl (ka0_15, 156, .inl (fa0_15))), (a0_23, .inl (ka0_23, 3, .inl (nfa0_23))), (a0_24, .inl (ka0_24, 3, .inl (nfa0_24))), (a0_17, .inl (ka0_17, 23, .inl (fa0_17))), (a0_18, .inl (ka0_18, 23, .inl (nfa0_18))), (a0_32, .inl (ka0_32, 61, .inl (nfa0_32))), (a0_33, .inl (ka0_33, 620, .inl (nfa0_33)))] [(ka0_15, .int), (ka0_23, .int), (ka0_24, .int), (ka0_17, .int), (ka0_18, .int), (ka0_32, .int), (ka0_33, .int)] t) A) := by
  refine zh (cc := cX8_routeAt) (maxL := 7) (ret := (some .int)) zn_RX8 rfl (Nat.le_of_ble_eq_true rfl) (fun p e s m below meth c A ls hx hb hml hr hts (hown : s.vm.findClass RX8 = some m.cls) hlocks hA hS hP hK hD hE (hl : lv_has ls 7 [(0, .ref a0), (1, .int a1), (2, .int a2), (3, .int a3)]) => ?_)
  refine ai_open (fun K hK0 => ?_)
  refine (hK0 _ _ _).mpr ?_
  refine lv_aload_n hx hb dX8_routeAt_0 rfl (lv_at hl 0 rfl) ?_
  refine va_callv (va_runV (As := []) (rest := []) ⟨hx, hb, hml, hown, hts⟩ (c_X8_good l dC dI s.heap.size a0 a0_0 a0g_1 a0g_2 a0g_3 a0g_4 a0g_5 a0g_6 a0g_7 a0g_8 a0g_9 a0g_10 a0g_12 a0g_13 (Value.int a0_14) (Value.ref a0_15) a0g_16 (Value.ref a0_17) (Value.ref a0_18) a0g_19 a0g_20 a0g_21 a0g_22 (Value.ref a0_23) (Value.ref a0_24) (Value.int a0_25) (Value.int a0_26) (Value.int a0_27) (Value.int a0_28) a0g_29 a0g_30 a0g_31 (Value.ref a0_32) (Value.ref a0_33) a0g_34 a0g_35 a0g_36 a0g_37 a0g_38 a0g_39 a0_11 ) (cwV 0 hts gX8_routeAt_X8_good rfl rfl rfl zd_X8_good ⟨Nat.le_of_ble_eq_true rfl, Nat.le_of_ble_eq_true rfl⟩) ⟨ax_blind (fun _ _ _ _ _ => trivial), zr_8 (zp_K hK) (zp_P1 hP) (q0 := 0) rfl, ax_pre (zp_P1 hP) (zp_K hK) (zp_D1 hD) (fun _ _ => trivial)⟩ rfl rfl hl.1 rfl (lv_room (Nat.le_of_ble_eq_true rfl)) dX8_routeAt_1 ⟨Nat.le_of_ble_eq_true rfl, Nat.le_of_ble_eq_true rfl⟩) hS (fun q _ h => zp_F1 hD hS hA q h) (zp_F1 hD hS hA) (fun u t H locs ht hvm hw => zx_2 (fun v1na0_0 v1na0_11 hB hz1 hk1 hS1 => zo1 hB ht hP hD hk1 (zp_F1 hD hS hA) hS1 (fun hP hK1 hD hS => ?_)))
  refine lv_aload_n hx hb dX8_routeAt_4 rfl (lv_at hl 0 rfl) ?_
  refine lv_iload_n hx hb dX8_routeAt_5 rfl (lv_at hl 1 rfl) ?_
  refine lv_iload_n hx hb dX8_routeAt_6 rfl (lv_at hl 2 rfl) ?_
  have hKc := hK.sub (tys' := [(ka0_15, .int)]) [0] rfl
  refine va_calli (va_runV (As := [.int a1, .int a2]) (rest := []) ⟨hx, hb, hml, hown, hts⟩ (c_X8_routeWhy l dC dI H.size a0 a1 a2 (Value.int v1na0_0) a0g_1 a0g_2 a0g_3 a0g_4 a0g_5 a0g_6 a0g_7 a0g_8 a0g_9 a0g_10 (Value.int v1na0_11) a0g_12 a0g_13 a0g_16 (Value.ref a0_17) (Value.ref a0_18) a0g_19 a0g_20 a0g_21 a0g_22 (Value.ref a0_23) (Value.ref a0_24) (Value.int a0_25) (Value.int a0_26) (Value.int a0_27) (Value.int a0_28) a0g_29 a0g_30 a0g_31 (Value.ref a0_32) (Value.ref a0_33) a0g_34 a0g_35 a0g_36 a0g_37 a0g_38 a0g_39 a0_14 a0_15 ka0_15 fa0_15 ba0_14_l ba0_14_u bfa0_15) (cwV 2 hts gX8_routeAt_X8_routeWhy rfl rfl rfl zd_X8_routeWhy ⟨Nat.le_of_ble_eq_true rfl, Nat.le_of_ble_eq_true rfl⟩) ⟨ax_blind (fun _ _ _ _ _ => trivial), zr_8 hKc (zp_P2 hP) (q0 := 0) rfl, ax_pre (zp_P2 hP) hKc (zp_D2 hD) (fun _ _ => trivial)⟩ rfl rfl hl.1 rfl (lv_room (Nat.le_of_ble_eq_true rfl)) dX8_routeAt_7 ⟨Nat.le_of_ble_eq_true rfl, Nat.le_of_ble_eq_true rfl⟩) hS (fun q _ h => zp_F2 hD hS hA q h) (zp_F2 hD hS hA) (fun r7 u t H locs ht hvm hw hB hz1 hk1 hS1 => zo2 hB ht hP hD hk1 (zp_F2 hD hS hA) hS1 (fun hP hK1 hD hS => ?_))
  rcases hw with hw | hw | hw
  · obtain ⟨hw, h7_0, h7_1⟩ := hw
    subst hw
    have l7k0_a1 : (0 : Int) ≤ a1.toInt := h7_0
    have u7k0_a1 : a1.toInt ≤ (8 : Int) := h7_1
    refine lv_istore (lv' := [(4, .int 2), (0, .ref a0), (1, .int a1), (2, .int a2), (3, .int a3)]) hx hb dX8_routeAt_10 hl (by decide) rfl (fun ls hl => ?_)
    refine lv_iload hx hb dX8_routeAt_12 (lv_at hl 0 rfl) ?_
    refine lv_if_ne (tgt := 29) hx hb dX8_routeAt_14 (by decide) (fun _ => ?_) (fun c14 => absurd c14 (by decide +kernel))
    refine lv_iload hx hb dX8_routeAt_29 (lv_at hl 0 rfl) ?_
    refine lv_if_eq (tgt := 41) hx hb dX8_routeAt_31 (by decide) (fun c31 => absurd c31 (by decide +kernel)) (fun _ => ?_)
    refine lv_aload_n hx hb dX8_routeAt_34 rfl (lv_at hl 1 rfl) ?_
    refine lv_iload hx hb dX8_routeAt_35 (lv_at hl 0 rfl) ?_
    refine va_calli (va_runV (As := [.int 2]) (rest := []) ⟨hx, hb, hml, hown, hts⟩ (c_X8_no l dC dI H.size a0 2 (Value.int v1na0_0) a0g_1 a0g_2 a0g_3 a0g_4 a0g_5 a0g_6 a0g_7 a0g_8 a0g_9 a0g_10 a0g_12 a0g_13 (Value.int a0_14) (Value.ref a0_15) a0g_16 (Value.ref a0_17) (Value.ref a0_18) a0g_19 a0g_20 a0g_21 a0g_22 (Value.ref a0_23) (Value.ref a0_24) (Value.int a0_25) (Value.int a0_26) (Value.int a0_27) (Value.int a0_28) a0g_29 a0g_30 a0g_31 (Value.ref a0_32) (Value.ref a0_33) a0g_34 a0g_35 a0g_36 a0g_37 a0g_38 a0g_39 v1na0_11 ) (cwV 1 hts gX8_routeAt_X8_no rfl rfl rfl zd_X8_no ⟨Nat.le_of_ble_eq_true rfl, Nat.le_of_ble_eq_true rfl⟩) ⟨ax_blind (fun _ _ _ _ _ => trivial), zr_8 (zp_K hK) (zp_P1 hP) (q0 := 0) rfl, ax_pre (zp_P1 hP) (zp_K hK) (zp_D1 hD) (fun _ _ => trivial)⟩ rfl rfl hl.1 rfl (lv_room (Nat.le_of_ble_eq_true rfl)) dX8_routeAt_37 ⟨Nat.le_of_ble_eq_true rfl, Nat.le_of_ble_eq_true rfl⟩) hS (fun q _ h => zp_F1 hD hS hA q h) (zp_F1 hD hS hA) (fun r37 u t H locs ht hvm hw => zx_1 (fun v37na0_11 hB hz1 hk1 hS1 => zo1 hB ht hP hD hk1 (zp_F1 hD hS hA) hS1 (fun hP hK1 hD hS => ?_)))
    have hw : r37 = (-1) := hw
    have hw := hw.symm
    subst hw
    exact W.iret (v := (-1)) hx hb hr (fun t ht hW => ⟨⟨(-1), (), rfl, ⟨zq70, (Int.le_trans zq71 zq72)⟩, v1na0_0, v37na0_11, a0_25, a0_26, a0_27, a0_28, fa0_23, fa0_24, fa0_18, fa0_32, fa0_33, bfa0_23, bfa0_24, bfa0_18, by rw [ht]; exact hP, va_K.moved hW.alike hK, hD⟩, hS.F ht⟩) hS.2.2 dX8_routeAt_40
  · subst hw
    refine lv_istore (lv' := [(4, .int 1), (0, .ref a0), (1, .int a1), (2, .int a2), (3, .int a3)]) hx hb dX8_routeAt_10 hl (by decide) rfl (fun ls hl => ?_)
    refine lv_iload hx hb dX8_routeAt_12 (lv_at hl 0 rfl) ?_
    refine lv_if_ne (tgt := 29) hx hb dX8_routeAt_14 (by decide) (fun _ => ?_) (fun c14 => absurd c14 (by decide +kernel))
    refine lv_iload hx hb dX8_routeAt_29 (lv_at hl 0 rfl) ?_
    refine lv_if_eq (tgt := 41) hx hb dX8_routeAt_31 (by decide) (fun c31 => absurd c31 (by decide +kernel)) (fun _ => ?_)
    refine lv_aload_n hx hb dX8_routeAt_34 rfl (lv_at hl 1 rfl) ?_
    refine lv_iload hx hb dX8_routeAt_35 (lv_at hl 0 rfl) ?_
    refine va_calli (va_runV (As := [.int 1]) (rest := []) ⟨hx, hb, hml, hown, hts⟩ (c_X8_no l dC dI H.size a0 1 (Value.int v1na0_0) a0g_1 a0g_2 a0g_3 a0g_4 a0g_5 a0g_6 a0g_7 a0g_8 a0g_9 a0g_10 a0g_12 a0g_13 (Value.int a0_14) (Value.ref a0_15) a0g_16 (Value.ref a0_17) (Value.ref a0_18) a0g_19 a0g_20 a0g_21 a0g_22 (Value.ref a0_23) (Value.ref a0_24) (Value.int a0_25) (Value.int a0_26) (Value.int a0_27) (Value.int a0_28) a0g_29 a0g_30 a0g_31 (Value.ref a0_32) (Value.ref a0_33) a0g_34 a0g_35 a0g_36 a0g_37 a0g_38 a0g_39 v1na0_11 ) (cwV 1 hts gX8_routeAt_X8_no rfl rfl rfl zd_X8_no ⟨Nat.le_of_ble_eq_true rfl, Nat.le_of_ble_eq_true rfl⟩) ⟨ax_blind (fun _ _ _ _ _ => trivial), zr_8 (zp_K hK) (zp_P1 hP) (q0 := 0) rfl, ax_pre (zp_P1 hP) (zp_K hK) (zp_D1 hD) (fun _ _ => trivial)⟩ rfl rfl hl.1 rfl (lv_room (Nat.le_of_ble_eq_true rfl)) dX8_routeAt_37 ⟨Nat.le_of_ble_eq_true rfl, Nat.le_of_ble_eq_true rfl⟩) hS (fun q _ h => zp_F1 hD hS hA q h) (zp_F1 hD hS hA) (fun r37 u t H locs ht hvm hw => zx_1 (fun v37na0_11 hB hz1 hk1 hS1 => zo1 hB ht hP hD hk1 (zp_F1 hD hS hA) hS1 (fun hP hK1 hD hS => ?_)))
    have hw : r37 = (-1) := hw
    have hw := hw.symm
    subst hw
    exact W.iret (v := (-1)) hx hb hr (fun t ht hW => ⟨⟨(-1), (), rfl, ⟨zq70, (Int.le_trans zq71 zq72)⟩, v1na0_0, v37na0_11, a0_25, a0_26, a0_27, a0_28, fa0_23, fa0_24, fa0_18, fa0_32, fa0_33, bfa0_23, bfa0_24, bfa0_18, by rw [ht]; exact hP, va_K.moved hW.alike hK, hD⟩, hS.F ht⟩) hS.2.2 dX8_routeAt_40
  · obtain ⟨hw, h7_0, h7_1, h7_2, h7_3⟩ := hw
    subst hw
    have l7k2_a1 : (0 : Int) ≤ a1.toInt := h7_0
    have u7k2_a1 : a1.toInt ≤ (8 : Int) := h7_1
    have l7k2_a2 : (1 : Int) ≤ a2.toInt := h7_2
    have u7k2_a2 : a2.toInt ≤ (60 : Int) := h7_3
    refine lv_istore (lv' := [(4, .int 0), (0, .ref a0), (1, .int a1), (2, .int a2), (3, .int a3)]) hx hb dX8_routeAt_10 hl (by decide) rfl (fun ls hl => ?_)
    refine lv_iload hx hb dX8_routeAt_12 (lv_at hl 0 rfl) ?_
    refine lv_if_ne (tgt := 29) hx hb dX8_routeAt_14 (by decide) (fun c14 => absurd (by decide +kernel) c14) (fun _ => ?_)
    refine lv_iload_n hx hb dX8_routeAt_17 rfl (lv_at hl 4 rfl) ?_
    refine lv_iconst (v := 1) hx hb dX8_routeAt_18 zk_iconst_1 ?_
    refine lv_iload_n hx hb dX8_routeAt_19 rfl (lv_at hl 3 rfl) ?_
    refine va_calli (va_runS (As := [.int a3, .int 1, .int a2]) (rest := []) ⟨hx, hb, hml, hown, hts⟩ (c_X8_in l dC dI H.size a3 1 a2 ) (va_cwS 3 hts gX8_routeAt_X8_in rfl rfl rfl zd_X8_in.2 ⟨Nat.le_of_ble_eq_true rfl, Nat.le_of_ble_eq_true rfl⟩) ⟨ax_blind (fun _ _ _ _ _ => trivial), ax_pre (zp_P0 hP) (zp_K hK) (zp_D0 hD) (fun _ _ => trivial)⟩ rfl rfl hl.1 rfl (lv_room (Nat.le_of_ble_eq_true rfl)) dX8_routeAt_20 ⟨Nat.le_of_ble_eq_true rfl, Nat.le_of_ble_eq_true rfl⟩) hS (fun q _ h => zp_F0 hD hS hA q h) (zp_F0 hD hS hA) (fun r20 u t H locs ht hvm hw hB hz1 hk1 hS1 => zo0 hB ht hP hD hk1 (zp_F0 hD hS hA) hS1 (fun hP hK1 hD hS => ?_))
    rcases hw with hw | hw
    · obtain ⟨hw, h20⟩ := hw
      subst hw
      have l20k0_a3 : (1 : Int) ≤ a3.toInt := Int.le_trans zq1 h20.1
      have u20k0_a3 : a3.toInt ≤ (60 : Int) := Int.le_trans h20.2 u7k2_a2
      have l20k0_a2 : (1 : Int) ≤ a2.toInt := l7k2_a2
      refine lv_if_ne (tgt := 29) hx hb dX8_routeAt_23 (by decide) (fun _ => ?_) (fun c23 => absurd c23 (by decide +kernel))
      refine lv_iload hx hb dX8_routeAt_29 (lv_at hl 0 rfl) ?_
      refine lv_if_eq (tgt := 41) hx hb dX8_routeAt_31 (by decide) (fun _ => ?_) (fun c31 => absurd (by decide +kernel) c31)
      refine lv_aload_n hx hb dX8_routeAt_41 rfl (lv_at hl 1 rfl) ?_
      refine lv_iload_n hx hb dX8_routeAt_42 rfl (lv_at hl 3 rfl) ?_
      have hKc := hK.sub (tys' := [(ka0_15, .int), (ka0_23, .int), (ka0_24, .int), (ka0_17, .int), (ka0_18, .int), (ka0_32, .int), (ka0_33, .int)]) [0, 1, 2, 3, 4, 5, 6] rfl
      refine va_callv (va_runV (As := [.int a2]) (rest := []) ⟨hx, hb, hml, hown, hts⟩ (c_X8_layRoute l dC dI H.size a0 a2 (Value.int v1na0_0) a0g_1 a0g_2 a0g_3 a0g_4 a0g_5 a0g_6 a0g_7 a0g_8 a0g_9 a0g_10 (Value.int v1na0_11) a0g_12 a0g_13 (Value.int a0_14) a0g_16 a0g_19 a0g_20 a0g_21 a0g_22 a0g_29 a0g_30 a0g_31 a0g_34 a0g_35 a0g_36 a0g_37 a0g_38 a0g_39 a0_15 a0_17 a0_18 a0_23 a0_24 a0_25 a0_26 a0_27 a0_28 a0_32 a0_33 ka0_15 fa0_15 ka0_23 fa0_23 ka0_24 fa0_24 ka0_17 fa0_17 ka0_18 fa0_18 ka0_32 fa0_32 ka0_33 fa0_33 l20k0_a2 u7k2_a2 bfa0_15 bfa0_23 bfa0_24 bfa0_17 bfa0_18 hkm) (cwV 1 hts gX8_routeAt_X8_layRoute rfl rfl rfl zd_X8_layRoute ⟨Nat.le_of_ble_eq_true rfl, Nat.le_of_ble_eq_true rfl⟩) ⟨ax_blind (fun _ _ _ _ _ => trivial), zr_8 hKc (zp_P8 hP) (q0 := 0) rfl, ax_pre (zp_P8 hP) hKc (zp_D8 hD) (fun _ _ => trivial)⟩ rfl rfl hl.1 rfl (lv_room (Nat.le_of_ble_eq_true rfl)) dX8_routeAt_43 ⟨Nat.le_of_ble_eq_true rfl, Nat.le_of_ble_eq_true rfl⟩) hS (fun q _ h => zp_F8 hD hS hA q h) (zp_F8 hD hS hA) (fun u t H locs ht hvm hw => zx_9 (fun v43na0_25 v43na0_26 v43na0_27 v43na0_28 v43nfa0_23 v43nfa0_24 v43nfa0_18 v43nfa0_32 v43nfa0_33 => zy_3 (fun bv43nfa0_23 bv43nfa0_24 bv43nfa0_18 hB hz1 hk1 hS1 => zo8 hB ht hP hD hk1 (zp_F8 hD hS hA) hS1 (fun hP hK1 hD hS => ?_))))
      refine lv_iload_n hx hb dX8_routeAt_46 rfl (lv_at hl 2 rfl) ?_
      refine lv_istore (lv' := [(5, .int a1), (4, .int 0), (0, .ref a0), (1, .int a1), (2, .int a2), (3, .int a3)]) hx hb dX8_routeAt_47 hl (by decide) rfl (fun ls hl => ?_)
      refine lv_iconst (v := 0) hx hb dX8_routeAt_49 zk_iconst_0 ?_
      refine lv_istore (lv' := [(6, .int 0), (5, .int a1), (4, .int 0), (0, .ref a0), (1, .int a1), (2, .int a2), (3, .int a3)]) hx hb dX8_routeAt_50 hl (by decide) rfl (fun ls hl => ?_)
      have J52 : ∀ (n : Nat) (j52l6 : Int32) (j52l5 : Int32) (H : Heap) (locs : List Loc) (ls : Array Slot), (61 : Int) - j52l6.toInt ≤ (n : Int) → (0 : Int) ≤ j52l6.toInt → j52l6.toInt ≤ (60 : Int) → (0 : Int) ≤ j52l5.toInt → j52l5.toInt ≤ (8 : Int) → va_P (dC, dI) vwCl [(a0, .inr (8, [Value.int v1na0_0, a0g_1, a0g_2, a0g_3, a0g_4, a0g_5, a0g_6, a0g_7, a0g_8, a0g_9, a0g_10, Value.int v1na0_11, a0g_12, a0g_13, Value.int a0_14, Value.ref a0_15, a0g_16, Value.ref a0_17, Value.ref a0_18, a0g_19, a0g_20, a0g_21, a0g_22, Value.ref a0_23, Value.ref a0_24, Value.int v43na0_25, Value.int v43na0_26, Value.int v43na0_27, Value.int v43na0_28, a0g_29, a0g_30, a0g_31, Value.ref a0_32, Value.ref a0_33, a0g_34, a0g_35, a0g_36, a0g_37, a0g_38, a0g_39])), (a0_15, .inl (ka0_15, 156, .inl (fa0_15))), (a0_23, .inl (ka0_23, 3, .inl (v43nfa0_23))), (a0_24, .inl (ka0_24, 3, .inl (v43nfa0_24))), (a0_17, .inl (ka0_17, 23, .inl (fa0_17))), (a0_18, .inl (ka0_18, 23, .inl (v43nfa0_18))), (a0_32, .inl (ka0_32, 61, .inl (v43nfa0_32))), (a0_33, .inl (ka0_33, 620, .inl (v43nfa0_33)))] H → va_D A [(a0, .inr (8, [Value.int v1na0_0, a0g_1, a0g_2, a0g_3, a0g_4, a0g_5, a0g_6, a0g_7, a0g_8, a0g_9, a0g_10, Value.int v1na0_11, a0g_12, a0g_13, Value.int a0_14, Value.ref a0_15, a0g_16, Value.ref a0_17, Value.ref a0_18, a0g_19, a0g_20, a0g_21, a0g_22, Value.ref a0_23, Value.ref a0_24, Value.int v43na0_25, Value.int v43na0_26, Value.int v43na0_27, Value.int v43na0_28, a0g_29, a0g_30, a0g_31, Value.ref a0_32, Value.ref a0_33, a0g_34, a0g_35, a0g_36, a0g_37, a0g_38, a0g_39])), (a0_15, .inl (ka0_15, 156, .inl (fa0_15))), (a0_23, .inl (ka0_23, 3, .inl (v43nfa0_23))), (a0_24, .inl (ka0_24, 3, .inl (v43nfa0_24))), (a0_17, .inl (ka0_17, 23, .inl (fa0_17))), (a0_18, .inl (ka0_18, 23, .inl (v43nfa0_18))), (a0_32, .inl (ka0_32, 61, .inl (v43nfa0_32))), (a0_33, .inl (ka0_33, 620, .inl (v43nfa0_33)))] → va_S A s.heap H locs → lv_has ls 7 [(0, .ref a0), (3, .int a3), (5, .int j52l5), (6, .int j52l6)] → K H locs (F0 m 52 ls []) := by
        intro n
        induction n with
        | zero =>
          intro j52l6 j52l5 H locs ls hm bj52l6_l bj52l6_u bj52l5_l bj52l5_u hP hD hS hl
          first | exact zg_0 hm bj52l6_u (by decide) | (have h8 := ai_min j52l6; have h9 := ai_max j52l6; exact absurd hm (by omega))
        | succ n ih52 =>
          intro j52l6 j52l5 H locs ls hm bj52l6_l bj52l6_u bj52l5_l bj52l5_u hP hD hS hl
          refine (hK0 _ _ _).mpr ?_
          have hm52 := hm
          refine lv_iload hx hb dX8_routeAt_52 (lv_at hl 3 rfl) ?_
          refine lv_iload_n hx hb dX8_routeAt_54 rfl (lv_at hl 1 rfl) ?_
          refine lv_icmp_ge (tgt := 75) hx hb dX8_routeAt_55 (by decide) (fun c55 => ?_) (fun c55 => ?_)
          · have gc55 := ai_le c55
            have u55t_a3 : a3.toInt ≤ (60 : Int) := u20k0_a3
            have l55t_j52l6 : (1 : Int) ≤ j52l6.toInt := Int.le_trans l20k0_a3 gc55
            refine lv_iload hx hb dX8_routeAt_75 (lv_at hl 2 rfl) ?_
            exact W.iret (v := j52l5) hx hb hr (fun t ht hW => ⟨⟨j52l5, (), rfl, ⟨(Int.le_trans zq69 bj52l5_l), bj52l5_u⟩, v1na0_0, v1na0_11, v43na0_25, v43na0_26, v43na0_27, v43na0_28, v43nfa0_23, v43nfa0_24, v43nfa0_18, v43nfa0_32, v43nfa0_33, bv43nfa0_23, bv43nfa0_24, bv43nfa0_18, by rw [ht]; exact hP, va_K.moved hW.alike hK, hD⟩, hS.F ht⟩) hS.2.2 dX8_routeAt_77
          · have gc55 := ai_nle c55
            have u55f_j52l6 : j52l6.toInt ≤ (59 : Int) := ai_lthi gc55 u20k0_a3
            have l55f_a3 : (1 : Int) ≤ a3.toInt := l20k0_a3
            refine lv_aload_n hx hb dX8_routeAt_58 rfl (lv_at hl 0 rfl) ?_
            refine lv_iload hx hb dX8_routeAt_59 (lv_at hl 3 rfl) ?_
            refine lv_iload hx hb dX8_routeAt_61 (lv_at hl 2 rfl) ?_
            refine lv_iconst (v := 1) hx hb dX8_routeAt_63 zk_iconst_1 ?_
            refine zc_cutc (wc := [(a0, .inr (8, [Value.int v1na0_0, a0g_1, a0g_2, a0g_3, a0g_4, a0g_5, a0g_6, a0g_7, a0g_8, a0g_9, a0g_10, Value.int v1na0_11, a0g_12, a0g_13, Value.int a0_14, Value.ref a0_15, a0g_16, Value.ref a0_17, Value.ref a0_18, a0g_19, a0g_20, a0g_21, a0g_22, Value.ref a0_23, Value.ref a0_24, Value.int v43na0_25, Value.int v43na0_26, Value.int v43na0_27, Value.int v43na0_28, a0g_29, a0g_30, a0g_31, Value.ref a0_32, Value.ref a0_33, a0g_34, a0g_35, a0g_36, a0g_37, a0g_38, a0g_39])), (a0_15, .inl (ka0_15, 156, .inl (fa0_15))), (a0_33, .inl (ka0_33, 620, .inl (v43nfa0_33))), (a0_32, .inl (ka0_32, 61, .inl (v43nfa0_32)))]) hP hD hS hA [0, 1, 7, 6] (by decide +kernel) rfl (fun hPc hDc hFc hCc => ?_)
            have hKc := hK.sub (tys' := [(ka0_15, .int), (ka0_33, .int), (ka0_32, .int)]) [0, 6, 5] rfl
            refine va_calli (va_runV (As := [.int j52l6, .int j52l5, .int 1]) (rest := []) ⟨hx, hb, hml, hown, hts⟩ (c_X8_bestFromW l dC dI H.size a0 j52l6 j52l5 1 (Value.int v1na0_0) a0g_1 a0g_2 a0g_3 a0g_4 a0g_5 a0g_6 a0g_7 a0g_8 a0g_9 a0g_10 (Value.int v1na0_11) a0g_12 a0g_13 (Value.int a0_14) a0g_16 (Value.ref a0_17) (Value.ref a0_18) a0g_19 a0g_20 a0g_21 a0g_22 (Value.ref a0_23) (Value.ref a0_24) (Value.int v43na0_25) (Value.int v43na0_26) (Value.int v43na0_27) (Value.int v43na0_28) a0g_29 a0g_30 a0g_31 a0g_34 a0g_35 a0g_36 a0g_37 a0g_38 a0g_39 a0_15 a0_32 a0_33 ka0_15 fa0_15 ka0_33 v43nfa0_33 ka0_32 v43nfa0_32 bj52l6_l u55f_j52l6 bj52l5_l bj52l5_u zq1 zq0 bfa0_15) (cwV 3 hts gX8_routeAt_X8_bestFrom rfl rfl rfl zd_X8_bestFrom ⟨Nat.le_of_ble_eq_true rfl, Nat.le_of_ble_eq_true rfl⟩) ⟨ax_blind (fun _ _ _ _ _ => trivial), zr_8 hKc hPc (q0 := 0) rfl, ax_pre hPc hKc hDc (fun _ _ => trivial)⟩ rfl rfl hl.1 rfl (lv_room (Nat.le_of_ble_eq_true rfl)) dX8_routeAt_64 ⟨Nat.le_of_ble_eq_true rfl, Nat.le_of_ble_eq_true rfl⟩) hS (fun q _ h => hFc q h) hFc (fun r64 u t H locs ht hvm hw hB hz1 hk1 hS1 => zo hB ht hS1 (fun hP1 hK1 hD1 hS => ?_))
            refine zc_backc (w := [(a0, .inr (8, [Value.int v1na0_0, a0g_1, a0g_2, a0g_3, a0g_4, a0g_5, a0g_6, a0g_7, a0g_8, a0g_9, a0g_10, Value.int v1na0_11, a0g_12, a0g_13, Value.int a0_14, Value.ref a0_15, a0g_16, Value.ref a0_17, Value.ref a0_18, a0g_19, a0g_20, a0g_21, a0g_22, Value.ref a0_23, Value.ref a0_24, Value.int v43na0_25, Value.int v43na0_26, Value.int v43na0_27, Value.int v43na0_28, a0g_29, a0g_30, a0g_31, Value.ref a0_32, Value.ref a0_33, a0g_34, a0g_35, a0g_36, a0g_37, a0g_38, a0g_39])), (a0_15, .inl (ka0_15, 156, .inl (fa0_15))), (a0_23, .inl (ka0_23, 3, .inl (v43nfa0_23))), (a0_24, .inl (ka0_24, 3, .inl (v43nfa0_24))), (a0_17, .inl (ka0_17, 23, .inl (fa0_17))), (a0_18, .inl (ka0_18, 23, .inl (v43nfa0_18))), (a0_32, .inl (ka0_32, 61, .inl (v43nfa0_32))), (a0_33, .inl (ka0_33, 620, .inl (v43nfa0_33)))]) hP hD hCc hk1 hFc hP1 hD1 [.inr 0, .inr 1, .inl 2, .inl 3, .inl 4, .inl 5, .inr 3, .inr 2] (by decide +kernel) rfl (fun hP hD => ?_)
            have hw : (0 : Int) ≤ r64.toInt ∧ r64.toInt ≤ (8 : Int) := hw
            obtain ⟨h64_0, h64_1⟩ := hw
            refine lv_istore (lv' := [(5, .int r64), (0, .ref a0), (3, .int a3), (6, .int j52l6)]) hx hb dX8_routeAt_67 hl (by decide) rfl (fun ls hl => ?_)
            obtain ⟨x69, ex69⟩ : ∃ y : Int32, y = j52l6 + Int32.ofInt 1 := ⟨_, rfl⟩
            have qx69 : x69.toInt = j52l6.toInt + 1 := ai_inc ex69 (by decide) (by decide) u55f_j52l6 (by decide)
            have bx69 : (1 : Int) ≤ x69.toInt ∧ x69.toInt ≤ 60 := ⟨by rw [qx69]; exact Int.add_le_add bj52l6_l (Int.le_refl _), by rw [qx69]; exact Int.add_le_add u55f_j52l6 (Int.le_refl _)⟩
            refine lv_iinc (v := x69) (lv' := [(6, .int x69), (5, .int r64), (0, .ref a0), (3, .int a3)]) hx hb dX8_routeAt_69 hl (k := 3) rfl ex69.symm (by decide) rfl (fun ls hl => ?_)
            refine lv_goto (tgt := 52) hx hb dX8_routeAt_72 (by decide) ?_
            exact (hK0 _ _ _).mp (ih52 x69 r64 _ _ _ (by first | exact zg_s hm52 qx69 | (have h0 := qx69; omega)) (Int.le_trans zq4 bx69.1) bx69.2 h64_0 h64_1 hP hD hS (lv_sub hl [2, 3, 1, 0] rfl))
      exact (hK0 _ _ _).mp (J52 61 0 a1 _ _ _ (by first | decide +kernel | (have h1 : (0 : Int) ≤ (0 : Int32).toInt := zq5; have h2 : (0 : Int32).toInt ≤ (0 : Int) := zq6; omega)) zq5 (Int.le_trans zq6 zq128) l7k2_a1 u7k2_a1 hP hD hS (lv_sub hl [3, 6, 1, 0] rfl))
    · obtain ⟨hw, h20⟩ := hw
      subst hw
      refine lv_if_ne (tgt := 29) hx hb dX8_routeAt_23 (by decide) (fun c23 => absurd (by decide +kernel) c23) (fun _ => ?_)
      refine lv_iconst (v := 1) hx hb dX8_routeAt_26 zk_iconst_1 ?_
      refine lv_istore (lv' := [(4, .int 1), (0, .ref a0), (1, .int a1), (2, .int a2), (3, .int a3)]) hx hb dX8_routeAt_27 hl (by decide) rfl (fun ls hl => ?_)
      refine lv_iload hx hb dX8_routeAt_29 (lv_at hl 0 rfl) ?_
      refine lv_if_eq (tgt := 41) hx hb dX8_routeAt_31 (by decide) (fun c31 => absurd c31 (by decide +kernel)) (fun _ => ?_)
      refine lv_aload_n hx hb dX8_routeAt_34 rfl (lv_at hl 1 rfl) ?_
      refine lv_iload hx hb dX8_routeAt_35 (lv_at hl 0 rfl) ?_
      refine va_calli (va_runV (As := [.int 1]) (rest := []) ⟨hx, hb, hml, hown, hts⟩ (c_X8_no l dC dI H.size a0 1 (Value.int v1na0_0) a0g_1 a0g_2 a0g_3 a0g_4 a0g_5 a0g_6 a0g_7 a0g_8 a0g_9 a0g_10 a0g_12 a0g_13 (Value.int a0_14) (Value.ref a0_15) a0g_16 (Value.ref a0_17) (Value.ref a0_18) a0g_19 a0g_20 a0g_21 a0g_22 (Value.ref a0_23) (Value.ref a0_24) (Value.int a0_25) (Value.int a0_26) (Value.int a0_27) (Value.int a0_28) a0g_29 a0g_30 a0g_31 (Value.ref a0_32) (Value.ref a0_33) a0g_34 a0g_35 a0g_36 a0g_37 a0g_38 a0g_39 v1na0_11 ) (cwV 1 hts gX8_routeAt_X8_no rfl rfl rfl zd_X8_no ⟨Nat.le_of_ble_eq_true rfl, Nat.le_of_ble_eq_true rfl⟩) ⟨ax_blind (fun _ _ _ _ _ => trivial), zr_8 (zp_K hK) (zp_P1 hP) (q0 := 0) rfl, ax_pre (zp_P1 hP) (zp_K hK) (zp_D1 hD) (fun _ _ => trivial)⟩ rfl rfl hl.1 rfl (lv_room (Nat.le_of_ble_eq_true rfl)) dX8_routeAt_37 ⟨Nat.le_of_ble_eq_true rfl, Nat.le_of_ble_eq_true rfl⟩) hS (fun q _ h => zp_F1 hD hS hA q h) (zp_F1 hD hS hA) (fun r37 u t H locs ht hvm hw => zx_1 (fun v37na0_11 hB hz1 hk1 hS1 => zo1 hB ht hP hD hk1 (zp_F1 hD hS hA) hS1 (fun hP hK1 hD hS => ?_)))
      have hw : r37 = (-1) := hw
      have hw := hw.symm
      subst hw
      exact W.iret (v := (-1)) hx hb hr (fun t ht hW => ⟨⟨(-1), (), rfl, ⟨zq70, (Int.le_trans zq71 zq72)⟩, v1na0_0, v37na0_11, a0_25, a0_26, a0_27, a0_28, fa0_23, fa0_24, fa0_18, fa0_32, fa0_33, bfa0_23, bfa0_24, bfa0_18, by rw [ht]; exact hP, va_K.moved hW.alike hK, hD⟩, hS.F ht⟩) hS.2.2 dX8_routeAt_40

set_option maxHeartbeats 4000000 in
set_option maxRecDepth 100000 in
theorem c_X8_figureHas (l : Launch) (dC : Nat → ClassId) (dI : Nat → Nat → Nat) (sz : Nat) (a1 : Int32) (a2 : Int32) (a3 : Int32)  : zm l yX8_figureHas wsX8_figureHas ({ frames := 0, cells := 0, slots := 0, locals := 0 }) [.int a1, .int a2, .int a3] dC dI sz [] [] (fun A _ => True) (fun A => va_Qi (fun (r : Int32) (_ : Unit) => True) (fun (_ : Unit) (t : State) => ax_B dC dI A [] [] t) A) := by
  refine zh (cc := cX8_figureHas) (maxL := 3) (ret := (some .int)) zn_RX8 rfl (Nat.le_of_ble_eq_true rfl) (fun p e s m below meth c A ls hx hb hml hr hts (hown : s.vm.findClass RX8 = some m.cls) hlocks hA hS hP hK hD hE (hl : lv_has ls 3 [(0, .int a1), (1, .int a2), (2, .int a3)]) => ?_)
  refine lv_iload_n hx hb dX8_figureHas_0 rfl (lv_at hl 1 rfl) ?_
  refine lv_if_eq (tgt := 17) hx hb dX8_figureHas_1 (by decide) (fun c1 => ?_) (fun c1 => ?_)
  · have gc1 := ai_eq c1
    have u1t_a2 : a2.toInt ≤ (0 : Int) := Int.le_trans (Int.le_of_eq gc1) zq6
    have l1t_a2 : (0 : Int) ≤ a2.toInt := Int.le_trans zq5 (Int.le_of_eq gc1.symm)
    refine lv_iload_n hx hb dX8_figureHas_17 rfl (lv_at hl 2 rfl) ?_
    refine lv_if_eq (tgt := 25) hx hb dX8_figureHas_18 (by decide) (fun c18 => ?_) (fun c18 => ?_)
    · have gc18 := ai_eq c18
      have u18t_a3 : a3.toInt ≤ (0 : Int) := Int.le_trans (Int.le_of_eq gc18) zq6
      have l18t_a3 : (0 : Int) ≤ a3.toInt := Int.le_trans zq5 (Int.le_of_eq gc18.symm)
      refine lv_iconst (v := 0) hx hb dX8_figureHas_25 zk_iconst_0 ?_
      exact W.iret (v := 0) hx hb hr (fun t ht hW => ⟨⟨0, (), rfl, trivial, by rw [ht]; exact hP, va_K.moved hW.alike hK, hD⟩, hS.F ht⟩) hS.2.2 dX8_figureHas_26
    · have gc18 := ai_ne c18
      refine lv_iconst (v := 1) hx hb dX8_figureHas_21 zk_iconst_1 ?_
      refine lv_goto (tgt := 26) hx hb dX8_figureHas_22 (by decide) ?_
      exact W.iret (v := 1) hx hb hr (fun t ht hW => ⟨⟨1, (), rfl, trivial, by rw [ht]; exact hP, va_K.moved hW.alike hK, hD⟩, hS.F ht⟩) hS.2.2 dX8_figureHas_26
  · have gc1 := ai_ne c1
    refine lv_iload_n hx hb dX8_figureHas_4 rfl (lv_at hl 2 rfl) ?_
    refine lv_if_eq (tgt := 13) hx hb dX8_figureHas_5 (by decide) (fun c5 => ?_) (fun c5 => ?_)
    · have gc5 := ai_eq c5
      have u5t_a3 : a3.toInt ≤ (0 : Int) := Int.le_trans (Int.le_of_eq gc5) zq6
      have l5t_a3 : (0 : Int) ≤ a3.toInt := Int.le_trans zq5 (Int.le_of_eq gc5.symm)
      refine lv_iconst (v := 4) hx hb dX8_figureHas_13 zk_iconst_4 ?_
      refine lv_goto (tgt := 26) hx hb dX8_figureHas_14 (by decide) ?_
      exact W.iret (v := 4) hx hb hr (fun t ht hW => ⟨⟨4, (), rfl, trivial, by rw [ht]; exact hP, va_K.moved hW.alike hK, hD⟩, hS.F ht⟩) hS.2.2 dX8_figureHas_26
    · have gc5 := ai_ne c5
      refine lv_iload_n hx hb dX8_figureHas_8 rfl (lv_at hl 0 rfl) ?_
      refine lv_ineg hx hb dX8_figureHas_9 ?_
      refine lv_topi (fun x9 ex9 => ?_)
      refine lv_goto (tgt := 26) hx hb dX8_figureHas_10 (by decide) ?_
      exact W.iret (v := x9) hx hb hr (fun t ht hW => ⟨⟨x9, (), rfl, trivial, by rw [ht]; exact hP, va_K.moved hW.alike hK, hD⟩, hS.F ht⟩) hS.2.2 dX8_figureHas_26

set_option maxHeartbeats 4000000 in
set_option maxRecDepth 100000 in
theorem c_X8_otherHas (l : Launch) (dC : Nat → ClassId) (dI : Nat → Nat → Nat) (sz : Nat) (a1 : Int32) (a2 : Int32)  : zm l yX8_otherHas wsX8_otherHas ({ frames := 0, cells := 0, slots := 0, locals := 0 }) [.int a1, .int a2] dC dI sz [] [] (fun A _ => True) (fun A => va_Qi (fun (r : Int32) (_ : Unit) => (r = 3) ∨ (r = 1 ∧ (0 : Int) ≤ a1.toInt ∧ a1.toInt ≤ (0 : Int) ∧ (0 : Int) ≤ a2.toInt ∧ a2.toInt ≤ (0 : Int)) ∨ (r = 0 ∧ (0 : Int) ≤ a2.toInt ∧ a2.toInt ≤ (0 : Int)) ∨ (r = (-1) ∧ (0 : Int) ≤ a1.toInt ∧ a1.toInt ≤ (0 : Int))) (fun (_ : Unit) (t : State) => ax_B dC dI A [] [] t) A) := by
  refine zh (cc := cX8_otherHas) (maxL := 2) (ret := (some .int)) zn_RX8 rfl (Nat.le_of_ble_eq_true rfl) (fun p e s m below meth c A ls hx hb hml hr hts (hown : s.vm.findClass RX8 = some m.cls) hlocks hA hS hP hK hD hE (hl : lv_has ls 2 [(0, .int a1), (1, .int a2)]) => ?_)
  refine lv_iload_n hx hb dX8_otherHas_0 rfl (lv_at hl 0 rfl) ?_
  refine lv_if_eq (tgt := 16) hx hb dX8_otherHas_1 (by decide) (fun c1 => ?_) (fun c1 => ?_)
  · have gc1 := ai_eq c1
    have u1t_a1 : a1.toInt ≤ (0 : Int) := Int.le_trans (Int.le_of_eq gc1) zq6
    have l1t_a1 : (0 : Int) ≤ a1.toInt := Int.le_trans zq5 (Int.le_of_eq gc1.symm)
    refine lv_iload_n hx hb dX8_otherHas_16 rfl (lv_at hl 1 rfl) ?_
    refine lv_if_eq (tgt := 24) hx hb dX8_otherHas_17 (by decide) (fun c17 => ?_) (fun c17 => ?_)
    · have gc17 := ai_eq c17
      have u17t_a2 : a2.toInt ≤ (0 : Int) := Int.le_trans (Int.le_of_eq gc17) zq6
      have l17t_a2 : (0 : Int) ≤ a2.toInt := Int.le_trans zq5 (Int.le_of_eq gc17.symm)
      refine lv_iconst (v := 1) hx hb dX8_otherHas_24 zk_iconst_1 ?_
      exact W.iret (v := 1) hx hb hr (fun t ht hW => ⟨⟨1, (), rfl, (Or.inr (Or.inl ⟨rfl, l1t_a1, u1t_a1, l17t_a2, u17t_a2⟩)), by rw [ht]; exact hP, va_K.moved hW.alike hK, hD⟩, hS.F ht⟩) hS.2.2 dX8_otherHas_25
    · have gc17 := ai_ne c17
      refine lv_iconst (v := (-1)) hx hb dX8_otherHas_20 zk_iconst_n1 ?_
      refine lv_goto (tgt := 25) hx hb dX8_otherHas_21 (by decide) ?_
      exact W.iret (v := (-1)) hx hb hr (fun t ht hW => ⟨⟨(-1), (), rfl, (Or.inr (Or.inr (Or.inr (⟨rfl, l1t_a1, u1t_a1⟩)))), by rw [ht]; exact hP, va_K.moved hW.alike hK, hD⟩, hS.F ht⟩) hS.2.2 dX8_otherHas_25
  · have gc1 := ai_ne c1
    refine lv_iload_n hx hb dX8_otherHas_4 rfl (lv_at hl 1 rfl) ?_
    refine lv_if_eq (tgt := 12) hx hb dX8_otherHas_5 (by decide) (fun c5 => ?_) (fun c5 => ?_)
    · have gc5 := ai_eq c5
      have u5t_a2 : a2.toInt ≤ (0 : Int) := Int.le_trans (Int.le_of_eq gc5) zq6
      have l5t_a2 : (0 : Int) ≤ a2.toInt := Int.le_trans zq5 (Int.le_of_eq gc5.symm)
      refine lv_iconst (v := 0) hx hb dX8_otherHas_12 zk_iconst_0 ?_
      refine lv_goto (tgt := 25) hx hb dX8_otherHas_13 (by decide) ?_
      exact W.iret (v := 0) hx hb hr (fun t ht hW => ⟨⟨0, (), rfl, (Or.inr (Or.inr (Or.inl ⟨rfl, l5t_a2, u5t_a2⟩))), by rw [ht]; exact hP, va_K.moved hW.alike hK, hD⟩, hS.F ht⟩) hS.2.2 dX8_otherHas_25
    · have gc5 := ai_ne c5
      refine lv_iconst (v := 3) hx hb dX8_otherHas_8 zk_iconst_3 ?_
      refine lv_goto (tgt := 25) hx hb dX8_otherHas_9 (by decide) ?_
      exact W.iret (v := 3) hx hb hr (fun t ht hW => ⟨⟨3, (), rfl, (Or.inl (rfl)), by rw [ht]; exact hP, va_K.moved hW.alike hK, hD⟩, hS.F ht⟩) hS.2.2 dX8_otherHas_25

set_option maxHeartbeats 4000000 in
set_option maxRecDepth 100000 in
theorem c_X8_dares (l : Launch) (dC : Nat → ClassId) (dI : Nat → Nat → Nat) (sz : Nat) (a0 : Nat) (a1 : Int32) (a2 : Int32) (a3 : Int32) (a4 : Int32) (a0_0 : Int32) (a0g_1 a0g_2 a0g_3 a0g_4 a0g_5 a0g_6 a0g_7 a0g_8 a0g_9 a0g_10 a0g_12 a0g_13 a0g_15 a0g_16 a0g_17 a0g_18 a0g_19 a0g_20 a0g_21 a0g_22 a0g_23 a0g_24 a0g_25 a0g_26 a0g_27 a0g_28 a0g_29 a0g_30 a0g_31 a0g_32 a0g_33 a0g_34 a0g_35 a0g_36 a0g_37 a0g_38 a0g_39 : Value) (a0_11 : Int32) (a0_14 : Int32) (ba0_14_l : (1 : Int) ≤ a0_14.toInt) (ba0_14_u : a0_14.toInt ≤ (1 : Int)) : zm l yX8_dares wsX8_dares ({ frames := 1, cells := 0, slots := 0, locals := 22 }) [.ref a0, .int a1, .int a2, .int a3, .int a4] dC dI sz [(a0, .inr (8, [Value.int a0_0, a0g_1, a0g_2, a0g_3, a0g_4, a0g_5, a0g_6, a0g_7, a0g_8, a0g_9, a0g_10, Value.int a0_11, a0g_12, a0g_13, Value.int a0_14, a0g_15, a0g_16, a0g_17, a0g_18, a0g_19, a0g_20, a0g_21, a0g_22, a0g_23, a0g_24, a0g_25, a0g_26, a0g_27, a0g_28, a0g_29, a0g_30, a0g_31, a0g_32, a0g_33, a0g_34, a0g_35, a0g_36, a0g_37, a0g_38, a0g_39]))] [] (fun A _ => True) (fun A => va_Qi (fun (r : Int32) (_ : Unit) => True) (fun (_ : Unit) (t : State) => ∃ na0_0 : Int32, ∃ na0_11 : Int32, ax_B dC dI A [(a0, .inr (8, [Value.int na0_0, a0g_1, a0g_2, a0g_3, a0g_4, a0g_5, a0g_6, a0g_7, a0g_8, a0g_9, a0g_10, Value.int na0_11, a0g_12, a0g_13, Value.int a0_14, a0g_15, a0g_16, a0g_17, a0g_18, a0g_19, a0g_20, a0g_21, a0g_22, a0g_23, a0g_24, a0g_25, a0g_26, a0g_27, a0g_28, a0g_29, a0g_30, a0g_31, a0g_32, a0g_33, a0g_34, a0g_35, a0g_36, a0g_37, a0g_38, a0g_39]))] [] t) A) := by
  refine zh (cc := cX8_dares) (maxL := 6) (ret := (some .int)) zn_RX8 rfl (Nat.le_of_ble_eq_true rfl) (fun p e s m below meth c A ls hx hb hml hr hts (hown : s.vm.findClass RX8 = some m.cls) hlocks hA hS hP hK hD hE (hl : lv_has ls 6 [(0, .ref a0), (1, .int a1), (2, .int a2), (3, .int a3), (4, .int a4)]) => ?_)
  refine lv_aload_n hx hb dX8_dares_0 rfl (lv_at hl 0 rfl) ?_
  refine va_callv (va_runV (As := []) (rest := []) ⟨hx, hb, hml, hown, hts⟩ (c_X8_good l dC dI s.heap.size a0 a0_0 a0g_1 a0g_2 a0g_3 a0g_4 a0g_5 a0g_6 a0g_7 a0g_8 a0g_9 a0g_10 a0g_12 a0g_13 (Value.int a0_14) a0g_15 a0g_16 a0g_17 a0g_18 a0g_19 a0g_20 a0g_21 a0g_22 a0g_23 a0g_24 a0g_25 a0g_26 a0g_27 a0g_28 a0g_29 a0g_30 a0g_31 a0g_32 a0g_33 a0g_34 a0g_35 a0g_36 a0g_37 a0g_38 a0g_39 a0_11 ) (cwV 0 hts gX8_dares_X8_good rfl rfl rfl zd_X8_good ⟨Nat.le_of_ble_eq_true rfl, Nat.le_of_ble_eq_true rfl⟩) ⟨ax_blind (fun _ _ _ _ _ => trivial), zr_8 (zp_K hK) (zp_P1 hP) (q0 := 0) rfl, ax_pre (zp_P1 hP) (zp_K hK) (zp_D1 hD) (fun _ _ => trivial)⟩ rfl rfl hl.1 rfl (lv_room (Nat.le_of_ble_eq_true rfl)) dX8_dares_1 ⟨Nat.le_of_ble_eq_true rfl, Nat.le_of_ble_eq_true rfl⟩) hS (fun q _ h => zp_F1 hD hS hA q h) (zp_F1 hD hS hA) (fun u t H locs ht hvm hw => zx_2 (fun v1na0_0 v1na0_11 hB hz1 hk1 hS1 => zo1 hB ht hP hD hk1 (zp_F1 hD hS hA) hS1 (fun hP hK1 hD hS => ?_)))
  refine lv_aload_n hx hb dX8_dares_4 rfl (lv_at hl 0 rfl) ?_
  refine lv_aload_n hx hb dX8_dares_5 rfl (lv_at hl 0 rfl) ?_
  refine va_get (D := (dC, dI)) (ci := 8) (v := .int a0_14) (C := RX8) (T := TX8) (N := 40) hx hb hts zi_X8_dares_8 hown hK hP 0 rfl rfl 14 (by decide) (hts (.fieldLink RX8 173 "WaxTurnsModel" "hasGallery" "Z") (List.mem_cons_of_mem _ (List.mem_append_left _ (List.mem_of_getElem? (i := 0) rfl)))) (fun _ h9 => h9) rfl dX8_dares_6 ?_
  refine lv_iload_n hx hb dX8_dares_9 rfl (lv_at hl 1 rfl) ?_
  refine lv_iconst (v := 0) hx hb dX8_dares_10 zk_iconst_0 ?_
  refine lv_bipush (v := 9) hx hb dX8_dares_11 zk_bipush_9 ?_
  refine va_calli (va_runS (As := [.int a1, .int 0, .int 9]) (rest := [.int a0_14, .ref a0]) ⟨hx, hb, hml, hown, hts⟩ (c_X8_in l dC dI H.size a1 0 9 ) (va_cwS 3 hts gX8_dares_X8_in rfl rfl rfl zd_X8_in.2 ⟨Nat.le_of_ble_eq_true rfl, Nat.le_of_ble_eq_true rfl⟩) ⟨ax_blind (fun _ _ _ _ _ => trivial), ax_pre (zp_P0 hP) (zp_K hK) (zp_D0 hD) (fun _ _ => trivial)⟩ rfl rfl hl.1 rfl (lv_room (Nat.le_of_ble_eq_true rfl)) dX8_dares_13 ⟨Nat.le_of_ble_eq_true rfl, Nat.le_of_ble_eq_true rfl⟩) hS (fun q _ h => zp_F0 hD hS hA q h) (zp_F0 hD hS hA) (fun r13 u t H locs ht hvm hw hB hz1 hk1 hS1 => zo0 hB ht hP hD hk1 (zp_F0 hD hS hA) hS1 (fun hP hK1 hD hS => ?_))
  rcases hw with hw | hw
  · obtain ⟨hw, h13⟩ := hw
    subst hw
    have l13k0_a1 : (0 : Int) ≤ a1.toInt := Int.le_trans zq5 h13.1
    have u13k0_a1 : a1.toInt ≤ (9 : Int) := Int.le_trans h13.2 zq3
    refine va_calli (va_runV (As := [.int a0_14, .int 1]) (rest := []) ⟨hx, hb, hml, hown, hts⟩ (c_X8_whyB l dC dI H.size a0 a0_14 1 (Value.int v1na0_0) a0g_1 a0g_2 a0g_3 a0g_4 a0g_5 a0g_6 a0g_7 a0g_8 a0g_9 a0g_10 (Value.int v1na0_11) a0g_12 a0g_13 (Value.int a0_14) a0g_15 a0g_16 a0g_17 a0g_18 a0g_19 a0g_20 a0g_21 a0g_22 a0g_23 a0g_24 a0g_25 a0g_26 a0g_27 a0g_28 a0g_29 a0g_30 a0g_31 a0g_32 a0g_33 a0g_34 a0g_35 a0g_36 a0g_37 a0g_38 a0g_39 (Int.le_trans zq4 ba0_14_l) ba0_14_u (Int.le_trans zq4 zq1) zq0) (cwV 2 hts gX8_dares_X8_why rfl rfl rfl zd_X8_why ⟨Nat.le_of_ble_eq_true rfl, Nat.le_of_ble_eq_true rfl⟩) ⟨ax_blind (fun _ _ _ _ _ => trivial), zr_8 (zp_K hK) (zp_P1 hP) (q0 := 0) rfl, ax_pre (zp_P1 hP) (zp_K hK) (zp_D1 hD) (fun _ _ => trivial)⟩ rfl rfl hl.1 rfl (lv_room (Nat.le_of_ble_eq_true rfl)) dX8_dares_16 ⟨Nat.le_of_ble_eq_true rfl, Nat.le_of_ble_eq_true rfl⟩) hS (fun q _ h => zp_F1 hD hS hA q h) (zp_F1 hD hS hA) (fun r16 u t H locs ht hvm hw hB hz1 hk1 hS1 => zo1 hB ht hP hD hk1 (zp_F1 hD hS hA) hS1 (fun hP hK1 hD hS => ?_))
    rcases hw with hw | hw | hw
    · obtain ⟨hw, h16_0, h16_1, h16_2, h16_3⟩ := hw
      subst hw
      have l16k0_a0_14 : (1 : Int) ≤ a0_14.toInt := ba0_14_l
      have u16k0_a0_14 : a0_14.toInt ≤ (1 : Int) := ba0_14_u
      exact absurd h16_3 (by decide)
    · obtain ⟨hw, h16_0, h16_1⟩ := hw
      subst hw
      have l16k1_a0_14 : (1 : Int) ≤ a0_14.toInt := ba0_14_l
      have u16k1_a0_14 : a0_14.toInt ≤ (0 : Int) := h16_1
      exact absurd (Int.le_trans l16k1_a0_14 u16k1_a0_14) (by decide)
    · obtain ⟨hw, h16_0, h16_1, h16_2, h16_3⟩ := hw
      subst hw
      have l16k2_a0_14 : (1 : Int) ≤ a0_14.toInt := ba0_14_l
      have u16k2_a0_14 : a0_14.toInt ≤ (1 : Int) := ba0_14_u
      refine lv_istore (lv' := [(5, .int 0), (0, .ref a0), (1, .int a1), (2, .int a2), (3, .int a3), (4, .int a4)]) hx hb dX8_dares_19 hl (by decide) rfl (fun ls hl => ?_)
      refine lv_iload hx hb dX8_dares_21 (lv_at hl 0 rfl) ?_
      refine lv_if_ne (tgt := 46) hx hb dX8_dares_23 (by decide) (fun c23 => absurd (by decide +kernel) c23) (fun _ => ?_)
      refine lv_iload hx hb dX8_dares_26 (lv_at hl 5 rfl) ?_
      refine lv_if_eq (tgt := 39) hx hb dX8_dares_28 (by decide) (fun c28 => ?_) (fun c28 => ?_)
      · have gc28 := ai_eq c28
        have u28t_a4 : a4.toInt ≤ (0 : Int) := Int.le_trans (Int.le_of_eq gc28) zq6
        have l28t_a4 : (0 : Int) ≤ a4.toInt := Int.le_trans zq5 (Int.le_of_eq gc28.symm)
        refine lv_iload_n hx hb dX8_dares_39 rfl (lv_at hl 2 rfl) ?_
        refine lv_iload_n hx hb dX8_dares_40 rfl (lv_at hl 3 rfl) ?_
        refine lv_iload_n hx hb dX8_dares_41 rfl (lv_at hl 4 rfl) ?_
        refine va_calli (va_runS (As := [.int a1, .int a2, .int a3]) (rest := []) ⟨hx, hb, hml, hown, hts⟩ (c_X8_figureHas l dC dI H.size a1 a2 a3 ) (va_cwS 3 hts gX8_dares_X8_figureHas rfl rfl rfl zd_X8_figureHas.2 ⟨Nat.le_of_ble_eq_true rfl, Nat.le_of_ble_eq_true rfl⟩) ⟨ax_blind (fun _ _ _ _ _ => trivial), ax_pre (zp_P0 hP) (zp_K hK) (zp_D0 hD) (fun _ _ => trivial)⟩ rfl rfl hl.1 rfl (lv_room (Nat.le_of_ble_eq_true rfl)) dX8_dares_42 ⟨Nat.le_of_ble_eq_true rfl, Nat.le_of_ble_eq_true rfl⟩) hS (fun q _ h => zp_F0 hD hS hA q h) (zp_F0 hD hS hA) (fun r42 u t H locs ht hvm hw hB hz1 hk1 hS1 => zo0 hB ht hP hD hk1 (zp_F0 hD hS hA) hS1 (fun hP hK1 hD hS => ?_))
        exact W.iret (v := r42) hx hb hr (fun t ht hW => ⟨⟨r42, (), rfl, trivial, v1na0_0, v1na0_11, by rw [ht]; exact hP, va_K.moved hW.alike hK, hD⟩, hS.F ht⟩) hS.2.2 dX8_dares_45
      · have gc28 := ai_ne c28
        refine lv_iload_n hx hb dX8_dares_31 rfl (lv_at hl 3 rfl) ?_
        refine lv_iload_n hx hb dX8_dares_32 rfl (lv_at hl 4 rfl) ?_
        refine va_calli (va_runS (As := [.int a2, .int a3]) (rest := []) ⟨hx, hb, hml, hown, hts⟩ (c_X8_otherHas l dC dI H.size a2 a3 ) (va_cwS 2 hts gX8_dares_X8_otherHas rfl rfl rfl zd_X8_otherHas.2 ⟨Nat.le_of_ble_eq_true rfl, Nat.le_of_ble_eq_true rfl⟩) ⟨ax_blind (fun _ _ _ _ _ => trivial), ax_pre (zp_P0 hP) (zp_K hK) (zp_D0 hD) (fun _ _ => trivial)⟩ rfl rfl hl.1 rfl (lv_room (Nat.le_of_ble_eq_true rfl)) dX8_dares_33 ⟨Nat.le_of_ble_eq_true rfl, Nat.le_of_ble_eq_true rfl⟩) hS (fun q _ h => zp_F0 hD hS hA q h) (zp_F0 hD hS hA) (fun r33 u t H locs ht hvm hw hB hz1 hk1 hS1 => zo0 hB ht hP hD hk1 (zp_F0 hD hS hA) hS1 (fun hP hK1 hD hS => ?_))
        rcases hw with hw | hw | hw | hw
        · subst hw
          refine lv_goto (tgt := 45) hx hb dX8_dares_36 (by decide) ?_
          exact W.iret (v := 3) hx hb hr (fun t ht hW => ⟨⟨3, (), rfl, trivial, v1na0_0, v1na0_11, by rw [ht]; exact hP, va_K.moved hW.alike hK, hD⟩, hS.F ht⟩) hS.2.2 dX8_dares_45
        · obtain ⟨hw, h33_0, h33_1, h33_2, h33_3⟩ := hw
          subst hw
          have l33k1_a2 : (0 : Int) ≤ a2.toInt := h33_0
          have u33k1_a2 : a2.toInt ≤ (0 : Int) := h33_1
          have l33k1_a3 : (0 : Int) ≤ a3.toInt := h33_2
          have u33k1_a3 : a3.toInt ≤ (0 : Int) := h33_3
          refine lv_goto (tgt := 45) hx hb dX8_dares_36 (by decide) ?_
          exact W.iret (v := 1) hx hb hr (fun t ht hW => ⟨⟨1, (), rfl, trivial, v1na0_0, v1na0_11, by rw [ht]; exact hP, va_K.moved hW.alike hK, hD⟩, hS.F ht⟩) hS.2.2 dX8_dares_45
        · obtain ⟨hw, h33_0, h33_1⟩ := hw
          subst hw
          have l33k2_a3 : (0 : Int) ≤ a3.toInt := h33_0
          have u33k2_a3 : a3.toInt ≤ (0 : Int) := h33_1
          refine lv_goto (tgt := 45) hx hb dX8_dares_36 (by decide) ?_
          exact W.iret (v := 0) hx hb hr (fun t ht hW => ⟨⟨0, (), rfl, trivial, v1na0_0, v1na0_11, by rw [ht]; exact hP, va_K.moved hW.alike hK, hD⟩, hS.F ht⟩) hS.2.2 dX8_dares_45
        · obtain ⟨hw, h33_0, h33_1⟩ := hw
          subst hw
          have l33k3_a2 : (0 : Int) ≤ a2.toInt := h33_0
          have u33k3_a2 : a2.toInt ≤ (0 : Int) := h33_1
          refine lv_goto (tgt := 45) hx hb dX8_dares_36 (by decide) ?_
          exact W.iret (v := (-1)) hx hb hr (fun t ht hW => ⟨⟨(-1), (), rfl, trivial, v1na0_0, v1na0_11, by rw [ht]; exact hP, va_K.moved hW.alike hK, hD⟩, hS.F ht⟩) hS.2.2 dX8_dares_45
  · obtain ⟨hw, h13⟩ := hw
    subst hw
    refine va_calli (va_runV (As := [.int a0_14, .int 0]) (rest := []) ⟨hx, hb, hml, hown, hts⟩ (c_X8_whyB l dC dI H.size a0 a0_14 0 (Value.int v1na0_0) a0g_1 a0g_2 a0g_3 a0g_4 a0g_5 a0g_6 a0g_7 a0g_8 a0g_9 a0g_10 (Value.int v1na0_11) a0g_12 a0g_13 (Value.int a0_14) a0g_15 a0g_16 a0g_17 a0g_18 a0g_19 a0g_20 a0g_21 a0g_22 a0g_23 a0g_24 a0g_25 a0g_26 a0g_27 a0g_28 a0g_29 a0g_30 a0g_31 a0g_32 a0g_33 a0g_34 a0g_35 a0g_36 a0g_37 a0g_38 a0g_39 (Int.le_trans zq4 ba0_14_l) ba0_14_u zq5 (Int.le_trans zq6 zq4)) (cwV 2 hts gX8_dares_X8_why rfl rfl rfl zd_X8_why ⟨Nat.le_of_ble_eq_true rfl, Nat.le_of_ble_eq_true rfl⟩) ⟨ax_blind (fun _ _ _ _ _ => trivial), zr_8 (zp_K hK) (zp_P1 hP) (q0 := 0) rfl, ax_pre (zp_P1 hP) (zp_K hK) (zp_D1 hD) (fun _ _ => trivial)⟩ rfl rfl hl.1 rfl (lv_room (Nat.le_of_ble_eq_true rfl)) dX8_dares_16 ⟨Nat.le_of_ble_eq_true rfl, Nat.le_of_ble_eq_true rfl⟩) hS (fun q _ h => zp_F1 hD hS hA q h) (zp_F1 hD hS hA) (fun r16 u t H locs ht hvm hw hB hz1 hk1 hS1 => zo1 hB ht hP hD hk1 (zp_F1 hD hS hA) hS1 (fun hP hK1 hD hS => ?_))
    rcases hw with hw | hw | hw
    · obtain ⟨hw, h16_0, h16_1, h16_2, h16_3⟩ := hw
      subst hw
      have l16k0_a0_14 : (1 : Int) ≤ a0_14.toInt := ba0_14_l
      have u16k0_a0_14 : a0_14.toInt ≤ (1 : Int) := ba0_14_u
      refine lv_istore (lv' := [(5, .int 2), (0, .ref a0), (1, .int a1), (2, .int a2), (3, .int a3), (4, .int a4)]) hx hb dX8_dares_19 hl (by decide) rfl (fun ls hl => ?_)
      refine lv_iload hx hb dX8_dares_21 (lv_at hl 0 rfl) ?_
      refine lv_if_ne (tgt := 46) hx hb dX8_dares_23 (by decide) (fun _ => ?_) (fun c23 => absurd c23 (by decide +kernel))
      refine lv_aload_n hx hb dX8_dares_46 rfl (lv_at hl 1 rfl) ?_
      refine lv_iload hx hb dX8_dares_47 (lv_at hl 0 rfl) ?_
      refine va_put (D := (dC, dI)) (ci := 8) (v := .int 2) (ty := .int) (C := RX8) (T := TX8) (N := 40) hx hb hts zi_X8_dares_8 tyX8 tyX8_ok nmX8 hown hK hP hD hS 0 rfl rfl 11 (by decide) (hts (.fieldLink RX8 62 "WaxTurnsModel" "trouble" "I") (List.mem_cons_of_mem _ (List.mem_append_left _ (List.mem_of_getElem? (i := 1) rfl)))) (fun _ h9 => h9) rfl (tyX8_ok 11 (by decide)) rfl rfl (Nat.le_of_ble_eq_true rfl) dX8_dares_49 (fun H locs hP hD hS => ?_)
      refine zs_0 (y := (a0, .inr (8, [Value.int v1na0_0, a0g_1, a0g_2, a0g_3, a0g_4, a0g_5, a0g_6, a0g_7, a0g_8, a0g_9, a0g_10, Value.int 2, a0g_12, a0g_13, Value.int a0_14, a0g_15, a0g_16, a0g_17, a0g_18, a0g_19, a0g_20, a0g_21, a0g_22, a0g_23, a0g_24, a0g_25, a0g_26, a0g_27, a0g_28, a0g_29, a0g_30, a0g_31, a0g_32, a0g_33, a0g_34, a0g_35, a0g_36, a0g_37, a0g_38, a0g_39]))) hP hD rfl (fun hP hD => ?_)
      refine lv_bipush (v := (-100)) hx hb dX8_dares_52 zk_bipush_n100 ?_
      exact W.iret (v := (-100)) hx hb hr (fun t ht hW => ⟨⟨(-100), (), rfl, trivial, v1na0_0, 2, by rw [ht]; exact hP, va_K.moved hW.alike hK, hD⟩, hS.F ht⟩) hS.2.2 dX8_dares_54
    · obtain ⟨hw, h16_0, h16_1⟩ := hw
      subst hw
      have l16k1_a0_14 : (1 : Int) ≤ a0_14.toInt := ba0_14_l
      have u16k1_a0_14 : a0_14.toInt ≤ (0 : Int) := h16_1
      exact absurd (Int.le_trans l16k1_a0_14 u16k1_a0_14) (by decide)
    · obtain ⟨hw, h16_0, h16_1, h16_2, h16_3⟩ := hw
      subst hw
      have l16k2_a0_14 : (1 : Int) ≤ a0_14.toInt := ba0_14_l
      have u16k2_a0_14 : a0_14.toInt ≤ (1 : Int) := ba0_14_u
      exact absurd h16_2 (by decide)

set_option maxHeartbeats 4000000 in
set_option maxRecDepth 100000 in
theorem c_X8_seekRests (l : Launch) (dC : Nat → ClassId) (dI : Nat → Nat → Nat) (sz : Nat) (a0 : Nat) (a1 : Int32) (a0g_0 a0g_1 a0g_2 a0g_3 a0g_4 a0g_5 a0g_6 a0g_7 a0g_8 a0g_9 a0g_10 a0g_11 a0g_12 a0g_13 a0g_14 a0g_15 a0g_16 a0g_17 a0g_18 a0g_19 a0g_20 a0g_21 a0g_22 a0g_23 a0g_24 a0g_25 a0g_26 a0g_27 a0g_28 a0g_29 a0g_30 a0g_31 a0g_32 a0g_33 a0g_34 a0g_35 a0g_36 a0g_38 a0g_39 : Value) (a0_37 : Int32)  : zm l yX8_seekRests wsX8_seekRests ({ frames := 1, cells := 0, slots := 0, locals := 22 }) [.ref a0, .int a1] dC dI sz [(a0, .inr (8, [a0g_0, a0g_1, a0g_2, a0g_3, a0g_4, a0g_5, a0g_6, a0g_7, a0g_8, a0g_9, a0g_10, a0g_11, a0g_12, a0g_13, a0g_14, a0g_15, a0g_16, a0g_17, a0g_18, a0g_19, a0g_20, a0g_21, a0g_22, a0g_23, a0g_24, a0g_25, a0g_26, a0g_27, a0g_28, a0g_29, a0g_30, a0g_31, a0g_32, a0g_33, a0g_34, a0g_35, a0g_36, Value.int a0_37, a0g_38, a0g_39]))] [] (fun A _ => True) (fun A => va_Qi (fun (r : Int32) (_ : Unit) => True) (fun (_ : Unit) (t : State) => ∃ na0_37 : Int32, ax_B dC dI A [(a0, .inr (8, [a0g_0, a0g_1, a0g_2, a0g_3, a0g_4, a0g_5, a0g_6, a0g_7, a0g_8, a0g_9, a0g_10, a0g_11, a0g_12, a0g_13, a0g_14, a0g_15, a0g_16, a0g_17, a0g_18, a0g_19, a0g_20, a0g_21, a0g_22, a0g_23, a0g_24, a0g_25, a0g_26, a0g_27, a0g_28, a0g_29, a0g_30, a0g_31, a0g_32, a0g_33, a0g_34, a0g_35, a0g_36, Value.int na0_37, a0g_38, a0g_39]))] [] t) A) := by
  refine zh (cc := cX8_seekRests) (maxL := 6) (ret := (some .int)) zn_RX8 rfl (Nat.le_of_ble_eq_true rfl) (fun p e s m below meth c A ls hx hb hml hr hts (hown : s.vm.findClass RX8 = some m.cls) hlocks hA hS hP hK hD hE (hl : lv_has ls 6 [(0, .ref a0), (1, .int a1)]) => ?_)
  refine ai_open (fun K hK0 => ?_)
  refine (hK0 _ _ _).mpr ?_
  refine lv_iconst (v := 0) hx hb dX8_seekRests_0 zk_iconst_0 ?_
  refine lv_istore_n (lv' := [(2, .int 0), (0, .ref a0), (1, .int a1)]) hx hb dX8_seekRests_1 rfl hl (by decide) rfl (fun ls hl => ?_)
  refine lv_aload_n hx hb dX8_seekRests_2 rfl (lv_at hl 1 rfl) ?_
  refine lv_bipush (v := (-2)) hx hb dX8_seekRests_3 zk_bipush_n2 ?_
  refine va_put (D := (dC, dI)) (ci := 8) (v := .int (-2)) (ty := .int) (C := RX8) (T := TX8) (N := 40) hx hb hts zi_X8_seekRests_8 tyX8 tyX8_ok nmX8 hown hK hP hD hS 0 rfl rfl 37 (by decide) (hts (.fieldLink RX8 359 "WaxTurnsModel" "firstRest" "I") (List.mem_cons_of_mem _ (List.mem_append_left _ (List.mem_of_getElem? (i := 0) rfl)))) (fun _ h9 => h9) rfl (tyX8_ok 37 (by decide)) rfl rfl (Nat.le_of_ble_eq_true rfl) dX8_seekRests_5 (fun H locs hP hD hS => ?_)
  refine zs_0 (y := (a0, .inr (8, [a0g_0, a0g_1, a0g_2, a0g_3, a0g_4, a0g_5, a0g_6, a0g_7, a0g_8, a0g_9, a0g_10, a0g_11, a0g_12, a0g_13, a0g_14, a0g_15, a0g_16, a0g_17, a0g_18, a0g_19, a0g_20, a0g_21, a0g_22, a0g_23, a0g_24, a0g_25, a0g_26, a0g_27, a0g_28, a0g_29, a0g_30, a0g_31, a0g_32, a0g_33, a0g_34, a0g_35, a0g_36, Value.int (-2), a0g_38, a0g_39]))) hP hD rfl (fun hP hD => ?_)
  refine lv_iconst (v := 0) hx hb dX8_seekRests_8 zk_iconst_0 ?_
  refine lv_istore_n (lv' := [(3, .int 0), (2, .int 0), (0, .ref a0), (1, .int a1)]) hx hb dX8_seekRests_9 rfl hl (by decide) rfl (fun ls hl => ?_)
  have J10 : ∀ (n : Nat) (j10l3 : Int32) (j10l2 : Int32) (j10a0_37 : Int32) (H : Heap) (locs : List Loc) (ls : Array Slot), (5 : Int) - j10l3.toInt ≤ (n : Int) → (0 : Int) ≤ j10l3.toInt → j10l3.toInt ≤ (4 : Int) → va_P (dC, dI) vwCl [(a0, .inr (8, [a0g_0, a0g_1, a0g_2, a0g_3, a0g_4, a0g_5, a0g_6, a0g_7, a0g_8, a0g_9, a0g_10, a0g_11, a0g_12, a0g_13, a0g_14, a0g_15, a0g_16, a0g_17, a0g_18, a0g_19, a0g_20, a0g_21, a0g_22, a0g_23, a0g_24, a0g_25, a0g_26, a0g_27, a0g_28, a0g_29, a0g_30, a0g_31, a0g_32, a0g_33, a0g_34, a0g_35, a0g_36, Value.int j10a0_37, a0g_38, a0g_39]))] H → va_D A [(a0, .inr (8, [a0g_0, a0g_1, a0g_2, a0g_3, a0g_4, a0g_5, a0g_6, a0g_7, a0g_8, a0g_9, a0g_10, a0g_11, a0g_12, a0g_13, a0g_14, a0g_15, a0g_16, a0g_17, a0g_18, a0g_19, a0g_20, a0g_21, a0g_22, a0g_23, a0g_24, a0g_25, a0g_26, a0g_27, a0g_28, a0g_29, a0g_30, a0g_31, a0g_32, a0g_33, a0g_34, a0g_35, a0g_36, Value.int j10a0_37, a0g_38, a0g_39]))] → va_S A s.heap H locs → lv_has ls 6 [(0, .ref a0), (1, .int a1), (2, .int j10l2), (3, .int j10l3)] → K H locs (F0 m 10 ls []) := by
    intro n
    induction n with
    | zero =>
      intro j10l3 j10l2 j10a0_37 H locs ls hm bj10l3_l bj10l3_u hP hD hS hl
      first | exact zg_0 hm bj10l3_u (by decide) | (have h8 := ai_min j10l3; have h9 := ai_max j10l3; exact absurd hm (by omega))
    | succ n ih10 =>
      intro j10l3 j10l2 j10a0_37 H locs ls hm bj10l3_l bj10l3_u hP hD hS hl
      refine (hK0 _ _ _).mpr ?_
      have hm10 := hm
      refine lv_iload_n hx hb dX8_seekRests_10 rfl (lv_at hl 3 rfl) ?_
      refine lv_iconst (v := 4) hx hb dX8_seekRests_11 zk_iconst_4 ?_
      refine lv_icmp_ge (tgt := 123) hx hb dX8_seekRests_12 (by decide) (fun c12 => ?_) (fun c12 => ?_)
      · have gc12 := ai_le c12
        have l12t_j10l3 : (4 : Int) ≤ j10l3.toInt := Int.le_trans zq68 gc12
        refine lv_iload_n hx hb dX8_seekRests_123 rfl (lv_at hl 2 rfl) ?_
        exact W.iret (v := j10l2) hx hb hr (fun t ht hW => ⟨⟨j10l2, (), rfl, trivial, j10a0_37, by rw [ht]; exact hP, va_K.moved hW.alike hK, hD⟩, hS.F ht⟩) hS.2.2 dX8_seekRests_124
      · have gc12 := ai_nle c12
        have u12f_j10l3 : j10l3.toInt ≤ (3 : Int) := ai_lthi gc12 zq67
        refine lv_iload_n hx hb dX8_seekRests_15 rfl (lv_at hl 3 rfl) ?_
        refine lv_iconst (v := 1) hx hb dX8_seekRests_16 zk_iconst_1 ?_
        have J25 : ∀ (j25s0 : Int32) (H : Heap) (locs : List Loc) (ls : Array Slot), (0 : Int) ≤ j25s0.toInt → j25s0.toInt ≤ (1 : Int) → va_P (dC, dI) vwCl [(a0, .inr (8, [a0g_0, a0g_1, a0g_2, a0g_3, a0g_4, a0g_5, a0g_6, a0g_7, a0g_8, a0g_9, a0g_10, a0g_11, a0g_12, a0g_13, a0g_14, a0g_15, a0g_16, a0g_17, a0g_18, a0g_19, a0g_20, a0g_21, a0g_22, a0g_23, a0g_24, a0g_25, a0g_26, a0g_27, a0g_28, a0g_29, a0g_30, a0g_31, a0g_32, a0g_33, a0g_34, a0g_35, a0g_36, Value.int j10a0_37, a0g_38, a0g_39]))] H → va_D A [(a0, .inr (8, [a0g_0, a0g_1, a0g_2, a0g_3, a0g_4, a0g_5, a0g_6, a0g_7, a0g_8, a0g_9, a0g_10, a0g_11, a0g_12, a0g_13, a0g_14, a0g_15, a0g_16, a0g_17, a0g_18, a0g_19, a0g_20, a0g_21, a0g_22, a0g_23, a0g_24, a0g_25, a0g_26, a0g_27, a0g_28, a0g_29, a0g_30, a0g_31, a0g_32, a0g_33, a0g_34, a0g_35, a0g_36, Value.int j10a0_37, a0g_38, a0g_39]))] → va_S A s.heap H locs → lv_has ls 6 [(0, .ref a0), (1, .int a1), (2, .int j10l2), (3, .int j10l3)] → K H locs (F0 m 25 ls [.int j25s0]) := by
          intro j25s0 H locs ls  bj25s0_l bj25s0_u hP hD hS hl
          refine (hK0 _ _ _).mpr ?_
          refine lv_istore (lv' := [(4, .int j25s0), (0, .ref a0), (1, .int a1), (2, .int j10l2), (3, .int j10l3)]) hx hb dX8_seekRests_25 hl (by decide) rfl (fun ls hl => ?_)
          refine lv_iload_n hx hb dX8_seekRests_27 rfl (lv_at hl 4 rfl) ?_
          refine lv_iconst (v := 2) hx hb dX8_seekRests_28 zk_iconst_2 ?_
          refine lv_irem hx hb dX8_seekRests_29 (by decide +kernel) ?_
          refine lv_topi (fun x29 ex29 => ?_)
          have qx29 := ai_rem2 ex29 bj10l3_l (Int.lt_of_lt_of_le zq100 zq12) zq13
          have wx29 : x29.toInt = j10l3.toInt % 2 := qx29.1
          refine lv_iconst (v := 1) hx hb dX8_seekRests_30 zk_iconst_1 ?_
          have J39 : ∀ (j39s0 : Int32) (H : Heap) (locs : List Loc) (ls : Array Slot), (0 : Int) ≤ j39s0.toInt → j39s0.toInt ≤ (1 : Int) → va_P (dC, dI) vwCl [(a0, .inr (8, [a0g_0, a0g_1, a0g_2, a0g_3, a0g_4, a0g_5, a0g_6, a0g_7, a0g_8, a0g_9, a0g_10, a0g_11, a0g_12, a0g_13, a0g_14, a0g_15, a0g_16, a0g_17, a0g_18, a0g_19, a0g_20, a0g_21, a0g_22, a0g_23, a0g_24, a0g_25, a0g_26, a0g_27, a0g_28, a0g_29, a0g_30, a0g_31, a0g_32, a0g_33, a0g_34, a0g_35, a0g_36, Value.int j10a0_37, a0g_38, a0g_39]))] H → va_D A [(a0, .inr (8, [a0g_0, a0g_1, a0g_2, a0g_3, a0g_4, a0g_5, a0g_6, a0g_7, a0g_8, a0g_9, a0g_10, a0g_11, a0g_12, a0g_13, a0g_14, a0g_15, a0g_16, a0g_17, a0g_18, a0g_19, a0g_20, a0g_21, a0g_22, a0g_23, a0g_24, a0g_25, a0g_26, a0g_27, a0g_28, a0g_29, a0g_30, a0g_31, a0g_32, a0g_33, a0g_34, a0g_35, a0g_36, Value.int j10a0_37, a0g_38, a0g_39]))] → va_S A s.heap H locs → lv_has ls 6 [(0, .ref a0), (1, .int a1), (2, .int j10l2), (3, .int j10l3), (4, .int j25s0)] → K H locs (F0 m 39 ls [.int j39s0]) := by
            intro j39s0 H locs ls  bj39s0_l bj39s0_u hP hD hS hl
            refine (hK0 _ _ _).mpr ?_
            refine lv_istore (lv' := [(5, .int j39s0), (0, .ref a0), (1, .int a1), (2, .int j10l2), (3, .int j10l3), (4, .int j25s0)]) hx hb dX8_seekRests_39 hl (by decide) rfl (fun ls hl => ?_)
            refine lv_iload_n hx hb dX8_seekRests_41 rfl (lv_at hl 2 rfl) ?_
            refine lv_iload hx hb dX8_seekRests_42 (lv_at hl 5 rfl) ?_
            have J52 : ∀ (j52s0 : Int32) (H : Heap) (locs : List Loc) (ls : Array Slot), (0 : Int) ≤ j52s0.toInt → j52s0.toInt ≤ (1 : Int) → va_P (dC, dI) vwCl [(a0, .inr (8, [a0g_0, a0g_1, a0g_2, a0g_3, a0g_4, a0g_5, a0g_6, a0g_7, a0g_8, a0g_9, a0g_10, a0g_11, a0g_12, a0g_13, a0g_14, a0g_15, a0g_16, a0g_17, a0g_18, a0g_19, a0g_20, a0g_21, a0g_22, a0g_23, a0g_24, a0g_25, a0g_26, a0g_27, a0g_28, a0g_29, a0g_30, a0g_31, a0g_32, a0g_33, a0g_34, a0g_35, a0g_36, Value.int j10a0_37, a0g_38, a0g_39]))] H → va_D A [(a0, .inr (8, [a0g_0, a0g_1, a0g_2, a0g_3, a0g_4, a0g_5, a0g_6, a0g_7, a0g_8, a0g_9, a0g_10, a0g_11, a0g_12, a0g_13, a0g_14, a0g_15, a0g_16, a0g_17, a0g_18, a0g_19, a0g_20, a0g_21, a0g_22, a0g_23, a0g_24, a0g_25, a0g_26, a0g_27, a0g_28, a0g_29, a0g_30, a0g_31, a0g_32, a0g_33, a0g_34, a0g_35, a0g_36, Value.int j10a0_37, a0g_38, a0g_39]))] → va_S A s.heap H locs → lv_has ls 6 [(0, .ref a0), (1, .int a1), (2, .int j10l2), (3, .int j10l3), (4, .int j25s0), (5, .int j39s0)] → K H locs (F0 m 52 ls [.int j52s0, .int a1]) := by
              intro j52s0 H locs ls  bj52s0_l bj52s0_u hP hD hS hl
              refine (hK0 _ _ _).mpr ?_
              refine lv_iload hx hb dX8_seekRests_52 (lv_at hl 5 rfl) ?_
              refine va_calli (va_runS (As := [.int a1, .int j52s0, .int j39s0]) (rest := []) ⟨hx, hb, hml, hown, hts⟩ (c_X8_figureHas l dC dI H.size a1 j52s0 j39s0 ) (va_cwS 3 hts gX8_seekRests_X8_figureHas rfl rfl rfl zd_X8_figureHas.2 ⟨Nat.le_of_ble_eq_true rfl, Nat.le_of_ble_eq_true rfl⟩) ⟨ax_blind (fun _ _ _ _ _ => trivial), ax_pre (zp_P0 hP) (zp_K hK) (zp_D0 hD) (fun _ _ => trivial)⟩ rfl rfl hl.1 rfl (lv_room (Nat.le_of_ble_eq_true rfl)) dX8_seekRests_54 ⟨Nat.le_of_ble_eq_true rfl, Nat.le_of_ble_eq_true rfl⟩) hS (fun q _ h => zp_F0 hD hS hA q h) (zp_F0 hD hS hA) (fun r54 u t H locs ht hvm hw hB hz1 hk1 hS1 => zo0 hB ht hP hD hk1 (zp_F0 hD hS hA) hS1 (fun hP hK1 hD hS => ?_))
              refine lv_iload_n hx hb dX8_seekRests_57 rfl (lv_at hl 1 rfl) ?_
              refine lv_iload hx hb dX8_seekRests_58 (lv_at hl 4 rfl) ?_
              refine lv_iload hx hb dX8_seekRests_60 (lv_at hl 5 rfl) ?_
              refine va_calli (va_runS (As := [.int a1, .int j25s0, .int j39s0]) (rest := [.int r54]) ⟨hx, hb, hml, hown, hts⟩ (c_X8_figureHas l dC dI H.size a1 j25s0 j39s0 ) (va_cwS 3 hts gX8_seekRests_X8_figureHas rfl rfl rfl zd_X8_figureHas.2 ⟨Nat.le_of_ble_eq_true rfl, Nat.le_of_ble_eq_true rfl⟩) ⟨ax_blind (fun _ _ _ _ _ => trivial), ax_pre (zp_P0 hP) (zp_K hK) (zp_D0 hD) (fun _ _ => trivial)⟩ rfl rfl hl.1 rfl (lv_room (Nat.le_of_ble_eq_true rfl)) dX8_seekRests_62 ⟨Nat.le_of_ble_eq_true rfl, Nat.le_of_ble_eq_true rfl⟩) hS (fun q _ h => zp_F0 hD hS hA q h) (zp_F0 hD hS hA) (fun r62 u t H locs ht hvm hw hB hz1 hk1 hS1 => zo0 hB ht hP hD hk1 (zp_F0 hD hS hA) hS1 (fun hP hK1 hD hS => ?_))
              have J117 : ∀ (j117l2 : Int32) (j117a0_37 : Int32) (H : Heap) (locs : List Loc) (ls : Array Slot), va_P (dC, dI) vwCl [(a0, .inr (8, [a0g_0, a0g_1, a0g_2, a0g_3, a0g_4, a0g_5, a0g_6, a0g_7, a0g_8, a0g_9, a0g_10, a0g_11, a0g_12, a0g_13, a0g_14, a0g_15, a0g_16, a0g_17, a0g_18, a0g_19, a0g_20, a0g_21, a0g_22, a0g_23, a0g_24, a0g_25, a0g_26, a0g_27, a0g_28, a0g_29, a0g_30, a0g_31, a0g_32, a0g_33, a0g_34, a0g_35, a0g_36, Value.int j117a0_37, a0g_38, a0g_39]))] H → va_D A [(a0, .inr (8, [a0g_0, a0g_1, a0g_2, a0g_3, a0g_4, a0g_5, a0g_6, a0g_7, a0g_8, a0g_9, a0g_10, a0g_11, a0g_12, a0g_13, a0g_14, a0g_15, a0g_16, a0g_17, a0g_18, a0g_19, a0g_20, a0g_21, a0g_22, a0g_23, a0g_24, a0g_25, a0g_26, a0g_27, a0g_28, a0g_29, a0g_30, a0g_31, a0g_32, a0g_33, a0g_34, a0g_35, a0g_36, Value.int j117a0_37, a0g_38, a0g_39]))] → va_S A s.heap H locs → lv_has ls 6 [(0, .ref a0), (1, .int a1), (2, .int j117l2), (3, .int j10l3)] → K H locs (F0 m 117 ls []) := by
                intro j117l2 j117a0_37 H locs ls   hP hD hS hl
                refine (hK0 _ _ _).mpr ?_
                obtain ⟨x117, ex117⟩ : ∃ y : Int32, y = j10l3 + Int32.ofInt 1 := ⟨_, rfl⟩
                have qx117 : x117.toInt = j10l3.toInt + 1 := ai_inc ex117 (by decide) (by decide) u12f_j10l3 (by decide)
                have bx117 : (1 : Int) ≤ x117.toInt ∧ x117.toInt ≤ 4 := ⟨by rw [qx117]; exact Int.add_le_add bj10l3_l (Int.le_refl _), by rw [qx117]; exact Int.add_le_add u12f_j10l3 (Int.le_refl _)⟩
                refine lv_iinc (v := x117) (lv' := [(3, .int x117), (0, .ref a0), (1, .int a1), (2, .int j117l2)]) hx hb dX8_seekRests_117 hl (k := 3) rfl ex117.symm (by decide) rfl (fun ls hl => ?_)
                refine lv_goto (tgt := 10) hx hb dX8_seekRests_120 (by decide) ?_
                exact (hK0 _ _ _).mp (ih10 x117 j117l2 j117a0_37 _ _ _ (by first | exact zg_s hm10 qx117 | (have h0 := qx117; omega)) (Int.le_trans zq4 bx117.1) bx117.2 hP hD hS (lv_sub hl [1, 2, 3, 0] rfl))
              refine lv_icmp_gt (tgt := 117) hx hb dX8_seekRests_65 (by decide) (fun c65 => ?_) (fun c65 => ?_)
              · have gc65 := ai_lt c65
                have u65t_r62 : r62.toInt ≤ (2147483646 : Int) := ai_lthi gc65 (ai_max r54)
                have l65t_r54 : (-2147483647 : Int) ≤ r54.toInt := ai_ltlo gc65 (ai_min r62)
                exact (hK0 _ _ _).mp (J117 j10l2 j10a0_37 _ _ _   hP hD hS (lv_sub hl [0, 1, 2, 3] rfl))
              · have gc65 := ai_nlt c65
                refine lv_iload hx hb dX8_seekRests_68 (lv_at hl 4 rfl) ?_
                refine lv_iload hx hb dX8_seekRests_70 (lv_at hl 5 rfl) ?_
                have J80 : ∀ (j80s0 : Int32) (H : Heap) (locs : List Loc) (ls : Array Slot), (0 : Int) ≤ j80s0.toInt → j80s0.toInt ≤ (1 : Int) → va_P (dC, dI) vwCl [(a0, .inr (8, [a0g_0, a0g_1, a0g_2, a0g_3, a0g_4, a0g_5, a0g_6, a0g_7, a0g_8, a0g_9, a0g_10, a0g_11, a0g_12, a0g_13, a0g_14, a0g_15, a0g_16, a0g_17, a0g_18, a0g_19, a0g_20, a0g_21, a0g_22, a0g_23, a0g_24, a0g_25, a0g_26, a0g_27, a0g_28, a0g_29, a0g_30, a0g_31, a0g_32, a0g_33, a0g_34, a0g_35, a0g_36, Value.int j10a0_37, a0g_38, a0g_39]))] H → va_D A [(a0, .inr (8, [a0g_0, a0g_1, a0g_2, a0g_3, a0g_4, a0g_5, a0g_6, a0g_7, a0g_8, a0g_9, a0g_10, a0g_11, a0g_12, a0g_13, a0g_14, a0g_15, a0g_16, a0g_17, a0g_18, a0g_19, a0g_20, a0g_21, a0g_22, a0g_23, a0g_24, a0g_25, a0g_26, a0g_27, a0g_28, a0g_29, a0g_30, a0g_31, a0g_32, a0g_33, a0g_34, a0g_35, a0g_36, Value.int j10a0_37, a0g_38, a0g_39]))] → va_S A s.heap H locs → lv_has ls 6 [(0, .ref a0), (1, .int a1), (2, .int j10l2), (3, .int j10l3), (4, .int j25s0), (5, .int j39s0)] → K H locs (F0 m 80 ls [.int j80s0, .int j25s0]) := by
                  intro j80s0 H locs ls  bj80s0_l bj80s0_u hP hD hS hl
                  refine (hK0 _ _ _).mpr ?_
                  refine va_calli (va_runS (As := [.int j25s0, .int j80s0]) (rest := []) ⟨hx, hb, hml, hown, hts⟩ (c_X8_otherHas l dC dI H.size j25s0 j80s0 ) (va_cwS 2 hts gX8_seekRests_X8_otherHas rfl rfl rfl zd_X8_otherHas.2 ⟨Nat.le_of_ble_eq_true rfl, Nat.le_of_ble_eq_true rfl⟩) ⟨ax_blind (fun _ _ _ _ _ => trivial), ax_pre (zp_P0 hP) (zp_K hK) (zp_D0 hD) (fun _ _ => trivial)⟩ rfl rfl hl.1 rfl (lv_room (Nat.le_of_ble_eq_true rfl)) dX8_seekRests_80 ⟨Nat.le_of_ble_eq_true rfl, Nat.le_of_ble_eq_true rfl⟩) hS (fun q _ h => zp_F0 hD hS hA q h) (zp_F0 hD hS hA) (fun r80 u t H locs ht hvm hw hB hz1 hk1 hS1 => zo0 hB ht hP hD hk1 (zp_F0 hD hS hA) hS1 (fun hP hK1 hD hS => ?_))
                  rcases hw with hw | hw | hw | hw
                  · subst hw
                    refine lv_iload hx hb dX8_seekRests_83 (lv_at hl 4 rfl) ?_
                    refine lv_iload hx hb dX8_seekRests_85 (lv_at hl 5 rfl) ?_
                    refine va_calli (va_runS (As := [.int j25s0, .int j39s0]) (rest := [.int 3]) ⟨hx, hb, hml, hown, hts⟩ (c_X8_otherHas l dC dI H.size j25s0 j39s0 ) (va_cwS 2 hts gX8_seekRests_X8_otherHas rfl rfl rfl zd_X8_otherHas.2 ⟨Nat.le_of_ble_eq_true rfl, Nat.le_of_ble_eq_true rfl⟩) ⟨ax_blind (fun _ _ _ _ _ => trivial), ax_pre (zp_P0 hP) (zp_K hK) (zp_D0 hD) (fun _ _ => trivial)⟩ rfl rfl hl.1 rfl (lv_room (Nat.le_of_ble_eq_true rfl)) dX8_seekRests_87 ⟨Nat.le_of_ble_eq_true rfl, Nat.le_of_ble_eq_true rfl⟩) hS (fun q _ h => zp_F0 hD hS hA q h) (zp_F0 hD hS hA) (fun r87 u t H locs ht hvm hw hB hz1 hk1 hS1 => zo0 hB ht hP hD hk1 (zp_F0 hD hS hA) hS1 (fun hP hK1 hD hS => ?_))
                    rcases hw with hw | hw | hw | hw
                    · subst hw
                      refine lv_icmp_le (tgt := 96) hx hb dX8_seekRests_90 (by decide) (fun _ => ?_) (fun c90 => absurd (by decide +kernel) c90)
                      refine lv_iload_n hx hb dX8_seekRests_96 rfl (lv_at hl 2 rfl) ?_
                      have J114 : ∀ (j114a0_37 : Int32) (H : Heap) (locs : List Loc) (ls : Array Slot), va_P (dC, dI) vwCl [(a0, .inr (8, [a0g_0, a0g_1, a0g_2, a0g_3, a0g_4, a0g_5, a0g_6, a0g_7, a0g_8, a0g_9, a0g_10, a0g_11, a0g_12, a0g_13, a0g_14, a0g_15, a0g_16, a0g_17, a0g_18, a0g_19, a0g_20, a0g_21, a0g_22, a0g_23, a0g_24, a0g_25, a0g_26, a0g_27, a0g_28, a0g_29, a0g_30, a0g_31, a0g_32, a0g_33, a0g_34, a0g_35, a0g_36, Value.int j114a0_37, a0g_38, a0g_39]))] H → va_D A [(a0, .inr (8, [a0g_0, a0g_1, a0g_2, a0g_3, a0g_4, a0g_5, a0g_6, a0g_7, a0g_8, a0g_9, a0g_10, a0g_11, a0g_12, a0g_13, a0g_14, a0g_15, a0g_16, a0g_17, a0g_18, a0g_19, a0g_20, a0g_21, a0g_22, a0g_23, a0g_24, a0g_25, a0g_26, a0g_27, a0g_28, a0g_29, a0g_30, a0g_31, a0g_32, a0g_33, a0g_34, a0g_35, a0g_36, Value.int j114a0_37, a0g_38, a0g_39]))] → va_S A s.heap H locs → lv_has ls 6 [(0, .ref a0), (1, .int a1), (2, .int j10l2), (3, .int j10l3)] → K H locs (F0 m 114 ls []) := by
                        intro j114a0_37 H locs ls   hP hD hS hl
                        refine (hK0 _ _ _).mpr ?_
                        obtain ⟨x114, ex114⟩ : ∃ y : Int32, y = j10l2 + Int32.ofInt 1 := ⟨_, rfl⟩
                        refine lv_iinc (v := x114) (lv' := [(2, .int x114), (0, .ref a0), (1, .int a1), (3, .int j10l3)]) hx hb dX8_seekRests_114 hl (k := 2) rfl ex114.symm (by decide) rfl (fun ls hl => ?_)
                        exact (hK0 _ _ _).mp (J117 x114 j114a0_37 _ _ _   hP hD hS (lv_sub hl [1, 2, 0, 3] rfl))
                      refine lv_if_ne (tgt := 114) hx hb dX8_seekRests_97 (by decide) (fun c97 => ?_) (fun c97 => ?_)
                      · have gc97 := ai_ne c97
                        exact (hK0 _ _ _).mp (J114 j10a0_37 _ _ _   hP hD hS (lv_sub hl [0, 1, 2, 3] rfl))
                      · have gc97 := ai_eq c97
                        have u97f_j10l2 : j10l2.toInt ≤ (0 : Int) := Int.le_trans (Int.le_of_eq gc97) zq6
                        have l97f_j10l2 : (0 : Int) ≤ j10l2.toInt := Int.le_trans zq5 (Int.le_of_eq gc97.symm)
                        refine lv_aload_n hx hb dX8_seekRests_100 rfl (lv_at hl 0 rfl) ?_
                        refine lv_bipush (v := 10) hx hb dX8_seekRests_101 zk_bipush_10 ?_
                        refine lv_iload_n hx hb dX8_seekRests_103 rfl (lv_at hl 3 rfl) ?_
                        refine lv_iconst (v := 2) hx hb dX8_seekRests_104 zk_iconst_2 ?_
                        refine lv_idiv hx hb dX8_seekRests_105 (by decide +kernel) ?_
                        refine lv_topi (fun x105 ex105 => ?_)
                        have qx105 := ai_div ex105 ⟨bj10l3_l, u12f_j10l3⟩ (Int.lt_of_lt_of_le zq100 zq12)
                        have u105z_x105 : x105.toInt ≤ (1 : Int) := (by have h1 := qx105.1; have h2 := u12f_j10l3; have h3 : (2 : Int32).toInt = 2 := (by decide); rw [h3] at h1; omega)
                        refine lv_imul hx hb dX8_seekRests_106 ?_
                        refine lv_topi (fun x106 ex106 => ?_)
                        have qx106 : x106.toInt = (10 : Int32).toInt * x105.toInt ∧ (0 : Int) ≤ x106.toInt ∧ x106.toInt ≤ 10 := ai_mul ex106 ⟨zq26, zq27⟩ ⟨qx105.2.1, u105z_x105⟩ (by decide) (by decide) zq103
                        have wx106 : x106.toInt = 10 * x105.toInt := qx106.1
                        refine lv_iload_n hx hb dX8_seekRests_107 rfl (lv_at hl 3 rfl) ?_
                        refine lv_iconst (v := 2) hx hb dX8_seekRests_108 zk_iconst_2 ?_
                        refine lv_irem hx hb dX8_seekRests_109 (by decide +kernel) ?_
                        refine lv_topi (fun x109 ex109 => ?_)
                        have qx109 := ai_rem2 ex109 bj10l3_l (Int.lt_of_lt_of_le zq100 zq12) zq13
                        have wx109 : x109.toInt = j10l3.toInt % 2 := qx109.1
                        refine lv_iadd hx hb dX8_seekRests_110 ?_
                        refine lv_topi (fun x110 ex110 => ?_)
                        have qx110 : x110.toInt = x106.toInt + x109.toInt := ai_add ex110 ⟨qx106.2.1, qx106.2.2⟩ ⟨qx109.2.1, qx109.2.2⟩ (by decide) (by decide)
                        have bx110 : (0 : Int) ≤ x110.toInt ∧ x110.toInt ≤ 11 := ⟨by rw [qx110]; exact Int.add_le_add qx106.2.1 qx109.2.1, by rw [qx110]; exact Int.add_le_add qx106.2.2 qx109.2.2⟩
                        refine va_put (D := (dC, dI)) (ci := 8) (v := .int x110) (ty := .int) (C := RX8) (T := TX8) (N := 40) hx hb hts zi_X8_seekRests_8 tyX8 tyX8_ok nmX8 hown hK hP hD hS 0 rfl rfl 37 (by decide) (hts (.fieldLink RX8 359 "WaxTurnsModel" "firstRest" "I") (List.mem_cons_of_mem _ (List.mem_append_left _ (List.mem_of_getElem? (i := 0) rfl)))) (fun _ h9 => h9) rfl (tyX8_ok 37 (by decide)) rfl rfl (Nat.le_of_ble_eq_true rfl) dX8_seekRests_111 (fun H locs hP hD hS => ?_)
                        refine zs_0 (y := (a0, .inr (8, [a0g_0, a0g_1, a0g_2, a0g_3, a0g_4, a0g_5, a0g_6, a0g_7, a0g_8, a0g_9, a0g_10, a0g_11, a0g_12, a0g_13, a0g_14, a0g_15, a0g_16, a0g_17, a0g_18, a0g_19, a0g_20, a0g_21, a0g_22, a0g_23, a0g_24, a0g_25, a0g_26, a0g_27, a0g_28, a0g_29, a0g_30, a0g_31, a0g_32, a0g_33, a0g_34, a0g_35, a0g_36, Value.int x110, a0g_38, a0g_39]))) hP hD rfl (fun hP hD => ?_)
                        exact (hK0 _ _ _).mp (J114 x110 _ _ _   hP hD hS (lv_sub hl [0, 1, 2, 3] rfl))
                    · obtain ⟨hw, h87_0, h87_1, h87_2, h87_3⟩ := hw
                      subst hw
                      have l87k1_j25s0 : (0 : Int) ≤ j25s0.toInt := bj25s0_l
                      have u87k1_j25s0 : j25s0.toInt ≤ (0 : Int) := h87_1
                      have l87k1_j39s0 : (0 : Int) ≤ j39s0.toInt := bj39s0_l
                      have u87k1_j39s0 : j39s0.toInt ≤ (0 : Int) := h87_3
                      refine lv_icmp_le (tgt := 96) hx hb dX8_seekRests_90 (by decide) (fun c90 => absurd c90 (by decide +kernel)) (fun _ => ?_)
                      refine lv_goto (tgt := 117) hx hb dX8_seekRests_93 (by decide) ?_
                      exact (hK0 _ _ _).mp (J117 j10l2 j10a0_37 _ _ _   hP hD hS (lv_sub hl [0, 1, 2, 3] rfl))
                    · obtain ⟨hw, h87_0, h87_1⟩ := hw
                      subst hw
                      have l87k2_j39s0 : (0 : Int) ≤ j39s0.toInt := bj39s0_l
                      have u87k2_j39s0 : j39s0.toInt ≤ (0 : Int) := h87_1
                      refine lv_icmp_le (tgt := 96) hx hb dX8_seekRests_90 (by decide) (fun c90 => absurd c90 (by decide +kernel)) (fun _ => ?_)
                      refine lv_goto (tgt := 117) hx hb dX8_seekRests_93 (by decide) ?_
                      exact (hK0 _ _ _).mp (J117 j10l2 j10a0_37 _ _ _   hP hD hS (lv_sub hl [0, 1, 2, 3] rfl))
                    · obtain ⟨hw, h87_0, h87_1⟩ := hw
                      subst hw
                      have l87k3_j25s0 : (0 : Int) ≤ j25s0.toInt := bj25s0_l
                      have u87k3_j25s0 : j25s0.toInt ≤ (0 : Int) := h87_1
                      refine lv_icmp_le (tgt := 96) hx hb dX8_seekRests_90 (by decide) (fun c90 => absurd c90 (by decide +kernel)) (fun _ => ?_)
                      refine lv_goto (tgt := 117) hx hb dX8_seekRests_93 (by decide) ?_
                      exact (hK0 _ _ _).mp (J117 j10l2 j10a0_37 _ _ _   hP hD hS (lv_sub hl [0, 1, 2, 3] rfl))
                  · obtain ⟨hw, h80_0, h80_1, h80_2, h80_3⟩ := hw
                    subst hw
                    have l80k1_j25s0 : (0 : Int) ≤ j25s0.toInt := bj25s0_l
                    have u80k1_j25s0 : j25s0.toInt ≤ (0 : Int) := h80_1
                    have l80k1_j80s0 : (0 : Int) ≤ j80s0.toInt := bj80s0_l
                    have u80k1_j80s0 : j80s0.toInt ≤ (0 : Int) := h80_3
                    refine lv_iload hx hb dX8_seekRests_83 (lv_at hl 4 rfl) ?_
                    refine lv_iload hx hb dX8_seekRests_85 (lv_at hl 5 rfl) ?_
                    refine va_calli (va_runS (As := [.int j25s0, .int j39s0]) (rest := [.int 1]) ⟨hx, hb, hml, hown, hts⟩ (c_X8_otherHas l dC dI H.size j25s0 j39s0 ) (va_cwS 2 hts gX8_seekRests_X8_otherHas rfl rfl rfl zd_X8_otherHas.2 ⟨Nat.le_of_ble_eq_true rfl, Nat.le_of_ble_eq_true rfl⟩) ⟨ax_blind (fun _ _ _ _ _ => trivial), ax_pre (zp_P0 hP) (zp_K hK) (zp_D0 hD) (fun _ _ => trivial)⟩ rfl rfl hl.1 rfl (lv_room (Nat.le_of_ble_eq_true rfl)) dX8_seekRests_87 ⟨Nat.le_of_ble_eq_true rfl, Nat.le_of_ble_eq_true rfl⟩) hS (fun q _ h => zp_F0 hD hS hA q h) (zp_F0 hD hS hA) (fun r87 u t H locs ht hvm hw hB hz1 hk1 hS1 => zo0 hB ht hP hD hk1 (zp_F0 hD hS hA) hS1 (fun hP hK1 hD hS => ?_))
                    rcases hw with hw | hw | hw | hw
                    · subst hw
                      refine lv_icmp_le (tgt := 96) hx hb dX8_seekRests_90 (by decide) (fun _ => ?_) (fun c90 => absurd (by decide +kernel) c90)
                      refine lv_iload_n hx hb dX8_seekRests_96 rfl (lv_at hl 2 rfl) ?_
                      have J114 : ∀ (j114a0_37 : Int32) (H : Heap) (locs : List Loc) (ls : Array Slot), va_P (dC, dI) vwCl [(a0, .inr (8, [a0g_0, a0g_1, a0g_2, a0g_3, a0g_4, a0g_5, a0g_6, a0g_7, a0g_8, a0g_9, a0g_10, a0g_11, a0g_12, a0g_13, a0g_14, a0g_15, a0g_16, a0g_17, a0g_18, a0g_19, a0g_20, a0g_21, a0g_22, a0g_23, a0g_24, a0g_25, a0g_26, a0g_27, a0g_28, a0g_29, a0g_30, a0g_31, a0g_32, a0g_33, a0g_34, a0g_35, a0g_36, Value.int j114a0_37, a0g_38, a0g_39]))] H → va_D A [(a0, .inr (8, [a0g_0, a0g_1, a0g_2, a0g_3, a0g_4, a0g_5, a0g_6, a0g_7, a0g_8, a0g_9, a0g_10, a0g_11, a0g_12, a0g_13, a0g_14, a0g_15, a0g_16, a0g_17, a0g_18, a0g_19, a0g_20, a0g_21, a0g_22, a0g_23, a0g_24, a0g_25, a0g_26, a0g_27, a0g_28, a0g_29, a0g_30, a0g_31, a0g_32, a0g_33, a0g_34, a0g_35, a0g_36, Value.int j114a0_37, a0g_38, a0g_39]))] → va_S A s.heap H locs → lv_has ls 6 [(0, .ref a0), (1, .int a1), (2, .int j10l2), (3, .int j10l3)] → K H locs (F0 m 114 ls []) := by
                        intro j114a0_37 H locs ls   hP hD hS hl
                        refine (hK0 _ _ _).mpr ?_
                        obtain ⟨x114, ex114⟩ : ∃ y : Int32, y = j10l2 + Int32.ofInt 1 := ⟨_, rfl⟩
                        refine lv_iinc (v := x114) (lv' := [(2, .int x114), (0, .ref a0), (1, .int a1), (3, .int j10l3)]) hx hb dX8_seekRests_114 hl (k := 2) rfl ex114.symm (by decide) rfl (fun ls hl => ?_)
                        exact (hK0 _ _ _).mp (J117 x114 j114a0_37 _ _ _   hP hD hS (lv_sub hl [1, 2, 0, 3] rfl))
                      refine lv_if_ne (tgt := 114) hx hb dX8_seekRests_97 (by decide) (fun c97 => ?_) (fun c97 => ?_)
                      · have gc97 := ai_ne c97
                        exact (hK0 _ _ _).mp (J114 j10a0_37 _ _ _   hP hD hS (lv_sub hl [0, 1, 2, 3] rfl))
                      · have gc97 := ai_eq c97
                        have u97f_j10l2 : j10l2.toInt ≤ (0 : Int) := Int.le_trans (Int.le_of_eq gc97) zq6
                        have l97f_j10l2 : (0 : Int) ≤ j10l2.toInt := Int.le_trans zq5 (Int.le_of_eq gc97.symm)
                        refine lv_aload_n hx hb dX8_seekRests_100 rfl (lv_at hl 0 rfl) ?_
                        refine lv_bipush (v := 10) hx hb dX8_seekRests_101 zk_bipush_10 ?_
                        refine lv_iload_n hx hb dX8_seekRests_103 rfl (lv_at hl 3 rfl) ?_
                        refine lv_iconst (v := 2) hx hb dX8_seekRests_104 zk_iconst_2 ?_
                        refine lv_idiv hx hb dX8_seekRests_105 (by decide +kernel) ?_
                        refine lv_topi (fun x105 ex105 => ?_)
                        have qx105 := ai_div ex105 ⟨bj10l3_l, u12f_j10l3⟩ (Int.lt_of_lt_of_le zq100 zq12)
                        have u105z_x105 : x105.toInt ≤ (1 : Int) := (by have h1 := qx105.1; have h2 := u12f_j10l3; have h3 : (2 : Int32).toInt = 2 := (by decide); rw [h3] at h1; omega)
                        refine lv_imul hx hb dX8_seekRests_106 ?_
                        refine lv_topi (fun x106 ex106 => ?_)
                        have qx106 : x106.toInt = (10 : Int32).toInt * x105.toInt ∧ (0 : Int) ≤ x106.toInt ∧ x106.toInt ≤ 10 := ai_mul ex106 ⟨zq26, zq27⟩ ⟨qx105.2.1, u105z_x105⟩ (by decide) (by decide) zq103
                        have wx106 : x106.toInt = 10 * x105.toInt := qx106.1
                        refine lv_iload_n hx hb dX8_seekRests_107 rfl (lv_at hl 3 rfl) ?_
                        refine lv_iconst (v := 2) hx hb dX8_seekRests_108 zk_iconst_2 ?_
                        refine lv_irem hx hb dX8_seekRests_109 (by decide +kernel) ?_
                        refine lv_topi (fun x109 ex109 => ?_)
                        have qx109 := ai_rem2 ex109 bj10l3_l (Int.lt_of_lt_of_le zq100 zq12) zq13
                        have wx109 : x109.toInt = j10l3.toInt % 2 := qx109.1
                        refine lv_iadd hx hb dX8_seekRests_110 ?_
                        refine lv_topi (fun x110 ex110 => ?_)
                        have qx110 : x110.toInt = x106.toInt + x109.toInt := ai_add ex110 ⟨qx106.2.1, qx106.2.2⟩ ⟨qx109.2.1, qx109.2.2⟩ (by decide) (by decide)
                        have bx110 : (0 : Int) ≤ x110.toInt ∧ x110.toInt ≤ 11 := ⟨by rw [qx110]; exact Int.add_le_add qx106.2.1 qx109.2.1, by rw [qx110]; exact Int.add_le_add qx106.2.2 qx109.2.2⟩
                        refine va_put (D := (dC, dI)) (ci := 8) (v := .int x110) (ty := .int) (C := RX8) (T := TX8) (N := 40) hx hb hts zi_X8_seekRests_8 tyX8 tyX8_ok nmX8 hown hK hP hD hS 0 rfl rfl 37 (by decide) (hts (.fieldLink RX8 359 "WaxTurnsModel" "firstRest" "I") (List.mem_cons_of_mem _ (List.mem_append_left _ (List.mem_of_getElem? (i := 0) rfl)))) (fun _ h9 => h9) rfl (tyX8_ok 37 (by decide)) rfl rfl (Nat.le_of_ble_eq_true rfl) dX8_seekRests_111 (fun H locs hP hD hS => ?_)
                        refine zs_0 (y := (a0, .inr (8, [a0g_0, a0g_1, a0g_2, a0g_3, a0g_4, a0g_5, a0g_6, a0g_7, a0g_8, a0g_9, a0g_10, a0g_11, a0g_12, a0g_13, a0g_14, a0g_15, a0g_16, a0g_17, a0g_18, a0g_19, a0g_20, a0g_21, a0g_22, a0g_23, a0g_24, a0g_25, a0g_26, a0g_27, a0g_28, a0g_29, a0g_30, a0g_31, a0g_32, a0g_33, a0g_34, a0g_35, a0g_36, Value.int x110, a0g_38, a0g_39]))) hP hD rfl (fun hP hD => ?_)
                        exact (hK0 _ _ _).mp (J114 x110 _ _ _   hP hD hS (lv_sub hl [0, 1, 2, 3] rfl))
                    · obtain ⟨hw, h87_0, h87_1, h87_2, h87_3⟩ := hw
                      subst hw
                      have l87k1_j25s0 : (0 : Int) ≤ j25s0.toInt := l80k1_j25s0
                      have u87k1_j25s0 : j25s0.toInt ≤ (0 : Int) := u80k1_j25s0
                      have l87k1_j39s0 : (0 : Int) ≤ j39s0.toInt := bj39s0_l
                      have u87k1_j39s0 : j39s0.toInt ≤ (0 : Int) := h87_3
                      refine lv_icmp_le (tgt := 96) hx hb dX8_seekRests_90 (by decide) (fun _ => ?_) (fun c90 => absurd (by decide +kernel) c90)
                      refine lv_iload_n hx hb dX8_seekRests_96 rfl (lv_at hl 2 rfl) ?_
                      have J114 : ∀ (j114a0_37 : Int32) (H : Heap) (locs : List Loc) (ls : Array Slot), va_P (dC, dI) vwCl [(a0, .inr (8, [a0g_0, a0g_1, a0g_2, a0g_3, a0g_4, a0g_5, a0g_6, a0g_7, a0g_8, a0g_9, a0g_10, a0g_11, a0g_12, a0g_13, a0g_14, a0g_15, a0g_16, a0g_17, a0g_18, a0g_19, a0g_20, a0g_21, a0g_22, a0g_23, a0g_24, a0g_25, a0g_26, a0g_27, a0g_28, a0g_29, a0g_30, a0g_31, a0g_32, a0g_33, a0g_34, a0g_35, a0g_36, Value.int j114a0_37, a0g_38, a0g_39]))] H → va_D A [(a0, .inr (8, [a0g_0, a0g_1, a0g_2, a0g_3, a0g_4, a0g_5, a0g_6, a0g_7, a0g_8, a0g_9, a0g_10, a0g_11, a0g_12, a0g_13, a0g_14, a0g_15, a0g_16, a0g_17, a0g_18, a0g_19, a0g_20, a0g_21, a0g_22, a0g_23, a0g_24, a0g_25, a0g_26, a0g_27, a0g_28, a0g_29, a0g_30, a0g_31, a0g_32, a0g_33, a0g_34, a0g_35, a0g_36, Value.int j114a0_37, a0g_38, a0g_39]))] → va_S A s.heap H locs → lv_has ls 6 [(0, .ref a0), (1, .int a1), (2, .int j10l2), (3, .int j10l3)] → K H locs (F0 m 114 ls []) := by
                        intro j114a0_37 H locs ls   hP hD hS hl
                        refine (hK0 _ _ _).mpr ?_
                        obtain ⟨x114, ex114⟩ : ∃ y : Int32, y = j10l2 + Int32.ofInt 1 := ⟨_, rfl⟩
                        refine lv_iinc (v := x114) (lv' := [(2, .int x114), (0, .ref a0), (1, .int a1), (3, .int j10l3)]) hx hb dX8_seekRests_114 hl (k := 2) rfl ex114.symm (by decide) rfl (fun ls hl => ?_)
                        exact (hK0 _ _ _).mp (J117 x114 j114a0_37 _ _ _   hP hD hS (lv_sub hl [1, 2, 0, 3] rfl))
                      refine lv_if_ne (tgt := 114) hx hb dX8_seekRests_97 (by decide) (fun c97 => ?_) (fun c97 => ?_)
                      · have gc97 := ai_ne c97
                        exact (hK0 _ _ _).mp (J114 j10a0_37 _ _ _   hP hD hS (lv_sub hl [0, 1, 2, 3] rfl))
                      · have gc97 := ai_eq c97
                        have u97f_j10l2 : j10l2.toInt ≤ (0 : Int) := Int.le_trans (Int.le_of_eq gc97) zq6
                        have l97f_j10l2 : (0 : Int) ≤ j10l2.toInt := Int.le_trans zq5 (Int.le_of_eq gc97.symm)
                        refine lv_aload_n hx hb dX8_seekRests_100 rfl (lv_at hl 0 rfl) ?_
                        refine lv_bipush (v := 10) hx hb dX8_seekRests_101 zk_bipush_10 ?_
                        refine lv_iload_n hx hb dX8_seekRests_103 rfl (lv_at hl 3 rfl) ?_
                        refine lv_iconst (v := 2) hx hb dX8_seekRests_104 zk_iconst_2 ?_
                        refine lv_idiv hx hb dX8_seekRests_105 (by decide +kernel) ?_
                        refine lv_topi (fun x105 ex105 => ?_)
                        have qx105 := ai_div ex105 ⟨bj10l3_l, u12f_j10l3⟩ (Int.lt_of_lt_of_le zq100 zq12)
                        have u105z_x105 : x105.toInt ≤ (1 : Int) := (by have h1 := qx105.1; have h2 := u12f_j10l3; have h3 : (2 : Int32).toInt = 2 := (by decide); rw [h3] at h1; omega)
                        refine lv_imul hx hb dX8_seekRests_106 ?_
                        refine lv_topi (fun x106 ex106 => ?_)
                        have qx106 : x106.toInt = (10 : Int32).toInt * x105.toInt ∧ (0 : Int) ≤ x106.toInt ∧ x106.toInt ≤ 10 := ai_mul ex106 ⟨zq26, zq27⟩ ⟨qx105.2.1, u105z_x105⟩ (by decide) (by decide) zq103
                        have wx106 : x106.toInt = 10 * x105.toInt := qx106.1
                        refine lv_iload_n hx hb dX8_seekRests_107 rfl (lv_at hl 3 rfl) ?_
                        refine lv_iconst (v := 2) hx hb dX8_seekRests_108 zk_iconst_2 ?_
                        refine lv_irem hx hb dX8_seekRests_109 (by decide +kernel) ?_
                        refine lv_topi (fun x109 ex109 => ?_)
                        have qx109 := ai_rem2 ex109 bj10l3_l (Int.lt_of_lt_of_le zq100 zq12) zq13
                        have wx109 : x109.toInt = j10l3.toInt % 2 := qx109.1
                        refine lv_iadd hx hb dX8_seekRests_110 ?_
                        refine lv_topi (fun x110 ex110 => ?_)
                        have qx110 : x110.toInt = x106.toInt + x109.toInt := ai_add ex110 ⟨qx106.2.1, qx106.2.2⟩ ⟨qx109.2.1, qx109.2.2⟩ (by decide) (by decide)
                        have bx110 : (0 : Int) ≤ x110.toInt ∧ x110.toInt ≤ 11 := ⟨by rw [qx110]; exact Int.add_le_add qx106.2.1 qx109.2.1, by rw [qx110]; exact Int.add_le_add qx106.2.2 qx109.2.2⟩
                        refine va_put (D := (dC, dI)) (ci := 8) (v := .int x110) (ty := .int) (C := RX8) (T := TX8) (N := 40) hx hb hts zi_X8_seekRests_8 tyX8 tyX8_ok nmX8 hown hK hP hD hS 0 rfl rfl 37 (by decide) (hts (.fieldLink RX8 359 "WaxTurnsModel" "firstRest" "I") (List.mem_cons_of_mem _ (List.mem_append_left _ (List.mem_of_getElem? (i := 0) rfl)))) (fun _ h9 => h9) rfl (tyX8_ok 37 (by decide)) rfl rfl (Nat.le_of_ble_eq_true rfl) dX8_seekRests_111 (fun H locs hP hD hS => ?_)
                        refine zs_0 (y := (a0, .inr (8, [a0g_0, a0g_1, a0g_2, a0g_3, a0g_4, a0g_5, a0g_6, a0g_7, a0g_8, a0g_9, a0g_10, a0g_11, a0g_12, a0g_13, a0g_14, a0g_15, a0g_16, a0g_17, a0g_18, a0g_19, a0g_20, a0g_21, a0g_22, a0g_23, a0g_24, a0g_25, a0g_26, a0g_27, a0g_28, a0g_29, a0g_30, a0g_31, a0g_32, a0g_33, a0g_34, a0g_35, a0g_36, Value.int x110, a0g_38, a0g_39]))) hP hD rfl (fun hP hD => ?_)
                        exact (hK0 _ _ _).mp (J114 x110 _ _ _   hP hD hS (lv_sub hl [0, 1, 2, 3] rfl))
                    · obtain ⟨hw, h87_0, h87_1⟩ := hw
                      subst hw
                      have l87k2_j39s0 : (0 : Int) ≤ j39s0.toInt := bj39s0_l
                      have u87k2_j39s0 : j39s0.toInt ≤ (0 : Int) := h87_1
                      refine lv_icmp_le (tgt := 96) hx hb dX8_seekRests_90 (by decide) (fun c90 => absurd c90 (by decide +kernel)) (fun _ => ?_)
                      refine lv_goto (tgt := 117) hx hb dX8_seekRests_93 (by decide) ?_
                      exact (hK0 _ _ _).mp (J117 j10l2 j10a0_37 _ _ _   hP hD hS (lv_sub hl [0, 1, 2, 3] rfl))
                    · obtain ⟨hw, h87_0, h87_1⟩ := hw
                      subst hw
                      have l87k3_j25s0 : (0 : Int) ≤ j25s0.toInt := l80k1_j25s0
                      have u87k3_j25s0 : j25s0.toInt ≤ (0 : Int) := u80k1_j25s0
                      refine lv_icmp_le (tgt := 96) hx hb dX8_seekRests_90 (by decide) (fun c90 => absurd c90 (by decide +kernel)) (fun _ => ?_)
                      refine lv_goto (tgt := 117) hx hb dX8_seekRests_93 (by decide) ?_
                      exact (hK0 _ _ _).mp (J117 j10l2 j10a0_37 _ _ _   hP hD hS (lv_sub hl [0, 1, 2, 3] rfl))
                  · obtain ⟨hw, h80_0, h80_1⟩ := hw
                    subst hw
                    have l80k2_j80s0 : (0 : Int) ≤ j80s0.toInt := bj80s0_l
                    have u80k2_j80s0 : j80s0.toInt ≤ (0 : Int) := h80_1
                    refine lv_iload hx hb dX8_seekRests_83 (lv_at hl 4 rfl) ?_
                    refine lv_iload hx hb dX8_seekRests_85 (lv_at hl 5 rfl) ?_
                    refine va_calli (va_runS (As := [.int j25s0, .int j39s0]) (rest := [.int 0]) ⟨hx, hb, hml, hown, hts⟩ (c_X8_otherHas l dC dI H.size j25s0 j39s0 ) (va_cwS 2 hts gX8_seekRests_X8_otherHas rfl rfl rfl zd_X8_otherHas.2 ⟨Nat.le_of_ble_eq_true rfl, Nat.le_of_ble_eq_true rfl⟩) ⟨ax_blind (fun _ _ _ _ _ => trivial), ax_pre (zp_P0 hP) (zp_K hK) (zp_D0 hD) (fun _ _ => trivial)⟩ rfl rfl hl.1 rfl (lv_room (Nat.le_of_ble_eq_true rfl)) dX8_seekRests_87 ⟨Nat.le_of_ble_eq_true rfl, Nat.le_of_ble_eq_true rfl⟩) hS (fun q _ h => zp_F0 hD hS hA q h) (zp_F0 hD hS hA) (fun r87 u t H locs ht hvm hw hB hz1 hk1 hS1 => zo0 hB ht hP hD hk1 (zp_F0 hD hS hA) hS1 (fun hP hK1 hD hS => ?_))
                    rcases hw with hw | hw | hw | hw
                    · subst hw
                      refine lv_icmp_le (tgt := 96) hx hb dX8_seekRests_90 (by decide) (fun _ => ?_) (fun c90 => absurd (by decide +kernel) c90)
                      refine lv_iload_n hx hb dX8_seekRests_96 rfl (lv_at hl 2 rfl) ?_
                      have J114 : ∀ (j114a0_37 : Int32) (H : Heap) (locs : List Loc) (ls : Array Slot), va_P (dC, dI) vwCl [(a0, .inr (8, [a0g_0, a0g_1, a0g_2, a0g_3, a0g_4, a0g_5, a0g_6, a0g_7, a0g_8, a0g_9, a0g_10, a0g_11, a0g_12, a0g_13, a0g_14, a0g_15, a0g_16, a0g_17, a0g_18, a0g_19, a0g_20, a0g_21, a0g_22, a0g_23, a0g_24, a0g_25, a0g_26, a0g_27, a0g_28, a0g_29, a0g_30, a0g_31, a0g_32, a0g_33, a0g_34, a0g_35, a0g_36, Value.int j114a0_37, a0g_38, a0g_39]))] H → va_D A [(a0, .inr (8, [a0g_0, a0g_1, a0g_2, a0g_3, a0g_4, a0g_5, a0g_6, a0g_7, a0g_8, a0g_9, a0g_10, a0g_11, a0g_12, a0g_13, a0g_14, a0g_15, a0g_16, a0g_17, a0g_18, a0g_19, a0g_20, a0g_21, a0g_22, a0g_23, a0g_24, a0g_25, a0g_26, a0g_27, a0g_28, a0g_29, a0g_30, a0g_31, a0g_32, a0g_33, a0g_34, a0g_35, a0g_36, Value.int j114a0_37, a0g_38, a0g_39]))] → va_S A s.heap H locs → lv_has ls 6 [(0, .ref a0), (1, .int a1), (2, .int j10l2), (3, .int j10l3)] → K H locs (F0 m 114 ls []) := by
                        intro j114a0_37 H locs ls   hP hD hS hl
                        refine (hK0 _ _ _).mpr ?_
                        obtain ⟨x114, ex114⟩ : ∃ y : Int32, y = j10l2 + Int32.ofInt 1 := ⟨_, rfl⟩
                        refine lv_iinc (v := x114) (lv' := [(2, .int x114), (0, .ref a0), (1, .int a1), (3, .int j10l3)]) hx hb dX8_seekRests_114 hl (k := 2) rfl ex114.symm (by decide) rfl (fun ls hl => ?_)
                        exact (hK0 _ _ _).mp (J117 x114 j114a0_37 _ _ _   hP hD hS (lv_sub hl [1, 2, 0, 3] rfl))
                      refine lv_if_ne (tgt := 114) hx hb dX8_seekRests_97 (by decide) (fun c97 => ?_) (fun c97 => ?_)
                      · have gc97 := ai_ne c97
                        exact (hK0 _ _ _).mp (J114 j10a0_37 _ _ _   hP hD hS (lv_sub hl [0, 1, 2, 3] rfl))
                      · have gc97 := ai_eq c97
                        have u97f_j10l2 : j10l2.toInt ≤ (0 : Int) := Int.le_trans (Int.le_of_eq gc97) zq6
                        have l97f_j10l2 : (0 : Int) ≤ j10l2.toInt := Int.le_trans zq5 (Int.le_of_eq gc97.symm)
                        refine lv_aload_n hx hb dX8_seekRests_100 rfl (lv_at hl 0 rfl) ?_
                        refine lv_bipush (v := 10) hx hb dX8_seekRests_101 zk_bipush_10 ?_
                        refine lv_iload_n hx hb dX8_seekRests_103 rfl (lv_at hl 3 rfl) ?_
                        refine lv_iconst (v := 2) hx hb dX8_seekRests_104 zk_iconst_2 ?_
                        refine lv_idiv hx hb dX8_seekRests_105 (by decide +kernel) ?_
                        refine lv_topi (fun x105 ex105 => ?_)
                        have qx105 := ai_div ex105 ⟨bj10l3_l, u12f_j10l3⟩ (Int.lt_of_lt_of_le zq100 zq12)
                        have u105z_x105 : x105.toInt ≤ (1 : Int) := (by have h1 := qx105.1; have h2 := u12f_j10l3; have h3 : (2 : Int32).toInt = 2 := (by decide); rw [h3] at h1; omega)
                        refine lv_imul hx hb dX8_seekRests_106 ?_
                        refine lv_topi (fun x106 ex106 => ?_)
                        have qx106 : x106.toInt = (10 : Int32).toInt * x105.toInt ∧ (0 : Int) ≤ x106.toInt ∧ x106.toInt ≤ 10 := ai_mul ex106 ⟨zq26, zq27⟩ ⟨qx105.2.1, u105z_x105⟩ (by decide) (by decide) zq103
                        have wx106 : x106.toInt = 10 * x105.toInt := qx106.1
                        refine lv_iload_n hx hb dX8_seekRests_107 rfl (lv_at hl 3 rfl) ?_
                        refine lv_iconst (v := 2) hx hb dX8_seekRests_108 zk_iconst_2 ?_
                        refine lv_irem hx hb dX8_seekRests_109 (by decide +kernel) ?_
                        refine lv_topi (fun x109 ex109 => ?_)
                        have qx109 := ai_rem2 ex109 bj10l3_l (Int.lt_of_lt_of_le zq100 zq12) zq13
                        have wx109 : x109.toInt = j10l3.toInt % 2 := qx109.1
                        refine lv_iadd hx hb dX8_seekRests_110 ?_
                        refine lv_topi (fun x110 ex110 => ?_)
                        have qx110 : x110.toInt = x106.toInt + x109.toInt := ai_add ex110 ⟨qx106.2.1, qx106.2.2⟩ ⟨qx109.2.1, qx109.2.2⟩ (by decide) (by decide)
                        have bx110 : (0 : Int) ≤ x110.toInt ∧ x110.toInt ≤ 11 := ⟨by rw [qx110]; exact Int.add_le_add qx106.2.1 qx109.2.1, by rw [qx110]; exact Int.add_le_add qx106.2.2 qx109.2.2⟩
                        refine va_put (D := (dC, dI)) (ci := 8) (v := .int x110) (ty := .int) (C := RX8) (T := TX8) (N := 40) hx hb hts zi_X8_seekRests_8 tyX8 tyX8_ok nmX8 hown hK hP hD hS 0 rfl rfl 37 (by decide) (hts (.fieldLink RX8 359 "WaxTurnsModel" "firstRest" "I") (List.mem_cons_of_mem _ (List.mem_append_left _ (List.mem_of_getElem? (i := 0) rfl)))) (fun _ h9 => h9) rfl (tyX8_ok 37 (by decide)) rfl rfl (Nat.le_of_ble_eq_true rfl) dX8_seekRests_111 (fun H locs hP hD hS => ?_)
                        refine zs_0 (y := (a0, .inr (8, [a0g_0, a0g_1, a0g_2, a0g_3, a0g_4, a0g_5, a0g_6, a0g_7, a0g_8, a0g_9, a0g_10, a0g_11, a0g_12, a0g_13, a0g_14, a0g_15, a0g_16, a0g_17, a0g_18, a0g_19, a0g_20, a0g_21, a0g_22, a0g_23, a0g_24, a0g_25, a0g_26, a0g_27, a0g_28, a0g_29, a0g_30, a0g_31, a0g_32, a0g_33, a0g_34, a0g_35, a0g_36, Value.int x110, a0g_38, a0g_39]))) hP hD rfl (fun hP hD => ?_)
                        exact (hK0 _ _ _).mp (J114 x110 _ _ _   hP hD hS (lv_sub hl [0, 1, 2, 3] rfl))
                    · obtain ⟨hw, h87_0, h87_1, h87_2, h87_3⟩ := hw
                      subst hw
                      have l87k1_j25s0 : (0 : Int) ≤ j25s0.toInt := bj25s0_l
                      have u87k1_j25s0 : j25s0.toInt ≤ (0 : Int) := h87_1
                      have l87k1_j39s0 : (0 : Int) ≤ j39s0.toInt := bj39s0_l
                      have u87k1_j39s0 : j39s0.toInt ≤ (0 : Int) := h87_3
                      refine lv_icmp_le (tgt := 96) hx hb dX8_seekRests_90 (by decide) (fun _ => ?_) (fun c90 => absurd (by decide +kernel) c90)
                      refine lv_iload_n hx hb dX8_seekRests_96 rfl (lv_at hl 2 rfl) ?_
                      have J114 : ∀ (j114a0_37 : Int32) (H : Heap) (locs : List Loc) (ls : Array Slot), va_P (dC, dI) vwCl [(a0, .inr (8, [a0g_0, a0g_1, a0g_2, a0g_3, a0g_4, a0g_5, a0g_6, a0g_7, a0g_8, a0g_9, a0g_10, a0g_11, a0g_12, a0g_13, a0g_14, a0g_15, a0g_16, a0g_17, a0g_18, a0g_19, a0g_20, a0g_21, a0g_22, a0g_23, a0g_24, a0g_25, a0g_26, a0g_27, a0g_28, a0g_29, a0g_30, a0g_31, a0g_32, a0g_33, a0g_34, a0g_35, a0g_36, Value.int j114a0_37, a0g_38, a0g_39]))] H → va_D A [(a0, .inr (8, [a0g_0, a0g_1, a0g_2, a0g_3, a0g_4, a0g_5, a0g_6, a0g_7, a0g_8, a0g_9, a0g_10, a0g_11, a0g_12, a0g_13, a0g_14, a0g_15, a0g_16, a0g_17, a0g_18, a0g_19, a0g_20, a0g_21, a0g_22, a0g_23, a0g_24, a0g_25, a0g_26, a0g_27, a0g_28, a0g_29, a0g_30, a0g_31, a0g_32, a0g_33, a0g_34, a0g_35, a0g_36, Value.int j114a0_37, a0g_38, a0g_39]))] → va_S A s.heap H locs → lv_has ls 6 [(0, .ref a0), (1, .int a1), (2, .int j10l2), (3, .int j10l3)] → K H locs (F0 m 114 ls []) := by
                        intro j114a0_37 H locs ls   hP hD hS hl
                        refine (hK0 _ _ _).mpr ?_
                        obtain ⟨x114, ex114⟩ : ∃ y : Int32, y = j10l2 + Int32.ofInt 1 := ⟨_, rfl⟩
                        refine lv_iinc (v := x114) (lv' := [(2, .int x114), (0, .ref a0), (1, .int a1), (3, .int j10l3)]) hx hb dX8_seekRests_114 hl (k := 2) rfl ex114.symm (by decide) rfl (fun ls hl => ?_)
                        exact (hK0 _ _ _).mp (J117 x114 j114a0_37 _ _ _   hP hD hS (lv_sub hl [1, 2, 0, 3] rfl))
                      refine lv_if_ne (tgt := 114) hx hb dX8_seekRests_97 (by decide) (fun c97 => ?_) (fun c97 => ?_)
                      · have gc97 := ai_ne c97
                        exact (hK0 _ _ _).mp (J114 j10a0_37 _ _ _   hP hD hS (lv_sub hl [0, 1, 2, 3] rfl))
                      · have gc97 := ai_eq c97
                        have u97f_j10l2 : j10l2.toInt ≤ (0 : Int) := Int.le_trans (Int.le_of_eq gc97) zq6
                        have l97f_j10l2 : (0 : Int) ≤ j10l2.toInt := Int.le_trans zq5 (Int.le_of_eq gc97.symm)
                        refine lv_aload_n hx hb dX8_seekRests_100 rfl (lv_at hl 0 rfl) ?_
                        refine lv_bipush (v := 10) hx hb dX8_seekRests_101 zk_bipush_10 ?_
                        refine lv_iload_n hx hb dX8_seekRests_103 rfl (lv_at hl 3 rfl) ?_
                        refine lv_iconst (v := 2) hx hb dX8_seekRests_104 zk_iconst_2 ?_
                        refine lv_idiv hx hb dX8_seekRests_105 (by decide +kernel) ?_
                        refine lv_topi (fun x105 ex105 => ?_)
                        have qx105 := ai_div ex105 ⟨bj10l3_l, u12f_j10l3⟩ (Int.lt_of_lt_of_le zq100 zq12)
                        have u105z_x105 : x105.toInt ≤ (1 : Int) := (by have h1 := qx105.1; have h2 := u12f_j10l3; have h3 : (2 : Int32).toInt = 2 := (by decide); rw [h3] at h1; omega)
                        refine lv_imul hx hb dX8_seekRests_106 ?_
                        refine lv_topi (fun x106 ex106 => ?_)
                        have qx106 : x106.toInt = (10 : Int32).toInt * x105.toInt ∧ (0 : Int) ≤ x106.toInt ∧ x106.toInt ≤ 10 := ai_mul ex106 ⟨zq26, zq27⟩ ⟨qx105.2.1, u105z_x105⟩ (by decide) (by decide) zq103
                        have wx106 : x106.toInt = 10 * x105.toInt := qx106.1
                        refine lv_iload_n hx hb dX8_seekRests_107 rfl (lv_at hl 3 rfl) ?_
                        refine lv_iconst (v := 2) hx hb dX8_seekRests_108 zk_iconst_2 ?_
                        refine lv_irem hx hb dX8_seekRests_109 (by decide +kernel) ?_
                        refine lv_topi (fun x109 ex109 => ?_)
                        have qx109 := ai_rem2 ex109 bj10l3_l (Int.lt_of_lt_of_le zq100 zq12) zq13
                        have wx109 : x109.toInt = j10l3.toInt % 2 := qx109.1
                        refine lv_iadd hx hb dX8_seekRests_110 ?_
                        refine lv_topi (fun x110 ex110 => ?_)
                        have qx110 : x110.toInt = x106.toInt + x109.toInt := ai_add ex110 ⟨qx106.2.1, qx106.2.2⟩ ⟨qx109.2.1, qx109.2.2⟩ (by decide) (by decide)
                        have bx110 : (0 : Int) ≤ x110.toInt ∧ x110.toInt ≤ 11 := ⟨by rw [qx110]; exact Int.add_le_add qx106.2.1 qx109.2.1, by rw [qx110]; exact Int.add_le_add qx106.2.2 qx109.2.2⟩
                        refine va_put (D := (dC, dI)) (ci := 8) (v := .int x110) (ty := .int) (C := RX8) (T := TX8) (N := 40) hx hb hts zi_X8_seekRests_8 tyX8 tyX8_ok nmX8 hown hK hP hD hS 0 rfl rfl 37 (by decide) (hts (.fieldLink RX8 359 "WaxTurnsModel" "firstRest" "I") (List.mem_cons_of_mem _ (List.mem_append_left _ (List.mem_of_getElem? (i := 0) rfl)))) (fun _ h9 => h9) rfl (tyX8_ok 37 (by decide)) rfl rfl (Nat.le_of_ble_eq_true rfl) dX8_seekRests_111 (fun H locs hP hD hS => ?_)
                        refine zs_0 (y := (a0, .inr (8, [a0g_0, a0g_1, a0g_2, a0g_3, a0g_4, a0g_5, a0g_6, a0g_7, a0g_8, a0g_9, a0g_10, a0g_11, a0g_12, a0g_13, a0g_14, a0g_15, a0g_16, a0g_17, a0g_18, a0g_19, a0g_20, a0g_21, a0g_22, a0g_23, a0g_24, a0g_25, a0g_26, a0g_27, a0g_28, a0g_29, a0g_30, a0g_31, a0g_32, a0g_33, a0g_34, a0g_35, a0g_36, Value.int x110, a0g_38, a0g_39]))) hP hD rfl (fun hP hD => ?_)
                        exact (hK0 _ _ _).mp (J114 x110 _ _ _   hP hD hS (lv_sub hl [0, 1, 2, 3] rfl))
                    · obtain ⟨hw, h87_0, h87_1⟩ := hw
                      subst hw
                      have l87k2_j39s0 : (0 : Int) ≤ j39s0.toInt := bj39s0_l
                      have u87k2_j39s0 : j39s0.toInt ≤ (0 : Int) := h87_1
                      refine lv_icmp_le (tgt := 96) hx hb dX8_seekRests_90 (by decide) (fun _ => ?_) (fun c90 => absurd (by decide +kernel) c90)
                      refine lv_iload_n hx hb dX8_seekRests_96 rfl (lv_at hl 2 rfl) ?_
                      have J114 : ∀ (j114a0_37 : Int32) (H : Heap) (locs : List Loc) (ls : Array Slot), va_P (dC, dI) vwCl [(a0, .inr (8, [a0g_0, a0g_1, a0g_2, a0g_3, a0g_4, a0g_5, a0g_6, a0g_7, a0g_8, a0g_9, a0g_10, a0g_11, a0g_12, a0g_13, a0g_14, a0g_15, a0g_16, a0g_17, a0g_18, a0g_19, a0g_20, a0g_21, a0g_22, a0g_23, a0g_24, a0g_25, a0g_26, a0g_27, a0g_28, a0g_29, a0g_30, a0g_31, a0g_32, a0g_33, a0g_34, a0g_35, a0g_36, Value.int j114a0_37, a0g_38, a0g_39]))] H → va_D A [(a0, .inr (8, [a0g_0, a0g_1, a0g_2, a0g_3, a0g_4, a0g_5, a0g_6, a0g_7, a0g_8, a0g_9, a0g_10, a0g_11, a0g_12, a0g_13, a0g_14, a0g_15, a0g_16, a0g_17, a0g_18, a0g_19, a0g_20, a0g_21, a0g_22, a0g_23, a0g_24, a0g_25, a0g_26, a0g_27, a0g_28, a0g_29, a0g_30, a0g_31, a0g_32, a0g_33, a0g_34, a0g_35, a0g_36, Value.int j114a0_37, a0g_38, a0g_39]))] → va_S A s.heap H locs → lv_has ls 6 [(0, .ref a0), (1, .int a1), (2, .int j10l2), (3, .int j10l3)] → K H locs (F0 m 114 ls []) := by
                        intro j114a0_37 H locs ls   hP hD hS hl
                        refine (hK0 _ _ _).mpr ?_
                        obtain ⟨x114, ex114⟩ : ∃ y : Int32, y = j10l2 + Int32.ofInt 1 := ⟨_, rfl⟩
                        refine lv_iinc (v := x114) (lv' := [(2, .int x114), (0, .ref a0), (1, .int a1), (3, .int j10l3)]) hx hb dX8_seekRests_114 hl (k := 2) rfl ex114.symm (by decide) rfl (fun ls hl => ?_)
                        exact (hK0 _ _ _).mp (J117 x114 j114a0_37 _ _ _   hP hD hS (lv_sub hl [1, 2, 0, 3] rfl))
                      refine lv_if_ne (tgt := 114) hx hb dX8_seekRests_97 (by decide) (fun c97 => ?_) (fun c97 => ?_)
                      · have gc97 := ai_ne c97
                        exact (hK0 _ _ _).mp (J114 j10a0_37 _ _ _   hP hD hS (lv_sub hl [0, 1, 2, 3] rfl))
                      · have gc97 := ai_eq c97
                        have u97f_j10l2 : j10l2.toInt ≤ (0 : Int) := Int.le_trans (Int.le_of_eq gc97) zq6
                        have l97f_j10l2 : (0 : Int) ≤ j10l2.toInt := Int.le_trans zq5 (Int.le_of_eq gc97.symm)
                        refine lv_aload_n hx hb dX8_seekRests_100 rfl (lv_at hl 0 rfl) ?_
                        refine lv_bipush (v := 10) hx hb dX8_seekRests_101 zk_bipush_10 ?_
                        refine lv_iload_n hx hb dX8_seekRests_103 rfl (lv_at hl 3 rfl) ?_
                        refine lv_iconst (v := 2) hx hb dX8_seekRests_104 zk_iconst_2 ?_
                        refine lv_idiv hx hb dX8_seekRests_105 (by decide +kernel) ?_
                        refine lv_topi (fun x105 ex105 => ?_)
                        have qx105 := ai_div ex105 ⟨bj10l3_l, u12f_j10l3⟩ (Int.lt_of_lt_of_le zq100 zq12)
                        have u105z_x105 : x105.toInt ≤ (1 : Int) := (by have h1 := qx105.1; have h2 := u12f_j10l3; have h3 : (2 : Int32).toInt = 2 := (by decide); rw [h3] at h1; omega)
                        refine lv_imul hx hb dX8_seekRests_106 ?_
                        refine lv_topi (fun x106 ex106 => ?_)
                        have qx106 : x106.toInt = (10 : Int32).toInt * x105.toInt ∧ (0 : Int) ≤ x106.toInt ∧ x106.toInt ≤ 10 := ai_mul ex106 ⟨zq26, zq27⟩ ⟨qx105.2.1, u105z_x105⟩ (by decide) (by decide) zq103
                        have wx106 : x106.toInt = 10 * x105.toInt := qx106.1
                        refine lv_iload_n hx hb dX8_seekRests_107 rfl (lv_at hl 3 rfl) ?_
                        refine lv_iconst (v := 2) hx hb dX8_seekRests_108 zk_iconst_2 ?_
                        refine lv_irem hx hb dX8_seekRests_109 (by decide +kernel) ?_
                        refine lv_topi (fun x109 ex109 => ?_)
                        have qx109 := ai_rem2 ex109 bj10l3_l (Int.lt_of_lt_of_le zq100 zq12) zq13
                        have wx109 : x109.toInt = j10l3.toInt % 2 := qx109.1
                        refine lv_iadd hx hb dX8_seekRests_110 ?_
                        refine lv_topi (fun x110 ex110 => ?_)
                        have qx110 : x110.toInt = x106.toInt + x109.toInt := ai_add ex110 ⟨qx106.2.1, qx106.2.2⟩ ⟨qx109.2.1, qx109.2.2⟩ (by decide) (by decide)
                        have bx110 : (0 : Int) ≤ x110.toInt ∧ x110.toInt ≤ 11 := ⟨by rw [qx110]; exact Int.add_le_add qx106.2.1 qx109.2.1, by rw [qx110]; exact Int.add_le_add qx106.2.2 qx109.2.2⟩
                        refine va_put (D := (dC, dI)) (ci := 8) (v := .int x110) (ty := .int) (C := RX8) (T := TX8) (N := 40) hx hb hts zi_X8_seekRests_8 tyX8 tyX8_ok nmX8 hown hK hP hD hS 0 rfl rfl 37 (by decide) (hts (.fieldLink RX8 359 "WaxTurnsModel" "firstRest" "I") (List.mem_cons_of_mem _ (List.mem_append_left _ (List.mem_of_getElem? (i := 0) rfl)))) (fun _ h9 => h9) rfl (tyX8_ok 37 (by decide)) rfl rfl (Nat.le_of_ble_eq_true rfl) dX8_seekRests_111 (fun H locs hP hD hS => ?_)
                        refine zs_0 (y := (a0, .inr (8, [a0g_0, a0g_1, a0g_2, a0g_3, a0g_4, a0g_5, a0g_6, a0g_7, a0g_8, a0g_9, a0g_10, a0g_11, a0g_12, a0g_13, a0g_14, a0g_15, a0g_16, a0g_17, a0g_18, a0g_19, a0g_20, a0g_21, a0g_22, a0g_23, a0g_24, a0g_25, a0g_26, a0g_27, a0g_28, a0g_29, a0g_30, a0g_31, a0g_32, a0g_33, a0g_34, a0g_35, a0g_36, Value.int x110, a0g_38, a0g_39]))) hP hD rfl (fun hP hD => ?_)
                        exact (hK0 _ _ _).mp (J114 x110 _ _ _   hP hD hS (lv_sub hl [0, 1, 2, 3] rfl))
                    · obtain ⟨hw, h87_0, h87_1⟩ := hw
                      subst hw
                      have l87k3_j25s0 : (0 : Int) ≤ j25s0.toInt := bj25s0_l
                      have u87k3_j25s0 : j25s0.toInt ≤ (0 : Int) := h87_1
                      refine lv_icmp_le (tgt := 96) hx hb dX8_seekRests_90 (by decide) (fun c90 => absurd c90 (by decide +kernel)) (fun _ => ?_)
                      refine lv_goto (tgt := 117) hx hb dX8_seekRests_93 (by decide) ?_
                      exact (hK0 _ _ _).mp (J117 j10l2 j10a0_37 _ _ _   hP hD hS (lv_sub hl [0, 1, 2, 3] rfl))
                  · obtain ⟨hw, h80_0, h80_1⟩ := hw
                    subst hw
                    have l80k3_j25s0 : (0 : Int) ≤ j25s0.toInt := bj25s0_l
                    have u80k3_j25s0 : j25s0.toInt ≤ (0 : Int) := h80_1
                    refine lv_iload hx hb dX8_seekRests_83 (lv_at hl 4 rfl) ?_
                    refine lv_iload hx hb dX8_seekRests_85 (lv_at hl 5 rfl) ?_
                    refine va_calli (va_runS (As := [.int j25s0, .int j39s0]) (rest := [.int (-1)]) ⟨hx, hb, hml, hown, hts⟩ (c_X8_otherHas l dC dI H.size j25s0 j39s0 ) (va_cwS 2 hts gX8_seekRests_X8_otherHas rfl rfl rfl zd_X8_otherHas.2 ⟨Nat.le_of_ble_eq_true rfl, Nat.le_of_ble_eq_true rfl⟩) ⟨ax_blind (fun _ _ _ _ _ => trivial), ax_pre (zp_P0 hP) (zp_K hK) (zp_D0 hD) (fun _ _ => trivial)⟩ rfl rfl hl.1 rfl (lv_room (Nat.le_of_ble_eq_true rfl)) dX8_seekRests_87 ⟨Nat.le_of_ble_eq_true rfl, Nat.le_of_ble_eq_true rfl⟩) hS (fun q _ h => zp_F0 hD hS hA q h) (zp_F0 hD hS hA) (fun r87 u t H locs ht hvm hw hB hz1 hk1 hS1 => zo0 hB ht hP hD hk1 (zp_F0 hD hS hA) hS1 (fun hP hK1 hD hS => ?_))
                    rcases hw with hw | hw | hw | hw
                    · subst hw
                      refine lv_icmp_le (tgt := 96) hx hb dX8_seekRests_90 (by decide) (fun _ => ?_) (fun c90 => absurd (by decide +kernel) c90)
                      refine lv_iload_n hx hb dX8_seekRests_96 rfl (lv_at hl 2 rfl) ?_
                      have J114 : ∀ (j114a0_37 : Int32) (H : Heap) (locs : List Loc) (ls : Array Slot), va_P (dC, dI) vwCl [(a0, .inr (8, [a0g_0, a0g_1, a0g_2, a0g_3, a0g_4, a0g_5, a0g_6, a0g_7, a0g_8, a0g_9, a0g_10, a0g_11, a0g_12, a0g_13, a0g_14, a0g_15, a0g_16, a0g_17, a0g_18, a0g_19, a0g_20, a0g_21, a0g_22, a0g_23, a0g_24, a0g_25, a0g_26, a0g_27, a0g_28, a0g_29, a0g_30, a0g_31, a0g_32, a0g_33, a0g_34, a0g_35, a0g_36, Value.int j114a0_37, a0g_38, a0g_39]))] H → va_D A [(a0, .inr (8, [a0g_0, a0g_1, a0g_2, a0g_3, a0g_4, a0g_5, a0g_6, a0g_7, a0g_8, a0g_9, a0g_10, a0g_11, a0g_12, a0g_13, a0g_14, a0g_15, a0g_16, a0g_17, a0g_18, a0g_19, a0g_20, a0g_21, a0g_22, a0g_23, a0g_24, a0g_25, a0g_26, a0g_27, a0g_28, a0g_29, a0g_30, a0g_31, a0g_32, a0g_33, a0g_34, a0g_35, a0g_36, Value.int j114a0_37, a0g_38, a0g_39]))] → va_S A s.heap H locs → lv_has ls 6 [(0, .ref a0), (1, .int a1), (2, .int j10l2), (3, .int j10l3)] → K H locs (F0 m 114 ls []) := by
                        intro j114a0_37 H locs ls   hP hD hS hl
                        refine (hK0 _ _ _).mpr ?_
                        obtain ⟨x114, ex114⟩ : ∃ y : Int32, y = j10l2 + Int32.ofInt 1 := ⟨_, rfl⟩
                        refine lv_iinc (v := x114) (lv' := [(2, .int x114), (0, .ref a0), (1, .int a1), (3, .int j10l3)]) hx hb dX8_seekRests_114 hl (k := 2) rfl ex114.symm (by decide) rfl (fun ls hl => ?_)
                        exact (hK0 _ _ _).mp (J117 x114 j114a0_37 _ _ _   hP hD hS (lv_sub hl [1, 2, 0, 3] rfl))
                      refine lv_if_ne (tgt := 114) hx hb dX8_seekRests_97 (by decide) (fun c97 => ?_) (fun c97 => ?_)
                      · have gc97 := ai_ne c97
                        exact (hK0 _ _ _).mp (J114 j10a0_37 _ _ _   hP hD hS (lv_sub hl [0, 1, 2, 3] rfl))
                      · have gc97 := ai_eq c97
                        have u97f_j10l2 : j10l2.toInt ≤ (0 : Int) := Int.le_trans (Int.le_of_eq gc97) zq6
                        have l97f_j10l2 : (0 : Int) ≤ j10l2.toInt := Int.le_trans zq5 (Int.le_of_eq gc97.symm)
                        refine lv_aload_n hx hb dX8_seekRests_100 rfl (lv_at hl 0 rfl) ?_
                        refine lv_bipush (v := 10) hx hb dX8_seekRests_101 zk_bipush_10 ?_
                        refine lv_iload_n hx hb dX8_seekRests_103 rfl (lv_at hl 3 rfl) ?_
                        refine lv_iconst (v := 2) hx hb dX8_seekRests_104 zk_iconst_2 ?_
                        refine lv_idiv hx hb dX8_seekRests_105 (by decide +kernel) ?_
                        refine lv_topi (fun x105 ex105 => ?_)
                        have qx105 := ai_div ex105 ⟨bj10l3_l, u12f_j10l3⟩ (Int.lt_of_lt_of_le zq100 zq12)
                        have u105z_x105 : x105.toInt ≤ (1 : Int) := (by have h1 := qx105.1; have h2 := u12f_j10l3; have h3 : (2 : Int32).toInt = 2 := (by decide); rw [h3] at h1; omega)
                        refine lv_imul hx hb dX8_seekRests_106 ?_
                        refine lv_topi (fun x106 ex106 => ?_)
                        have qx106 : x106.toInt = (10 : Int32).toInt * x105.toInt ∧ (0 : Int) ≤ x106.toInt ∧ x106.toInt ≤ 10 := ai_mul ex106 ⟨zq26, zq27⟩ ⟨qx105.2.1, u105z_x105⟩ (by decide) (by decide) zq103
                        have wx106 : x106.toInt = 10 * x105.toInt := qx106.1
                        refine lv_iload_n hx hb dX8_seekRests_107 rfl (lv_at hl 3 rfl) ?_
                        refine lv_iconst (v := 2) hx hb dX8_seekRests_108 zk_iconst_2 ?_
                        refine lv_irem hx hb dX8_seekRests_109 (by decide +kernel) ?_
                        refine lv_topi (fun x109 ex109 => ?_)
                        have qx109 := ai_rem2 ex109 bj10l3_l (Int.lt_of_lt_of_le zq100 zq12) zq13
                        have wx109 : x109.toInt = j10l3.toInt % 2 := qx109.1
                        refine lv_iadd hx hb dX8_seekRests_110 ?_
                        refine lv_topi (fun x110 ex110 => ?_)
                        have qx110 : x110.toInt = x106.toInt + x109.toInt := ai_add ex110 ⟨qx106.2.1, qx106.2.2⟩ ⟨qx109.2.1, qx109.2.2⟩ (by decide) (by decide)
                        have bx110 : (0 : Int) ≤ x110.toInt ∧ x110.toInt ≤ 11 := ⟨by rw [qx110]; exact Int.add_le_add qx106.2.1 qx109.2.1, by rw [qx110]; exact Int.add_le_add qx106.2.2 qx109.2.2⟩
                        refine va_put (D := (dC, dI)) (ci := 8) (v := .int x110) (ty := .int) (C := RX8) (T := TX8) (N := 40) hx hb hts zi_X8_seekRests_8 tyX8 tyX8_ok nmX8 hown hK hP hD hS 0 rfl rfl 37 (by decide) (hts (.fieldLink RX8 359 "WaxTurnsModel" "firstRest" "I") (List.mem_cons_of_mem _ (List.mem_append_left _ (List.mem_of_getElem? (i := 0) rfl)))) (fun _ h9 => h9) rfl (tyX8_ok 37 (by decide)) rfl rfl (Nat.le_of_ble_eq_true rfl) dX8_seekRests_111 (fun H locs hP hD hS => ?_)
                        refine zs_0 (y := (a0, .inr (8, [a0g_0, a0g_1, a0g_2, a0g_3, a0g_4, a0g_5, a0g_6, a0g_7, a0g_8, a0g_9, a0g_10, a0g_11, a0g_12, a0g_13, a0g_14, a0g_15, a0g_16, a0g_17, a0g_18, a0g_19, a0g_20, a0g_21, a0g_22, a0g_23, a0g_24, a0g_25, a0g_26, a0g_27, a0g_28, a0g_29, a0g_30, a0g_31, a0g_32, a0g_33, a0g_34, a0g_35, a0g_36, Value.int x110, a0g_38, a0g_39]))) hP hD rfl (fun hP hD => ?_)
                        exact (hK0 _ _ _).mp (J114 x110 _ _ _   hP hD hS (lv_sub hl [0, 1, 2, 3] rfl))
                    · obtain ⟨hw, h87_0, h87_1, h87_2, h87_3⟩ := hw
                      subst hw
                      have l87k1_j25s0 : (0 : Int) ≤ j25s0.toInt := l80k3_j25s0
                      have u87k1_j25s0 : j25s0.toInt ≤ (0 : Int) := u80k3_j25s0
                      have l87k1_j39s0 : (0 : Int) ≤ j39s0.toInt := bj39s0_l
                      have u87k1_j39s0 : j39s0.toInt ≤ (0 : Int) := h87_3
                      refine lv_icmp_le (tgt := 96) hx hb dX8_seekRests_90 (by decide) (fun _ => ?_) (fun c90 => absurd (by decide +kernel) c90)
                      refine lv_iload_n hx hb dX8_seekRests_96 rfl (lv_at hl 2 rfl) ?_
                      have J114 : ∀ (j114a0_37 : Int32) (H : Heap) (locs : List Loc) (ls : Array Slot), va_P (dC, dI) vwCl [(a0, .inr (8, [a0g_0, a0g_1, a0g_2, a0g_3, a0g_4, a0g_5, a0g_6, a0g_7, a0g_8, a0g_9, a0g_10, a0g_11, a0g_12, a0g_13, a0g_14, a0g_15, a0g_16, a0g_17, a0g_18, a0g_19, a0g_20, a0g_21, a0g_22, a0g_23, a0g_24, a0g_25, a0g_26, a0g_27, a0g_28, a0g_29, a0g_30, a0g_31, a0g_32, a0g_33, a0g_34, a0g_35, a0g_36, Value.int j114a0_37, a0g_38, a0g_39]))] H → va_D A [(a0, .inr (8, [a0g_0, a0g_1, a0g_2, a0g_3, a0g_4, a0g_5, a0g_6, a0g_7, a0g_8, a0g_9, a0g_10, a0g_11, a0g_12, a0g_13, a0g_14, a0g_15, a0g_16, a0g_17, a0g_18, a0g_19, a0g_20, a0g_21, a0g_22, a0g_23, a0g_24, a0g_25, a0g_26, a0g_27, a0g_28, a0g_29, a0g_30, a0g_31, a0g_32, a0g_33, a0g_34, a0g_35, a0g_36, Value.int j114a0_37, a0g_38, a0g_39]))] → va_S A s.heap H locs → lv_has ls 6 [(0, .ref a0), (1, .int a1), (2, .int j10l2), (3, .int j10l3)] → K H locs (F0 m 114 ls []) := by
                        intro j114a0_37 H locs ls   hP hD hS hl
                        refine (hK0 _ _ _).mpr ?_
                        obtain ⟨x114, ex114⟩ : ∃ y : Int32, y = j10l2 + Int32.ofInt 1 := ⟨_, rfl⟩
                        refine lv_iinc (v := x114) (lv' := [(2, .int x114), (0, .ref a0), (1, .int a1), (3, .int j10l3)]) hx hb dX8_seekRests_114 hl (k := 2) rfl ex114.symm (by decide) rfl (fun ls hl => ?_)
                        exact (hK0 _ _ _).mp (J117 x114 j114a0_37 _ _ _   hP hD hS (lv_sub hl [1, 2, 0, 3] rfl))
                      refine lv_if_ne (tgt := 114) hx hb dX8_seekRests_97 (by decide) (fun c97 => ?_) (fun c97 => ?_)
                      · have gc97 := ai_ne c97
                        exact (hK0 _ _ _).mp (J114 j10a0_37 _ _ _   hP hD hS (lv_sub hl [0, 1, 2, 3] rfl))
                      · have gc97 := ai_eq c97
                        have u97f_j10l2 : j10l2.toInt ≤ (0 : Int) := Int.le_trans (Int.le_of_eq gc97) zq6
                        have l97f_j10l2 : (0 : Int) ≤ j10l2.toInt := Int.le_trans zq5 (Int.le_of_eq gc97.symm)
                        refine lv_aload_n hx hb dX8_seekRests_100 rfl (lv_at hl 0 rfl) ?_
                        refine lv_bipush (v := 10) hx hb dX8_seekRests_101 zk_bipush_10 ?_
                        refine lv_iload_n hx hb dX8_seekRests_103 rfl (lv_at hl 3 rfl) ?_
                        refine lv_iconst (v := 2) hx hb dX8_seekRests_104 zk_iconst_2 ?_
                        refine lv_idiv hx hb dX8_seekRests_105 (by decide +kernel) ?_
                        refine lv_topi (fun x105 ex105 => ?_)
                        have qx105 := ai_div ex105 ⟨bj10l3_l, u12f_j10l3⟩ (Int.lt_of_lt_of_le zq100 zq12)
                        have u105z_x105 : x105.toInt ≤ (1 : Int) := (by have h1 := qx105.1; have h2 := u12f_j10l3; have h3 : (2 : Int32).toInt = 2 := (by decide); rw [h3] at h1; omega)
                        refine lv_imul hx hb dX8_seekRests_106 ?_
                        refine lv_topi (fun x106 ex106 => ?_)
                        have qx106 : x106.toInt = (10 : Int32).toInt * x105.toInt ∧ (0 : Int) ≤ x106.toInt ∧ x106.toInt ≤ 10 := ai_mul ex106 ⟨zq26, zq27⟩ ⟨qx105.2.1, u105z_x105⟩ (by decide) (by decide) zq103
                        have wx106 : x106.toInt = 10 * x105.toInt := qx106.1
                        refine lv_iload_n hx hb dX8_seekRests_107 rfl (lv_at hl 3 rfl) ?_
                        refine lv_iconst (v := 2) hx hb dX8_seekRests_108 zk_iconst_2 ?_
                        refine lv_irem hx hb dX8_seekRests_109 (by decide +kernel) ?_
                        refine lv_topi (fun x109 ex109 => ?_)
                        have qx109 := ai_rem2 ex109 bj10l3_l (Int.lt_of_lt_of_le zq100 zq12) zq13
                        have wx109 : x109.toInt = j10l3.toInt % 2 := qx109.1
                        refine lv_iadd hx hb dX8_seekRests_110 ?_
                        refine lv_topi (fun x110 ex110 => ?_)
                        have qx110 : x110.toInt = x106.toInt + x109.toInt := ai_add ex110 ⟨qx106.2.1, qx106.2.2⟩ ⟨qx109.2.1, qx109.2.2⟩ (by decide) (by decide)
                        have bx110 : (0 : Int) ≤ x110.toInt ∧ x110.toInt ≤ 11 := ⟨by rw [qx110]; exact Int.add_le_add qx106.2.1 qx109.2.1, by rw [qx110]; exact Int.add_le_add qx106.2.2 qx109.2.2⟩
                        refine va_put (D := (dC, dI)) (ci := 8) (v := .int x110) (ty := .int) (C := RX8) (T := TX8) (N := 40) hx hb hts zi_X8_seekRests_8 tyX8 tyX8_ok nmX8 hown hK hP hD hS 0 rfl rfl 37 (by decide) (hts (.fieldLink RX8 359 "WaxTurnsModel" "firstRest" "I") (List.mem_cons_of_mem _ (List.mem_append_left _ (List.mem_of_getElem? (i := 0) rfl)))) (fun _ h9 => h9) rfl (tyX8_ok 37 (by decide)) rfl rfl (Nat.le_of_ble_eq_true rfl) dX8_seekRests_111 (fun H locs hP hD hS => ?_)
                        refine zs_0 (y := (a0, .inr (8, [a0g_0, a0g_1, a0g_2, a0g_3, a0g_4, a0g_5, a0g_6, a0g_7, a0g_8, a0g_9, a0g_10, a0g_11, a0g_12, a0g_13, a0g_14, a0g_15, a0g_16, a0g_17, a0g_18, a0g_19, a0g_20, a0g_21, a0g_22, a0g_23, a0g_24, a0g_25, a0g_26, a0g_27, a0g_28, a0g_29, a0g_30, a0g_31, a0g_32, a0g_33, a0g_34, a0g_35, a0g_36, Value.int x110, a0g_38, a0g_39]))) hP hD rfl (fun hP hD => ?_)
                        exact (hK0 _ _ _).mp (J114 x110 _ _ _   hP hD hS (lv_sub hl [0, 1, 2, 3] rfl))
                    · obtain ⟨hw, h87_0, h87_1⟩ := hw
                      subst hw
                      have l87k2_j39s0 : (0 : Int) ≤ j39s0.toInt := bj39s0_l
                      have u87k2_j39s0 : j39s0.toInt ≤ (0 : Int) := h87_1
                      refine lv_icmp_le (tgt := 96) hx hb dX8_seekRests_90 (by decide) (fun _ => ?_) (fun c90 => absurd (by decide +kernel) c90)
                      refine lv_iload_n hx hb dX8_seekRests_96 rfl (lv_at hl 2 rfl) ?_
                      have J114 : ∀ (j114a0_37 : Int32) (H : Heap) (locs : List Loc) (ls : Array Slot), va_P (dC, dI) vwCl [(a0, .inr (8, [a0g_0, a0g_1, a0g_2, a0g_3, a0g_4, a0g_5, a0g_6, a0g_7, a0g_8, a0g_9, a0g_10, a0g_11, a0g_12, a0g_13, a0g_14, a0g_15, a0g_16, a0g_17, a0g_18, a0g_19, a0g_20, a0g_21, a0g_22, a0g_23, a0g_24, a0g_25, a0g_26, a0g_27, a0g_28, a0g_29, a0g_30, a0g_31, a0g_32, a0g_33, a0g_34, a0g_35, a0g_36, Value.int j114a0_37, a0g_38, a0g_39]))] H → va_D A [(a0, .inr (8, [a0g_0, a0g_1, a0g_2, a0g_3, a0g_4, a0g_5, a0g_6, a0g_7, a0g_8, a0g_9, a0g_10, a0g_11, a0g_12, a0g_13, a0g_14, a0g_15, a0g_16, a0g_17, a0g_18, a0g_19, a0g_20, a0g_21, a0g_22, a0g_23, a0g_24, a0g_25, a0g_26, a0g_27, a0g_28, a0g_29, a0g_30, a0g_31, a0g_32, a0g_33, a0g_34, a0g_35, a0g_36, Value.int j114a0_37, a0g_38, a0g_39]))] → va_S A s.heap H locs → lv_has ls 6 [(0, .ref a0), (1, .int a1), (2, .int j10l2), (3, .int j10l3)] → K H locs (F0 m 114 ls []) := by
                        intro j114a0_37 H locs ls   hP hD hS hl
                        refine (hK0 _ _ _).mpr ?_
                        obtain ⟨x114, ex114⟩ : ∃ y : Int32, y = j10l2 + Int32.ofInt 1 := ⟨_, rfl⟩
                        refine lv_iinc (v := x114) (lv' := [(2, .int x114), (0, .ref a0), (1, .int a1), (3, .int j10l3)]) hx hb dX8_seekRests_114 hl (k := 2) rfl ex114.symm (by decide) rfl (fun ls hl => ?_)
                        exact (hK0 _ _ _).mp (J117 x114 j114a0_37 _ _ _   hP hD hS (lv_sub hl [1, 2, 0, 3] rfl))
                      refine lv_if_ne (tgt := 114) hx hb dX8_seekRests_97 (by decide) (fun c97 => ?_) (fun c97 => ?_)
                      · have gc97 := ai_ne c97
                        exact (hK0 _ _ _).mp (J114 j10a0_37 _ _ _   hP hD hS (lv_sub hl [0, 1, 2, 3] rfl))
                      · have gc97 := ai_eq c97
                        have u97f_j10l2 : j10l2.toInt ≤ (0 : Int) := Int.le_trans (Int.le_of_eq gc97) zq6
                        have l97f_j10l2 : (0 : Int) ≤ j10l2.toInt := Int.le_trans zq5 (Int.le_of_eq gc97.symm)
                        refine lv_aload_n hx hb dX8_seekRests_100 rfl (lv_at hl 0 rfl) ?_
                        refine lv_bipush (v := 10) hx hb dX8_seekRests_101 zk_bipush_10 ?_
                        refine lv_iload_n hx hb dX8_seekRests_103 rfl (lv_at hl 3 rfl) ?_
                        refine lv_iconst (v := 2) hx hb dX8_seekRests_104 zk_iconst_2 ?_
                        refine lv_idiv hx hb dX8_seekRests_105 (by decide +kernel) ?_
                        refine lv_topi (fun x105 ex105 => ?_)
                        have qx105 := ai_div ex105 ⟨bj10l3_l, u12f_j10l3⟩ (Int.lt_of_lt_of_le zq100 zq12)
                        have u105z_x105 : x105.toInt ≤ (1 : Int) := (by have h1 := qx105.1; have h2 := u12f_j10l3; have h3 : (2 : Int32).toInt = 2 := (by decide); rw [h3] at h1; omega)
                        refine lv_imul hx hb dX8_seekRests_106 ?_
                        refine lv_topi (fun x106 ex106 => ?_)
                        have qx106 : x106.toInt = (10 : Int32).toInt * x105.toInt ∧ (0 : Int) ≤ x106.toInt ∧ x106.toInt ≤ 10 := ai_mul ex106 ⟨zq26, zq27⟩ ⟨qx105.2.1, u105z_x105⟩ (by decide) (by decide) zq103
                        have wx106 : x106.toInt = 10 * x105.toInt := qx106.1
                        refine lv_iload_n hx hb dX8_seekRests_107 rfl (lv_at hl 3 rfl) ?_
                        refine lv_iconst (v := 2) hx hb dX8_seekRests_108 zk_iconst_2 ?_
                        refine lv_irem hx hb dX8_seekRests_109 (by decide +kernel) ?_
                        refine lv_topi (fun x109 ex109 => ?_)
                        have qx109 := ai_rem2 ex109 bj10l3_l (Int.lt_of_lt_of_le zq100 zq12) zq13
                        have wx109 : x109.toInt = j10l3.toInt % 2 := qx109.1
                        refine lv_iadd hx hb dX8_seekRests_110 ?_
                        refine lv_topi (fun x110 ex110 => ?_)
                        have qx110 : x110.toInt = x106.toInt + x109.toInt := ai_add ex110 ⟨qx106.2.1, qx106.2.2⟩ ⟨qx109.2.1, qx109.2.2⟩ (by decide) (by decide)
                        have bx110 : (0 : Int) ≤ x110.toInt ∧ x110.toInt ≤ 11 := ⟨by rw [qx110]; exact Int.add_le_add qx106.2.1 qx109.2.1, by rw [qx110]; exact Int.add_le_add qx106.2.2 qx109.2.2⟩
                        refine va_put (D := (dC, dI)) (ci := 8) (v := .int x110) (ty := .int) (C := RX8) (T := TX8) (N := 40) hx hb hts zi_X8_seekRests_8 tyX8 tyX8_ok nmX8 hown hK hP hD hS 0 rfl rfl 37 (by decide) (hts (.fieldLink RX8 359 "WaxTurnsModel" "firstRest" "I") (List.mem_cons_of_mem _ (List.mem_append_left _ (List.mem_of_getElem? (i := 0) rfl)))) (fun _ h9 => h9) rfl (tyX8_ok 37 (by decide)) rfl rfl (Nat.le_of_ble_eq_true rfl) dX8_seekRests_111 (fun H locs hP hD hS => ?_)
                        refine zs_0 (y := (a0, .inr (8, [a0g_0, a0g_1, a0g_2, a0g_3, a0g_4, a0g_5, a0g_6, a0g_7, a0g_8, a0g_9, a0g_10, a0g_11, a0g_12, a0g_13, a0g_14, a0g_15, a0g_16, a0g_17, a0g_18, a0g_19, a0g_20, a0g_21, a0g_22, a0g_23, a0g_24, a0g_25, a0g_26, a0g_27, a0g_28, a0g_29, a0g_30, a0g_31, a0g_32, a0g_33, a0g_34, a0g_35, a0g_36, Value.int x110, a0g_38, a0g_39]))) hP hD rfl (fun hP hD => ?_)
                        exact (hK0 _ _ _).mp (J114 x110 _ _ _   hP hD hS (lv_sub hl [0, 1, 2, 3] rfl))
                    · obtain ⟨hw, h87_0, h87_1⟩ := hw
                      subst hw
                      have l87k3_j25s0 : (0 : Int) ≤ j25s0.toInt := l80k3_j25s0
                      have u87k3_j25s0 : j25s0.toInt ≤ (0 : Int) := u80k3_j25s0
                      refine lv_icmp_le (tgt := 96) hx hb dX8_seekRests_90 (by decide) (fun _ => ?_) (fun c90 => absurd (by decide +kernel) c90)
                      refine lv_iload_n hx hb dX8_seekRests_96 rfl (lv_at hl 2 rfl) ?_
                      have J114 : ∀ (j114a0_37 : Int32) (H : Heap) (locs : List Loc) (ls : Array Slot), va_P (dC, dI) vwCl [(a0, .inr (8, [a0g_0, a0g_1, a0g_2, a0g_3, a0g_4, a0g_5, a0g_6, a0g_7, a0g_8, a0g_9, a0g_10, a0g_11, a0g_12, a0g_13, a0g_14, a0g_15, a0g_16, a0g_17, a0g_18, a0g_19, a0g_20, a0g_21, a0g_22, a0g_23, a0g_24, a0g_25, a0g_26, a0g_27, a0g_28, a0g_29, a0g_30, a0g_31, a0g_32, a0g_33, a0g_34, a0g_35, a0g_36, Value.int j114a0_37, a0g_38, a0g_39]))] H → va_D A [(a0, .inr (8, [a0g_0, a0g_1, a0g_2, a0g_3, a0g_4, a0g_5, a0g_6, a0g_7, a0g_8, a0g_9, a0g_10, a0g_11, a0g_12, a0g_13, a0g_14, a0g_15, a0g_16, a0g_17, a0g_18, a0g_19, a0g_20, a0g_21, a0g_22, a0g_23, a0g_24, a0g_25, a0g_26, a0g_27, a0g_28, a0g_29, a0g_30, a0g_31, a0g_32, a0g_33, a0g_34, a0g_35, a0g_36, Value.int j114a0_37, a0g_38, a0g_39]))] → va_S A s.heap H locs → lv_has ls 6 [(0, .ref a0), (1, .int a1), (2, .int j10l2), (3, .int j10l3)] → K H locs (F0 m 114 ls []) := by
                        intro j114a0_37 H locs ls   hP hD hS hl
                        refine (hK0 _ _ _).mpr ?_
                        obtain ⟨x114, ex114⟩ : ∃ y : Int32, y = j10l2 + Int32.ofInt 1 := ⟨_, rfl⟩
                        refine lv_iinc (v := x114) (lv' := [(2, .int x114), (0, .ref a0), (1, .int a1), (3, .int j10l3)]) hx hb dX8_seekRests_114 hl (k := 2) rfl ex114.symm (by decide) rfl (fun ls hl => ?_)
                        exact (hK0 _ _ _).mp (J117 x114 j114a0_37 _ _ _   hP hD hS (lv_sub hl [1, 2, 0, 3] rfl))
                      refine lv_if_ne (tgt := 114) hx hb dX8_seekRests_97 (by decide) (fun c97 => ?_) (fun c97 => ?_)
                      · have gc97 := ai_ne c97
                        exact (hK0 _ _ _).mp (J114 j10a0_37 _ _ _   hP hD hS (lv_sub hl [0, 1, 2, 3] rfl))
                      · have gc97 := ai_eq c97
                        have u97f_j10l2 : j10l2.toInt ≤ (0 : Int) := Int.le_trans (Int.le_of_eq gc97) zq6
                        have l97f_j10l2 : (0 : Int) ≤ j10l2.toInt := Int.le_trans zq5 (Int.le_of_eq gc97.symm)
                        refine lv_aload_n hx hb dX8_seekRests_100 rfl (lv_at hl 0 rfl) ?_
                        refine lv_bipush (v := 10) hx hb dX8_seekRests_101 zk_bipush_10 ?_
                        refine lv_iload_n hx hb dX8_seekRests_103 rfl (lv_at hl 3 rfl) ?_
                        refine lv_iconst (v := 2) hx hb dX8_seekRests_104 zk_iconst_2 ?_
                        refine lv_idiv hx hb dX8_seekRests_105 (by decide +kernel) ?_
                        refine lv_topi (fun x105 ex105 => ?_)
                        have qx105 := ai_div ex105 ⟨bj10l3_l, u12f_j10l3⟩ (Int.lt_of_lt_of_le zq100 zq12)
                        have u105z_x105 : x105.toInt ≤ (1 : Int) := (by have h1 := qx105.1; have h2 := u12f_j10l3; have h3 : (2 : Int32).toInt = 2 := (by decide); rw [h3] at h1; omega)
                        refine lv_imul hx hb dX8_seekRests_106 ?_
                        refine lv_topi (fun x106 ex106 => ?_)
                        have qx106 : x106.toInt = (10 : Int32).toInt * x105.toInt ∧ (0 : Int) ≤ x106.toInt ∧ x106.toInt ≤ 10 := ai_mul ex106 ⟨zq26, zq27⟩ ⟨qx105.2.1, u105z_x105⟩ (by decide) (by decide) zq103
                        have wx106 : x106.toInt = 10 * x105.toInt := qx106.1
                        refine lv_iload_n hx hb dX8_seekRests_107 rfl (lv_at hl 3 rfl) ?_
                        refine lv_iconst (v := 2) hx hb dX8_seekRests_108 zk_iconst_2 ?_
                        refine lv_irem hx hb dX8_seekRests_109 (by decide +kernel) ?_
                        refine lv_topi (fun x109 ex109 => ?_)
                        have qx109 := ai_rem2 ex109 bj10l3_l (Int.lt_of_lt_of_le zq100 zq12) zq13
                        have wx109 : x109.toInt = j10l3.toInt % 2 := qx109.1
                        refine lv_iadd hx hb dX8_seekRests_110 ?_
                        refine lv_topi (fun x110 ex110 => ?_)
                        have qx110 : x110.toInt = x106.toInt + x109.toInt := ai_add ex110 ⟨qx106.2.1, qx106.2.2⟩ ⟨qx109.2.1, qx109.2.2⟩ (by decide) (by decide)
                        have bx110 : (0 : Int) ≤ x110.toInt ∧ x110.toInt ≤ 11 := ⟨by rw [qx110]; exact Int.add_le_add qx106.2.1 qx109.2.1, by rw [qx110]; exact Int.add_le_add qx106.2.2 qx109.2.2⟩
                        refine va_put (D := (dC, dI)) (ci := 8) (v := .int x110) (ty := .int) (C := RX8) (T := TX8) (N := 40) hx hb hts zi_X8_seekRests_8 tyX8 tyX8_ok nmX8 hown hK hP hD hS 0 rfl rfl 37 (by decide) (hts (.fieldLink RX8 359 "WaxTurnsModel" "firstRest" "I") (List.mem_cons_of_mem _ (List.mem_append_left _ (List.mem_of_getElem? (i := 0) rfl)))) (fun _ h9 => h9) rfl (tyX8_ok 37 (by decide)) rfl rfl (Nat.le_of_ble_eq_true rfl) dX8_seekRests_111 (fun H locs hP hD hS => ?_)
                        refine zs_0 (y := (a0, .inr (8, [a0g_0, a0g_1, a0g_2, a0g_3, a0g_4, a0g_5, a0g_6, a0g_7, a0g_8, a0g_9, a0g_10, a0g_11, a0g_12, a0g_13, a0g_14, a0g_15, a0g_16, a0g_17, a0g_18, a0g_19, a0g_20, a0g_21, a0g_22, a0g_23, a0g_24, a0g_25, a0g_26, a0g_27, a0g_28, a0g_29, a0g_30, a0g_31, a0g_32, a0g_33, a0g_34, a0g_35, a0g_36, Value.int x110, a0g_38, a0g_39]))) hP hD rfl (fun hP hD => ?_)
                        exact (hK0 _ _ _).mp (J114 x110 _ _ _   hP hD hS (lv_sub hl [0, 1, 2, 3] rfl))
                refine lv_if_ne (tgt := 79) hx hb dX8_seekRests_72 (by decide) (fun c72 => ?_) (fun c72 => ?_)
                · have gc72 := ai_ne c72
                  have l72t_j39s0 : (1 : Int) ≤ j39s0.toInt := (by first | exact zg_l bj39s0_l gc72 (by decide) (by decide) | (have h1 := bj39s0_l; have h2 : (0 : Int32).toInt = 0 := (by decide); rw [h2] at gc72; omega))
                  refine lv_iconst (v := 0) hx hb dX8_seekRests_79 zk_iconst_0 ?_
                  exact (hK0 _ _ _).mp (J80 0 _ _ _  zq5 (Int.le_trans zq6 zq4) hP hD hS (lv_sub hl [0, 1, 2, 3, 4, 5] rfl))
                · have gc72 := ai_eq c72
                  have u72f_j39s0 : j39s0.toInt ≤ (0 : Int) := Int.le_trans (Int.le_of_eq gc72) zq6
                  have l72f_j39s0 : (0 : Int) ≤ j39s0.toInt := bj39s0_l
                  refine lv_iconst (v := 1) hx hb dX8_seekRests_75 zk_iconst_1 ?_
                  refine lv_goto (tgt := 80) hx hb dX8_seekRests_76 (by decide) ?_
                  exact (hK0 _ _ _).mp (J80 1 _ _ _  (Int.le_trans zq4 zq1) zq0 hP hD hS (lv_sub hl [0, 1, 2, 3, 4, 5] rfl))
            refine lv_if_ne (tgt := 51) hx hb dX8_seekRests_44 (by decide) (fun c44 => ?_) (fun c44 => ?_)
            · have gc44 := ai_ne c44
              have l44t_j25s0 : (1 : Int) ≤ j25s0.toInt := (by first | exact zg_l bj25s0_l gc44 (by decide) (by decide) | (have h1 := bj25s0_l; have h2 : (0 : Int32).toInt = 0 := (by decide); rw [h2] at gc44; omega))
              refine lv_iconst (v := 0) hx hb dX8_seekRests_51 zk_iconst_0 ?_
              exact (hK0 _ _ _).mp (J52 0 _ _ _  zq5 (Int.le_trans zq6 zq4) hP hD hS (lv_sub hl [1, 2, 3, 4, 5, 0] rfl))
            · have gc44 := ai_eq c44
              have u44f_j25s0 : j25s0.toInt ≤ (0 : Int) := Int.le_trans (Int.le_of_eq gc44) zq6
              have l44f_j25s0 : (0 : Int) ≤ j25s0.toInt := bj25s0_l
              refine lv_iconst (v := 1) hx hb dX8_seekRests_47 zk_iconst_1 ?_
              refine lv_goto (tgt := 52) hx hb dX8_seekRests_48 (by decide) ?_
              exact (hK0 _ _ _).mp (J52 1 _ _ _  (Int.le_trans zq4 zq1) zq0 hP hD hS (lv_sub hl [1, 2, 3, 4, 5, 0] rfl))
          refine lv_icmp_ne (tgt := 38) hx hb dX8_seekRests_31 (by decide) (fun c31 => ?_) (fun c31 => ?_)
          · have gc31 := ai_ne c31
            have u31t_x29 : x29.toInt ≤ (0 : Int) := (by first | exact zg_u qx29.2.2 gc31 (by decide) (by decide) | (have h1 := qx29.2.2; have h2 : (1 : Int32).toInt = 1 := (by decide); rw [h2] at gc31; omega))
            refine lv_iconst (v := 0) hx hb dX8_seekRests_38 zk_iconst_0 ?_
            exact (hK0 _ _ _).mp (J39 0 _ _ _  zq5 (Int.le_trans zq6 zq4) hP hD hS (lv_sub hl [1, 2, 3, 4, 0] rfl))
          · have gc31 := ai_eq c31
            have u31f_x29 : x29.toInt ≤ (1 : Int) := qx29.2.2
            have l31f_x29 : (1 : Int) ≤ x29.toInt := Int.le_trans zq1 (Int.le_of_eq gc31.symm)
            refine lv_iconst (v := 1) hx hb dX8_seekRests_34 zk_iconst_1 ?_
            refine lv_goto (tgt := 39) hx hb dX8_seekRests_35 (by decide) ?_
            exact (hK0 _ _ _).mp (J39 1 _ _ _  (Int.le_trans zq4 zq1) zq0 hP hD hS (lv_sub hl [1, 2, 3, 4, 0] rfl))
        refine lv_icmp_le (tgt := 24) hx hb dX8_seekRests_17 (by decide) (fun c17 => ?_) (fun c17 => ?_)
        · have gc17 := ai_le c17
          have u17t_j10l3 : j10l3.toInt ≤ (1 : Int) := Int.le_trans gc17 zq0
          refine lv_iconst (v := 0) hx hb dX8_seekRests_24 zk_iconst_0 ?_
          exact (hK0 _ _ _).mp (J25 0 _ _ _  zq5 (Int.le_trans zq6 zq4) hP hD hS (lv_sub hl [0, 1, 2, 3] rfl))
        · have gc17 := ai_nle c17
          have l17f_j10l3 : (2 : Int) ≤ j10l3.toInt := ai_ltlo gc17 zq1
          refine lv_iconst (v := 1) hx hb dX8_seekRests_20 zk_iconst_1 ?_
          refine lv_goto (tgt := 25) hx hb dX8_seekRests_21 (by decide) ?_
          exact (hK0 _ _ _).mp (J25 1 _ _ _  (Int.le_trans zq4 zq1) zq0 hP hD hS (lv_sub hl [0, 1, 2, 3] rfl))
  exact (hK0 _ _ _).mp (J10 5 0 0 (-2) _ _ _ (by first | decide +kernel | (have h1 : (0 : Int) ≤ (0 : Int32).toInt := zq5; have h2 : (0 : Int32).toInt ≤ (0 : Int) := zq6; omega)) zq5 (Int.le_trans zq6 zq101) hP hD hS (lv_sub hl [2, 3, 1, 0] rfl))
end P260_02_safe
