section P314_17_f
set_option maxHeartbeats 4000000 in
set_option maxRecDepth 100000 in
theorem f_X8_minutesOf (l : Launch) (dC : Nat → ClassId) (dI : Nat → Nat → Nat) (sz : Nat) (a0 : Nat) (a1 : Int32) (a2 : Int32) (a0_0 : Int32) (a0g_1 a0g_2 a0g_3 a0g_4 a0g_5 a0g_6 a0g_7 a0g_8 a0g_9 a0g_10 a0g_12 a0g_13 a0g_16 a0g_18 a0g_19 a0g_20 a0g_21 a0g_22 a0g_23 a0g_24 a0g_25 a0g_26 a0g_27 a0g_28 a0g_32 a0g_33 a0g_34 a0g_35 a0g_36 a0g_37 a0g_38 a0g_39 : Value) (a0_11 : Int32) (a0_14 : Int32) (a0_15 : Nat) (a0_17 : Nat) (a0_29 : Nat) (a0_30 : Int32) (a0_31 : Int32) (ka0_15 : ClassId) (fa0_15 : Nat → Int32) (ka0_17 : ClassId) (fa0_17 : Nat → Int32) (ka0_29 : ClassId) (fa0_29 : Nat → Int32) (ba0_14_l : (1 : Int) ≤ a0_14.toInt) (ba0_14_u : a0_14.toInt ≤ (1 : Int)) (bfa0_15 : ((∀ k : Nat, 0 ≤ k → k ≤ 0 → (2 : Int) ≤ (fa0_15 k).toInt ∧ (fa0_15 k).toInt ≤ 9) ∧ (∀ k : Nat, 1 ≤ k → k ≤ 1 → (1 : Int) ≤ (fa0_15 k).toInt ∧ (fa0_15 k).toInt ≤ 20) ∧ (∀ k : Nat, 2 ≤ k → k ≤ 2 → (0 : Int) ≤ (fa0_15 k).toInt ∧ (fa0_15 k).toInt ≤ 8) ∧ (∀ k : Nat, 3 ≤ k → k ≤ 3 → (0 : Int) ≤ (fa0_15 k).toInt ∧ (fa0_15 k).toInt ≤ 100) ∧ (∀ k : Nat, 4 ≤ k → k ≤ 4 → (0 : Int) ≤ (fa0_15 k).toInt ∧ (fa0_15 k).toInt ≤ 9) ∧ (∀ k : Nat, 5 ≤ k → k ≤ 5 → (0 : Int) ≤ (fa0_15 k).toInt ∧ (fa0_15 k).toInt ≤ 3) ∧ (∀ k : Nat, 6 ≤ k → k ≤ 6 → (0 : Int) ≤ (fa0_15 k).toInt ∧ (fa0_15 k).toInt ≤ 6) ∧ (∀ k : Nat, 7 ≤ k → k ≤ 9 → (0 : Int) ≤ (fa0_15 k).toInt ∧ (fa0_15 k).toInt ≤ 8) ∧ (∀ k : Nat, 12 ≤ k → k ≤ 29 → (0 : Int) ≤ (fa0_15 k).toInt ∧ (fa0_15 k).toInt ≤ 20) ∧ (∀ k : Nat, 30 ≤ k → k ≤ 35 → (0 : Int) ≤ (fa0_15 k).toInt ∧ (fa0_15 k).toInt ≤ 8) ∧ (∀ k : Nat, 36 ≤ k → k ≤ 47 → (0 : Int) ≤ (fa0_15 k).toInt ∧ (fa0_15 k).toInt ≤ 999))) (bfa0_17 : ((∀ k : Nat, 0 ≤ k → k ≤ 8 → (0 : Int) ≤ (fa0_17 k).toInt ∧ (fa0_17 k).toInt ≤ 8) ∧ (∀ k : Nat, 19 ≤ k → k ≤ 19 → (0 : Int) ≤ (fa0_17 k).toInt ∧ (fa0_17 k).toInt ≤ 8) ∧ (∀ k : Nat, 20 ≤ k → k ≤ 20 → (0 : Int) ≤ (fa0_17 k).toInt ∧ (fa0_17 k).toInt ≤ 19))) (bfa0_29 : (∀ k, (0 : Int) ≤ (fa0_29 k).toInt ∧ (fa0_29 k).toInt ≤ 8)) : zm l yX8_minutesOf wsX8_minutesOf ({ frames := 2, cells := 0, slots := 0, locals := 44 }) [.ref a0, .int a1, .int a2] dC dI sz [(a0, .inr (8, [Value.int a0_0, a0g_1, a0g_2, a0g_3, a0g_4, a0g_5, a0g_6, a0g_7, a0g_8, a0g_9, a0g_10, Value.int a0_11, a0g_12, a0g_13, Value.int a0_14, Value.ref a0_15, a0g_16, Value.ref a0_17, a0g_18, a0g_19, a0g_20, a0g_21, a0g_22, a0g_23, a0g_24, a0g_25, a0g_26, a0g_27, a0g_28, Value.ref a0_29, Value.int a0_30, Value.int a0_31, a0g_32, a0g_33, a0g_34, a0g_35, a0g_36, a0g_37, a0g_38, a0g_39])), (a0_15, .inl (ka0_15, 156, .inl (fa0_15))), (a0_17, .inl (ka0_17, 23, .inl (fa0_17))), (a0_29, .inl (ka0_29, 10, .inl (fa0_29)))] [(ka0_15, .int), (ka0_17, .int), (ka0_29, .int)] (fun A _ => True) (fun A => va_Qi (fun (r : Int32) (_ : Unit) => (True) ∧ r.toInt = (Ff_X8_minutesOf a1.toInt a2.toInt a0_14.toInt a0_30.toInt a0_31.toInt (fl_A fa0_15) (fl_A fa0_17) (fl_A fa0_29)).1) (fun (_ : Unit) (t : State) => ∃ na0_0 : Int32, ∃ na0_11 : Int32, ∃ na0_30 : Int32, ∃ na0_31 : Int32, ∃ nfa0_29 : Nat → Int32, (∀ k, (0 : Int) ≤ (nfa0_29 k).toInt ∧ (nfa0_29 k).toInt ≤ 8) ∧ ((Ff_X8_minutesOf a1.toInt a2.toInt a0_14.toInt a0_30.toInt a0_31.toInt (fl_A fa0_15) (fl_A fa0_17) (fl_A fa0_29)).2 = (na0_0.toInt, na0_11.toInt, na0_30.toInt, na0_31.toInt, (fl_A nfa0_29))) ∧ ax_B dC dI A [(a0, .inr (8, [Value.int na0_0, a0g_1, a0g_2, a0g_3, a0g_4, a0g_5, a0g_6, a0g_7, a0g_8, a0g_9, a0g_10, Value.int na0_11, a0g_12, a0g_13, Value.int a0_14, Value.ref a0_15, a0g_16, Value.ref a0_17, a0g_18, a0g_19, a0g_20, a0g_21, a0g_22, a0g_23, a0g_24, a0g_25, a0g_26, a0g_27, a0g_28, Value.ref a0_29, Value.int na0_30, Value.int na0_31, a0g_32, a0g_33, a0g_34, a0g_35, a0g_36, a0g_37, a0g_38, a0g_39])), (a0_15, .inl (ka0_15, 156, .inl (fa0_15))), (a0_17, .inl (ka0_17, 23, .inl (fa0_17))), (a0_29, .inl (ka0_29, 10, .inl (nfa0_29)))] [(ka0_15, .int), (ka0_17, .int), (ka0_29, .int)] t) A) := by
  refine zh (cc := cX8_minutesOf) (maxL := 6) (ret := (some .int)) zn_RX8 rfl (Nat.le_of_ble_eq_true rfl) (fun p e s m below meth c A ls hx hb hml hr hts (hown : s.vm.findClass RX8 = some m.cls) hlocks hA hS hP hK hD hE (hl : lv_has ls 6 [(0, .ref a0), (1, .int a1), (2, .int a2)]) => ?_)
  generalize hFX : Ff_X8_minutesOf a1.toInt a2.toInt a0_14.toInt a0_30.toInt a0_31.toInt (fl_A fa0_15) (fl_A fa0_17) (fl_A fa0_29) = FX at ⊢
  have hF0 := hFX.symm.trans (Ff_X8_minutesOf.eq_1 a1.toInt a2.toInt a0_14.toInt a0_30.toInt a0_31.toInt (fl_A fa0_15) (fl_A fa0_17) (fl_A fa0_29))
  refine ai_open (fun K hK0 => ?_)
  refine (hK0 _ _ _).mpr ?_
  refine lv_aload_n hx hb dX8_minutesOf_0 rfl (lv_at hl 0 rfl) ?_
  refine va_callv (va_runV (As := []) (rest := []) ⟨hx, hb, hml, hown, hts⟩ (f_X8_good l dC dI s.heap.size a0 a0_0 a0g_1 a0g_2 a0g_3 a0g_4 a0g_5 a0g_6 a0g_7 a0g_8 a0g_9 a0g_10 a0g_12 a0g_13 (Value.int a0_14) (Value.ref a0_15) a0g_16 (Value.ref a0_17) a0g_18 a0g_19 a0g_20 a0g_21 a0g_22 a0g_23 a0g_24 a0g_25 a0g_26 a0g_27 a0g_28 (Value.ref a0_29) (Value.int a0_30) (Value.int a0_31) a0g_32 a0g_33 a0g_34 a0g_35 a0g_36 a0g_37 a0g_38 a0g_39 a0_11 ) (cwV 0 hts gX8_minutesOf_X8_good rfl rfl rfl zd_X8_good ⟨Nat.le_of_ble_eq_true rfl, Nat.le_of_ble_eq_true rfl⟩) ⟨ax_blind (fun _ _ _ _ _ => trivial), zr_8 (zp_K hK) (zp_P1 hP) (q0 := 0) rfl, ax_pre (zp_P1 hP) (zp_K hK) (zp_D1 hD) (fun _ _ => trivial)⟩ rfl rfl hl.1 rfl (lv_room (Nat.le_of_ble_eq_true rfl)) dX8_minutesOf_1 ⟨Nat.le_of_ble_eq_true rfl, Nat.le_of_ble_eq_true rfl⟩) hS (fun q _ h => zp_F1 hD hS hA q h) (zp_F1 hD hS hA) (fun u t H locs ht hvm hw => zx_2 (fun v1na0_0 v1na0_11 => zy_1 (fun hraw1_0 hB hz1 hk1 hS1 => zo1 hB ht hP hD hk1 (zp_F1 hD hS hA) hS1 (fun hP hK1 hD hS => ?_))))
  have hc1 : Ff_X8_good = (v1na0_0.toInt, v1na0_11.toInt) := hraw1_0
  have hF0 := hF0.trans (fl_c2_eq hc1)
  refine lv_aload_n hx hb dX8_minutesOf_4 rfl (lv_at hl 0 rfl) ?_
  refine lv_aload_n hx hb dX8_minutesOf_5 rfl (lv_at hl 0 rfl) ?_
  refine lv_iload_n hx hb dX8_minutesOf_6 rfl (lv_at hl 1 rfl) ?_
  have hKc := hK.sub (tys' := [(ka0_15, .int)]) [0] rfl
  refine va_calli (va_runV (As := [.int a1]) (rest := [.ref a0]) ⟨hx, hb, hml, hown, hts⟩ (f_X8_isFigure l dC dI H.size a0 a1 (Value.int v1na0_0) a0g_1 a0g_2 a0g_3 a0g_4 a0g_5 a0g_6 a0g_7 a0g_8 a0g_9 a0g_10 (Value.int v1na0_11) a0g_12 a0g_13 a0g_16 (Value.ref a0_17) a0g_18 a0g_19 a0g_20 a0g_21 a0g_22 a0g_23 a0g_24 a0g_25 a0g_26 a0g_27 a0g_28 (Value.ref a0_29) (Value.int a0_30) (Value.int a0_31) a0g_32 a0g_33 a0g_34 a0g_35 a0g_36 a0g_37 a0g_38 a0g_39 a0_14 a0_15 ka0_15 fa0_15 ba0_14_l ba0_14_u bfa0_15) (cwV 1 hts gX8_minutesOf_X8_isFigure rfl rfl rfl zd_X8_isFigure ⟨Nat.le_of_ble_eq_true rfl, Nat.le_of_ble_eq_true rfl⟩) ⟨ax_blind (fun _ _ _ _ _ => trivial), zr_8 hKc (zp_P2 hP) (q0 := 0) rfl, ax_pre (zp_P2 hP) hKc (zp_D2 hD) (fun _ _ => trivial)⟩ rfl rfl hl.1 rfl (lv_room (Nat.le_of_ble_eq_true rfl)) dX8_minutesOf_7 ⟨Nat.le_of_ble_eq_true rfl, Nat.le_of_ble_eq_true rfl⟩) hS (fun q _ h => zp_F2 hD hS hA q h) (zp_F2 hD hS hA) (fun r7 u t H locs ht hvm hw hB hz1 hk1 hS1 => zo2 hB ht hP hD hk1 (zp_F2 hD hS hA) hS1 (fun hP hK1 hD hS => ?_))
  obtain ⟨hw, hfr7⟩ := hw
  have hc7 : Ff_X8_isFigure a1.toInt a0_14.toInt (fl_A fa0_15) = r7.toInt := hfr7.symm
  have hF0 := hF0.trans (fl_lt_eq hc7.symm)
  rcases hw with hw | hw
  · obtain ⟨hw, h7_0, h7_1⟩ := hw
    subst hw
    have l7k0_a1 : (0 : Int) ≤ a1.toInt := h7_0
    have u7k0_a1 : a1.toInt ≤ (8 : Int) := h7_1
    have hF0 := hF0.trans (if_pos (by decide))
    refine lv_iload_n hx hb dX8_minutesOf_10 rfl (lv_at hl 2 rfl) ?_
    refine lv_iconst (v := 0) hx hb dX8_minutesOf_11 zk_iconst_0 ?_
    refine lv_sipush (v := 999) hx hb dX8_minutesOf_12 zk_sipush_999 ?_
    refine va_calli (va_runS (As := [.int a2, .int 0, .int 999]) (rest := [.int 1, .ref a0]) ⟨hx, hb, hml, hown, hts⟩ (f_X8_in l dC dI H.size a2 0 999 ) (va_cwS 3 hts gX8_minutesOf_X8_in rfl rfl rfl zd_X8_in.2 ⟨Nat.le_of_ble_eq_true rfl, Nat.le_of_ble_eq_true rfl⟩) ⟨ax_blind (fun _ _ _ _ _ => trivial), ax_pre (zp_P0 hP) (zp_K hK) (zp_D0 hD) (fun _ _ => trivial)⟩ rfl rfl hl.1 rfl (lv_room (Nat.le_of_ble_eq_true rfl)) dX8_minutesOf_15 ⟨Nat.le_of_ble_eq_true rfl, Nat.le_of_ble_eq_true rfl⟩) hS (fun q _ h => zp_F0 hD hS hA q h) (zp_F0 hD hS hA) (fun r15 u t H locs ht hvm hw hB hz1 hk1 hS1 => zo0 hB ht hP hD hk1 (zp_F0 hD hS hA) hS1 (fun hP hK1 hD hS => ?_))
    obtain ⟨hw, hfr15⟩ := hw
    rw [show (0 : Int32).toInt = 0 from by decide, show (999 : Int32).toInt = 999 from by decide] at hfr15
    have hc15 : Ff_X8_in a2.toInt 0 999 = r15.toInt := hfr15.symm
    have hF0 := hF0.trans (fl_lt_eq hc15.symm)
    rcases hw with hw | hw
    · obtain ⟨hw, h15⟩ := hw
      subst hw
      have l15k0_a2 : (0 : Int) ≤ a2.toInt := Int.le_trans zq5 h15.1
      have u15k0_a2 : a2.toInt ≤ (999 : Int) := Int.le_trans h15.2 zq79
      have hF0 := hF0.trans (if_pos (by decide))
      refine va_calli (va_runV (As := [.int 1, .int 1]) (rest := []) ⟨hx, hb, hml, hown, hts⟩ (f_X8_why l dC dI H.size a0 1 1 (Value.int v1na0_0) a0g_1 a0g_2 a0g_3 a0g_4 a0g_5 a0g_6 a0g_7 a0g_8 a0g_9 a0g_10 (Value.int v1na0_11) a0g_12 a0g_13 (Value.int a0_14) (Value.ref a0_15) a0g_16 (Value.ref a0_17) a0g_18 a0g_19 a0g_20 a0g_21 a0g_22 a0g_23 a0g_24 a0g_25 a0g_26 a0g_27 a0g_28 (Value.ref a0_29) (Value.int a0_30) (Value.int a0_31) a0g_32 a0g_33 a0g_34 a0g_35 a0g_36 a0g_37 a0g_38 a0g_39 (Int.le_trans zq4 zq1) zq0 (Int.le_trans zq4 zq1) zq0) (cwV 2 hts gX8_minutesOf_X8_why rfl rfl rfl zd_X8_why ⟨Nat.le_of_ble_eq_true rfl, Nat.le_of_ble_eq_true rfl⟩) ⟨ax_blind (fun _ _ _ _ _ => trivial), zr_8 (zp_K hK) (zp_P1 hP) (q0 := 0) rfl, ax_pre (zp_P1 hP) (zp_K hK) (zp_D1 hD) (fun _ _ => trivial)⟩ rfl rfl hl.1 rfl (lv_room (Nat.le_of_ble_eq_true rfl)) dX8_minutesOf_18 ⟨Nat.le_of_ble_eq_true rfl, Nat.le_of_ble_eq_true rfl⟩) hS (fun q _ h => zp_F1 hD hS hA q h) (zp_F1 hD hS hA) (fun r18 u t H locs ht hvm hw hB hz1 hk1 hS1 => zo1 hB ht hP hD hk1 (zp_F1 hD hS hA) hS1 (fun hP hK1 hD hS => ?_))
      obtain ⟨hw, hfr18⟩ := hw
      rw [show (1 : Int32).toInt = 1 from by decide] at hfr18
      have hc18 : Ff_X8_why 1 1 = r18.toInt := hfr18.symm
      have hF0 := hF0.trans (fl_lt_eq hc18.symm)
      rcases hw with hw | hw | hw
      · obtain ⟨hw, h18_0, h18_1, h18_2, h18_3⟩ := hw
        subst hw
        exact absurd h18_3 (by decide)
      · obtain ⟨hw, h18_0, h18_1⟩ := hw
        subst hw
        exact absurd h18_1 (by decide)
      · obtain ⟨hw, h18_0, h18_1, h18_2, h18_3⟩ := hw
        subst hw
        have hF0 := hF0.trans (if_neg (by decide))
        have hF0 := hF0.trans (if_neg (by decide))
        refine lv_istore_n (lv' := [(3, .int 0), (0, .ref a0), (1, .int a1), (2, .int a2)]) hx hb dX8_minutesOf_21 rfl hl (by decide) rfl (fun ls hl => ?_)
        refine lv_iload_n hx hb dX8_minutesOf_22 rfl (lv_at hl 0 rfl) ?_
        refine lv_if_eq (tgt := 32) hx hb dX8_minutesOf_23 (by decide) (fun _ => ?_) (fun c23 => absurd (by decide +kernel) c23)
        refine lv_aload_n hx hb dX8_minutesOf_32 rfl (lv_at hl 1 rfl) ?_
        refine zc_cutc (wc := [(a0, .inr (8, [Value.int v1na0_0, a0g_1, a0g_2, a0g_3, a0g_4, a0g_5, a0g_6, a0g_7, a0g_8, a0g_9, a0g_10, Value.int v1na0_11, a0g_12, a0g_13, Value.int a0_14, Value.ref a0_15, a0g_16, Value.ref a0_17, a0g_18, a0g_19, a0g_20, a0g_21, a0g_22, a0g_23, a0g_24, a0g_25, a0g_26, a0g_27, a0g_28, Value.ref a0_29, Value.int a0_30, Value.int a0_31, a0g_32, a0g_33, a0g_34, a0g_35, a0g_36, a0g_37, a0g_38, a0g_39])), (a0_17, .inl (ka0_17, 23, .inl (fa0_17))), (a0_29, .inl (ka0_29, 10, .inl (fa0_29))), (a0_15, .inl (ka0_15, 156, .inl (fa0_15)))]) hP hD hS hA [0, 2, 3, 1] (by decide +kernel) rfl (fun hPc hDc hFc hCc => ?_)
        have hKc := hK.sub (tys' := [(ka0_17, .int), (ka0_29, .int), (ka0_15, .int)]) [1, 2, 0] rfl
        refine va_callv (va_runV (As := []) (rest := []) ⟨hx, hb, hml, hown, hts⟩ (f_X8_goRound l dC dI H.size a0 (Value.int v1na0_0) a0g_1 a0g_2 a0g_3 a0g_4 a0g_5 a0g_6 a0g_7 a0g_8 a0g_9 a0g_10 (Value.int v1na0_11) a0g_12 a0g_13 (Value.int a0_14) a0g_16 a0g_18 a0g_19 a0g_20 a0g_21 a0g_22 a0g_23 a0g_24 a0g_25 a0g_26 a0g_27 a0g_28 a0g_32 a0g_33 a0g_34 a0g_35 a0g_36 a0g_37 a0g_38 a0g_39 a0_15 a0_17 a0_29 a0_30 a0_31 ka0_17 fa0_17 ka0_29 fa0_29 ka0_15 fa0_15 bfa0_17 bfa0_29 bfa0_15) (cwV 0 hts gX8_minutesOf_X8_goRound rfl rfl rfl zd_X8_goRound ⟨Nat.le_of_ble_eq_true rfl, Nat.le_of_ble_eq_true rfl⟩) ⟨ax_blind (fun _ _ _ _ _ => trivial), zr_8 hKc hPc (q0 := 0) rfl, ax_pre hPc hKc hDc (fun _ _ => trivial)⟩ rfl rfl hl.1 rfl (lv_room (Nat.le_of_ble_eq_true rfl)) dX8_minutesOf_33 ⟨Nat.le_of_ble_eq_true rfl, Nat.le_of_ble_eq_true rfl⟩) hS (fun q _ h => hFc q h) hFc (fun u t H locs ht hvm hw => zx_3 (fun v33na0_30 v33na0_31 v33nfa0_29 => zy_3 (fun bv33nfa0_29 hraw33_0 hraw33_1 hB hz1 hk1 hS1 => zo hB ht hS1 (fun hP1 hK1 hD1 hS => ?_))))
        refine zc_backc (w := [(a0, .inr (8, [Value.int v1na0_0, a0g_1, a0g_2, a0g_3, a0g_4, a0g_5, a0g_6, a0g_7, a0g_8, a0g_9, a0g_10, Value.int v1na0_11, a0g_12, a0g_13, Value.int a0_14, Value.ref a0_15, a0g_16, Value.ref a0_17, a0g_18, a0g_19, a0g_20, a0g_21, a0g_22, a0g_23, a0g_24, a0g_25, a0g_26, a0g_27, a0g_28, Value.ref a0_29, Value.int v33na0_30, Value.int v33na0_31, a0g_32, a0g_33, a0g_34, a0g_35, a0g_36, a0g_37, a0g_38, a0g_39])), (a0_15, .inl (ka0_15, 156, .inl (fa0_15))), (a0_17, .inl (ka0_17, 23, .inl (fa0_17))), (a0_29, .inl (ka0_29, 10, .inl (v33nfa0_29)))]) hP hD hCc hk1 hFc hP1 hD1 [.inr 0, .inr 3, .inr 1, .inr 2] (by decide +kernel) rfl (fun hP hD => ?_)
        have hc33 : Ff_X8_goRound (fl_A fa0_17) (fl_A fa0_29) (fl_A fa0_15) = (v33na0_30.toInt, v33na0_31.toInt, (fl_A v33nfa0_29)) := hraw33_1
        have hF0 := hF0.trans (fl_c3_eq hc33)
        refine lv_iconst (v := 0) hx hb dX8_minutesOf_36 zk_iconst_0 ?_
        refine lv_istore (lv' := [(4, .int 0), (3, .int 0), (0, .ref a0), (1, .int a1), (2, .int a2)]) hx hb dX8_minutesOf_37 hl (by decide) rfl (fun ls hl => ?_)
        refine lv_iconst (v := 0) hx hb dX8_minutesOf_39 zk_iconst_0 ?_
        refine lv_istore (lv' := [(5, .int 0), (4, .int 0), (3, .int 0), (0, .ref a0), (1, .int a1), (2, .int a2)]) hx hb dX8_minutesOf_40 hl (by decide) rfl (fun ls hl => ?_)
        have J42 : ∀ (n : Nat) (j42l5 : Int32) (j42l4 : Int32) (H : Heap) (locs : List Loc) (ls : Array Slot), (1000 : Int) - j42l5.toInt ≤ (n : Int) → (0 : Int) ≤ j42l5.toInt → j42l5.toInt ≤ (999 : Int) → (FX = fl_wh (fun t9 => Sf_X8_minutesOf_42_1 a1.toInt a2.toInt (fl_A fa0_15) (fl_A fa0_17) v1na0_0.toInt v1na0_11.toInt v33na0_30.toInt v33na0_31.toInt (fl_A v33nfa0_29) t9.1 t9.2) (0, 0, 0, 0, 0, (fun _ => 0)) n (j42l5.toInt, j42l4.toInt)) → va_P (dC, dI) vwCl [(a0, .inr (8, [Value.int v1na0_0, a0g_1, a0g_2, a0g_3, a0g_4, a0g_5, a0g_6, a0g_7, a0g_8, a0g_9, a0g_10, Value.int v1na0_11, a0g_12, a0g_13, Value.int a0_14, Value.ref a0_15, a0g_16, Value.ref a0_17, a0g_18, a0g_19, a0g_20, a0g_21, a0g_22, a0g_23, a0g_24, a0g_25, a0g_26, a0g_27, a0g_28, Value.ref a0_29, Value.int v33na0_30, Value.int v33na0_31, a0g_32, a0g_33, a0g_34, a0g_35, a0g_36, a0g_37, a0g_38, a0g_39])), (a0_15, .inl (ka0_15, 156, .inl (fa0_15))), (a0_17, .inl (ka0_17, 23, .inl (fa0_17))), (a0_29, .inl (ka0_29, 10, .inl (v33nfa0_29)))] H → va_D A [(a0, .inr (8, [Value.int v1na0_0, a0g_1, a0g_2, a0g_3, a0g_4, a0g_5, a0g_6, a0g_7, a0g_8, a0g_9, a0g_10, Value.int v1na0_11, a0g_12, a0g_13, Value.int a0_14, Value.ref a0_15, a0g_16, Value.ref a0_17, a0g_18, a0g_19, a0g_20, a0g_21, a0g_22, a0g_23, a0g_24, a0g_25, a0g_26, a0g_27, a0g_28, Value.ref a0_29, Value.int v33na0_30, Value.int v33na0_31, a0g_32, a0g_33, a0g_34, a0g_35, a0g_36, a0g_37, a0g_38, a0g_39])), (a0_15, .inl (ka0_15, 156, .inl (fa0_15))), (a0_17, .inl (ka0_17, 23, .inl (fa0_17))), (a0_29, .inl (ka0_29, 10, .inl (v33nfa0_29)))] → va_S A s.heap H locs → lv_has ls 6 [(0, .ref a0), (1, .int a1), (2, .int a2), (4, .int j42l4), (5, .int j42l5)] → K H locs (F0 m 42 ls []) := by
          intro n
          induction n with
          | zero =>
            intro j42l5 j42l4 H locs ls hm bj42l5_l bj42l5_u hF0 hP hD hS hl
            first | exact zg_0 hm bj42l5_u (by decide) | (have h8 := ai_min j42l5; have h9 := ai_max j42l5; exact absurd hm (by omega))
          | succ n ih42 =>
            intro j42l5 j42l4 H locs ls hm bj42l5_l bj42l5_u hF0 hP hD hS hl
            refine (hK0 _ _ _).mpr ?_
            have hm42 := hm
            obtain ⟨SX42, hSX42⟩ : ∃ q9, Sf_X8_minutesOf_42_1 a1.toInt a2.toInt (fl_A fa0_15) (fl_A fa0_17) v1na0_0.toInt v1na0_11.toInt v33na0_30.toInt v33na0_31.toInt (fl_A v33nfa0_29) j42l5.toInt j42l4.toInt = q9 := ⟨_, rfl⟩
            have hF1 := hSX42.symm.trans (Sf_X8_minutesOf_42_1.eq_1 a1.toInt a2.toInt (fl_A fa0_15) (fl_A fa0_17) v1na0_0.toInt v1na0_11.toInt v33na0_30.toInt v33na0_31.toInt (fl_A v33nfa0_29) j42l5.toInt j42l4.toInt)
            refine lv_iload hx hb dX8_minutesOf_42 (lv_at hl 4 rfl) ?_
            refine lv_iload_n hx hb dX8_minutesOf_44 rfl (lv_at hl 2 rfl) ?_
            refine lv_icmp_ge (tgt := 89) hx hb dX8_minutesOf_45 (by decide) (fun c45 => ?_) (fun c45 => ?_)
            · have gc45 := ai_le c45
              have u45t_a2 : a2.toInt ≤ (999 : Int) := u15k0_a2
              have l45t_j42l5 : (0 : Int) ≤ j42l5.toInt := bj42l5_l
              have hF1 := hF1.trans (if_pos (show a2.toInt ≤ j42l5.toInt from gc45))
              have hF0 := hF0.trans (fl_wh_r (hSX42.trans hF1))
              refine lv_iload hx hb dX8_minutesOf_89 (lv_at hl 3 rfl) ?_
              have hFe : FX = (j42l4.toInt, v1na0_0.toInt, v1na0_11.toInt, v33na0_30.toInt, v33na0_31.toInt, (fl_A v33nfa0_29)) := hF0
              exact W.iret (v := j42l4) hx hb hr (fun t ht hW => ⟨⟨j42l4, (), rfl, ⟨trivial, (congrArg Prod.fst hFe).symm⟩, v1na0_0, v1na0_11, v33na0_30, v33na0_31, v33nfa0_29, bv33nfa0_29, (congrArg Prod.snd hFe), by rw [ht]; exact hP, va_K.moved hW.alike hK, hD⟩, hS.F ht⟩) hS.2.2 dX8_minutesOf_91
            · have gc45 := ai_nle c45
              have u45f_j42l5 : j42l5.toInt ≤ (998 : Int) := ai_lthi gc45 u15k0_a2
              have l45f_a2 : (1 : Int) ≤ a2.toInt := ai_ltlo gc45 bj42l5_l
              have hF1 := hF1.trans (if_neg (show ¬ (a2.toInt ≤ j42l5.toInt) from Int.not_le.mpr gc45))
              refine lv_iload hx hb dX8_minutesOf_48 (lv_at hl 3 rfl) ?_
              refine lv_aload_n hx hb dX8_minutesOf_50 rfl (lv_at hl 0 rfl) ?_
              refine lv_aload_n hx hb dX8_minutesOf_51 rfl (lv_at hl 0 rfl) ?_
              refine va_get (D := (dC, dI)) (ci := 8) (v := .ref a0_17) (C := RX8) (T := TX8) (N := 40) hx hb hts zi_X8_minutesOf_8 hown hK hP 0 rfl rfl 17 (by decide) (hts (.fieldLink RX8 26 "WaxTurnsModel" "st" "[I") (zm_X8_minutesOf_r1 (List.mem_of_getElem? (i := 0) rfl))) (fun _ h9 => h9) rfl dX8_minutesOf_52 ?_
              refine lv_bipush (v := 20) hx hb dX8_minutesOf_55 zk_bipush_20 ?_
              refine va_iald hx hb hK hP 2 1 rfl rfl (by unfold vp_in; decide +kernel) dX8_minutesOf_57 ?_
              refine lv_topi (fun x57 ex57 => ?_)
              have bx57 : (0 : Int) ≤ x57.toInt ∧ x57.toInt ≤ 19 := by rw [ex57]; exact ai_rd bfa0_17.2.2 zq153 zq154 (by decide) (by decide) (by decide)
              have fqx57 := congrArg Int32.toInt ex57
              have hF1 := hF1.trans (fl_lt_eq (show x57.toInt = (fl_A fa0_17) (20) from fqx57))
              refine lv_iload hx hb dX8_minutesOf_58 (lv_at hl 4 rfl) ?_
              refine lv_iadd hx hb dX8_minutesOf_60 ?_
              refine lv_topi (fun x60 ex60 => ?_)
              have qx60 : x60.toInt = x57.toInt + j42l5.toInt := ai_add ex60 ⟨bx57.1, bx57.2⟩ ⟨bj42l5_l, u45f_j42l5⟩ (by decide) (by decide)
              have bx60 : (0 : Int) ≤ x60.toInt ∧ x60.toInt ≤ 1017 := ⟨by rw [qx60]; exact Int.add_le_add bx57.1 bj42l5_l, by rw [qx60]; exact Int.add_le_add bx57.2 u45f_j42l5⟩
              have hF1 := hF1.trans (fl_lt_eq (show x60.toInt = x57.toInt + j42l5.toInt from qx60))
              refine lv_aload_n hx hb dX8_minutesOf_61 rfl (lv_at hl 0 rfl) ?_
              refine va_get (D := (dC, dI)) (ci := 8) (v := .ref a0_15) (C := RX8) (T := TX8) (N := 40) hx hb hts zi_X8_minutesOf_8 hown hK hP 0 rfl rfl 15 (by decide) (hts (.fieldLink RX8 20 "WaxTurnsModel" "\x72" "[I") (zm_X8_minutesOf_r1 (List.mem_of_getElem? (i := 1) rfl))) (fun _ h9 => h9) rfl dX8_minutesOf_62 ?_
              refine lv_iconst (v := 1) hx hb dX8_minutesOf_65 zk_iconst_1 ?_
              refine va_iald hx hb hK hP 1 0 rfl rfl (by unfold vp_in; decide +kernel) dX8_minutesOf_66 ?_
              refine lv_topi (fun x66 ex66 => ?_)
              have bx66 : (1 : Int) ≤ x66.toInt ∧ x66.toInt ≤ 20 := by rw [ex66]; exact ai_rd bfa0_15.2.1 zq1 zq0 (by decide) (by decide) (by decide)
              have fqx66 := congrArg Int32.toInt ex66
              have hF1 := hF1.trans (fl_lt_eq (show x66.toInt = (fl_A fa0_15) (1) from fqx66))
              refine lv_idiv hx hb dX8_minutesOf_67 (ai_nz bx66.1 (by decide)) ?_
              refine lv_topi (fun x67 ex67 => ?_)
              have qx67 := ai_div ex67 ⟨bx60.1, bx60.2⟩ (Int.lt_of_lt_of_le zq19 bx66.1)
              have hF1 := hF1.trans (fl_lt_eq (show x67.toInt = x60.toInt / x66.toInt from qx67.1))
              refine zc_cutc (wc := [(a0, .inr (8, [Value.int v1na0_0, a0g_1, a0g_2, a0g_3, a0g_4, a0g_5, a0g_6, a0g_7, a0g_8, a0g_9, a0g_10, Value.int v1na0_11, a0g_12, a0g_13, Value.int a0_14, Value.ref a0_15, a0g_16, Value.ref a0_17, a0g_18, a0g_19, a0g_20, a0g_21, a0g_22, a0g_23, a0g_24, a0g_25, a0g_26, a0g_27, a0g_28, Value.ref a0_29, Value.int v33na0_30, Value.int v33na0_31, a0g_32, a0g_33, a0g_34, a0g_35, a0g_36, a0g_37, a0g_38, a0g_39])), (a0_29, .inl (ka0_29, 10, .inl (v33nfa0_29)))]) hP hD hS hA [0, 3] (by decide +kernel) rfl (fun hPc hDc hFc hCc => ?_)
              have hKc := hK.sub (tys' := [(ka0_29, .int)]) [2] rfl
              refine va_calli (va_runV (As := [.int x67]) (rest := [.int j42l4]) ⟨hx, hb, hml, hown, hts⟩ (f_X8_turnAt l dC dI H.size a0 x67 (Value.int v1na0_0) a0g_1 a0g_2 a0g_3 a0g_4 a0g_5 a0g_6 a0g_7 a0g_8 a0g_9 a0g_10 (Value.int v1na0_11) a0g_12 a0g_13 (Value.int a0_14) (Value.ref a0_15) a0g_16 (Value.ref a0_17) a0g_18 a0g_19 a0g_20 a0g_21 a0g_22 a0g_23 a0g_24 a0g_25 a0g_26 a0g_27 a0g_28 a0g_32 a0g_33 a0g_34 a0g_35 a0g_36 a0g_37 a0g_38 a0g_39 a0_29 v33na0_30 v33na0_31 ka0_29 v33nfa0_29 qx67.2.1 (by omega : (0 : Int) ≤ v33na0_30.toInt) (by omega : v33na0_30.toInt ≤ (8 : Int)) (by omega : (1 : Int) ≤ v33na0_31.toInt) (by omega : v33na0_31.toInt ≤ (9 : Int)) bv33nfa0_29 (by omega)) (cwV 1 hts gX8_minutesOf_X8_turnAt rfl rfl rfl zd_X8_turnAt ⟨Nat.le_of_ble_eq_true rfl, Nat.le_of_ble_eq_true rfl⟩) ⟨ax_blind (fun _ _ _ _ _ => trivial), zr_8 hKc hPc (q0 := 0) rfl, ax_pre hPc hKc hDc (fun _ _ => trivial)⟩ rfl rfl hl.1 rfl (lv_room (Nat.le_of_ble_eq_true rfl)) dX8_minutesOf_68 ⟨Nat.le_of_ble_eq_true rfl, Nat.le_of_ble_eq_true rfl⟩) hS (fun q _ h => hFc q h) hFc (fun r68 u t H locs ht hvm hw hB hz1 hk1 hS1 => zo hB ht hS1 (fun hP1 hK1 hD1 hS => ?_))
              refine zc_backc (w := [(a0, .inr (8, [Value.int v1na0_0, a0g_1, a0g_2, a0g_3, a0g_4, a0g_5, a0g_6, a0g_7, a0g_8, a0g_9, a0g_10, Value.int v1na0_11, a0g_12, a0g_13, Value.int a0_14, Value.ref a0_15, a0g_16, Value.ref a0_17, a0g_18, a0g_19, a0g_20, a0g_21, a0g_22, a0g_23, a0g_24, a0g_25, a0g_26, a0g_27, a0g_28, Value.ref a0_29, Value.int v33na0_30, Value.int v33na0_31, a0g_32, a0g_33, a0g_34, a0g_35, a0g_36, a0g_37, a0g_38, a0g_39])), (a0_15, .inl (ka0_15, 156, .inl (fa0_15))), (a0_17, .inl (ka0_17, 23, .inl (fa0_17))), (a0_29, .inl (ka0_29, 10, .inl (v33nfa0_29)))]) hP hD hCc hk1 hFc hP1 hD1 [.inr 0, .inl 1, .inl 2, .inr 1] (by decide +kernel) rfl (fun hP hD => ?_)
              obtain ⟨hw, hfr68⟩ := hw
              have hc68 : Ff_X8_turnAt x67.toInt v33na0_30.toInt v33na0_31.toInt (fl_A v33nfa0_29) = r68.toInt := hfr68.symm
              have hF1 := hF1.trans (fl_lt_eq hc68.symm)
              have hw : (0 : Int) ≤ r68.toInt ∧ r68.toInt ≤ (8 : Int) := hw
              obtain ⟨h68_0, h68_1⟩ := hw
              refine lv_iload_n hx hb dX8_minutesOf_71 rfl (lv_at hl 1 rfl) ?_
              have J80 : ∀ (j80s0 : Int32) (H : Heap) (locs : List Loc) (ls : Array Slot), (0 : Int) ≤ j80s0.toInt → j80s0.toInt ≤ (1 : Int) → (SX42 = Gf_X8_minutesOf_80_1 j42l5.toInt j42l4.toInt j80s0.toInt) → va_P (dC, dI) vwCl [(a0, .inr (8, [Value.int v1na0_0, a0g_1, a0g_2, a0g_3, a0g_4, a0g_5, a0g_6, a0g_7, a0g_8, a0g_9, a0g_10, Value.int v1na0_11, a0g_12, a0g_13, Value.int a0_14, Value.ref a0_15, a0g_16, Value.ref a0_17, a0g_18, a0g_19, a0g_20, a0g_21, a0g_22, a0g_23, a0g_24, a0g_25, a0g_26, a0g_27, a0g_28, Value.ref a0_29, Value.int v33na0_30, Value.int v33na0_31, a0g_32, a0g_33, a0g_34, a0g_35, a0g_36, a0g_37, a0g_38, a0g_39])), (a0_15, .inl (ka0_15, 156, .inl (fa0_15))), (a0_17, .inl (ka0_17, 23, .inl (fa0_17))), (a0_29, .inl (ka0_29, 10, .inl (v33nfa0_29)))] H → va_D A [(a0, .inr (8, [Value.int v1na0_0, a0g_1, a0g_2, a0g_3, a0g_4, a0g_5, a0g_6, a0g_7, a0g_8, a0g_9, a0g_10, Value.int v1na0_11, a0g_12, a0g_13, Value.int a0_14, Value.ref a0_15, a0g_16, Value.ref a0_17, a0g_18, a0g_19, a0g_20, a0g_21, a0g_22, a0g_23, a0g_24, a0g_25, a0g_26, a0g_27, a0g_28, Value.ref a0_29, Value.int v33na0_30, Value.int v33na0_31, a0g_32, a0g_33, a0g_34, a0g_35, a0g_36, a0g_37, a0g_38, a0g_39])), (a0_15, .inl (ka0_15, 156, .inl (fa0_15))), (a0_17, .inl (ka0_17, 23, .inl (fa0_17))), (a0_29, .inl (ka0_29, 10, .inl (v33nfa0_29)))] → va_S A s.heap H locs → lv_has ls 6 [(0, .ref a0), (1, .int a1), (2, .int a2), (5, .int j42l5)] → K H locs (F0 m 80 ls [.int j80s0, .int j42l4]) := by
                intro j80s0 H locs ls  bj80s0_l bj80s0_u hF1 hP hD hS hl
                refine (hK0 _ _ _).mpr ?_
                have hF1 := hF1.trans (Gf_X8_minutesOf_80_1.eq_1 j42l5.toInt j42l4.toInt j80s0.toInt)
                refine lv_iadd hx hb dX8_minutesOf_80 ?_
                refine lv_topi (fun x80 ex80 => ?_)
                have fqx80 := fl_iadd_eq ex80
                have hF1 := hF1.trans (fl_lt_eq (show x80.toInt = fl_iadd j42l4.toInt j80s0.toInt from fqx80))
                refine lv_istore (lv' := [(4, .int x80), (0, .ref a0), (1, .int a1), (2, .int a2), (5, .int j42l5)]) hx hb dX8_minutesOf_81 hl (by decide) rfl (fun ls hl => ?_)
                obtain ⟨x83, ex83⟩ : ∃ y : Int32, y = j42l5 + Int32.ofInt 1 := ⟨_, rfl⟩
                have qx83 : x83.toInt = j42l5.toInt + 1 := ai_inc ex83 (by decide) (by decide) u45f_j42l5 (by decide)
                have bx83 : (1 : Int) ≤ x83.toInt ∧ x83.toInt ≤ 999 := ⟨by rw [qx83]; exact Int.add_le_add bj42l5_l (Int.le_refl _), by rw [qx83]; exact Int.add_le_add u45f_j42l5 (Int.le_refl _)⟩
                refine lv_iinc (v := x83) (lv' := [(5, .int x83), (4, .int x80), (0, .ref a0), (1, .int a1), (2, .int a2)]) hx hb dX8_minutesOf_83 hl (k := 4) rfl ex83.symm (by decide) rfl (fun ls hl => ?_)
                have hF1 := hF1.trans (fl_lt_eq (show x83.toInt = j42l5.toInt + 1 from qx83))
                refine lv_goto (tgt := 42) hx hb dX8_minutesOf_86 (by decide) ?_
                exact (hK0 _ _ _).mp (ih42 x83 x80 _ _ _ (by first | exact zg_s hm42 qx83 | (have h0 := qx83; omega)) (Int.le_trans zq4 bx83.1) bx83.2 (hF0.trans (fl_wh_l (hSX42.trans hF1))) hP hD hS (lv_sub hl [2, 3, 4, 1, 0] rfl))
              refine lv_icmp_ne (tgt := 79) hx hb dX8_minutesOf_72 (by decide) (fun c72 => ?_) (fun c72 => ?_)
              · have gc72 := ai_ne c72
                have hF1 := hF1.trans (if_neg (show ¬ (r68.toInt = a1.toInt) from  gc72))
                refine lv_iconst (v := 0) hx hb dX8_minutesOf_79 zk_iconst_0 ?_
                exact (hK0 _ _ _).mp (J80 0 _ _ _  zq5 (Int.le_trans zq6 zq4) (by rw [show (0 : Int32).toInt = 0 from by decide]; exact hF1) hP hD hS (lv_sub hl [0, 1, 2, 4] rfl))
              · have gc72 := ai_eq c72
                have u72f_r68 : r68.toInt ≤ (8 : Int) := h68_1
                have l72f_r68 : (0 : Int) ≤ r68.toInt := h68_0
                have u72f_a1 : a1.toInt ≤ (8 : Int) := u7k0_a1
                have l72f_a1 : (0 : Int) ≤ a1.toInt := l7k0_a1
                have hF1 := hF1.trans (if_pos (show r68.toInt = a1.toInt from gc72))
                refine lv_iconst (v := 1) hx hb dX8_minutesOf_75 zk_iconst_1 ?_
                refine lv_goto (tgt := 80) hx hb dX8_minutesOf_76 (by decide) ?_
                exact (hK0 _ _ _).mp (J80 1 _ _ _  (Int.le_trans zq4 zq1) zq0 (by rw [show (1 : Int32).toInt = 1 from by decide]; exact hF1) hP hD hS (lv_sub hl [0, 1, 2, 4] rfl))
        exact (hK0 _ _ _).mp (J42 1000 0 0 _ _ _ (by first | decide +kernel | (have h1 : (0 : Int) ≤ (0 : Int32).toInt := zq5; have h2 : (0 : Int32).toInt ≤ (0 : Int) := zq6; omega)) zq5 (Int.le_trans zq6 zq81) (by rw [show (0 : Int32).toInt = 0 from by decide]; exact hF0) hP hD hS (lv_sub hl [3, 4, 5, 1, 0] rfl))
    · obtain ⟨hw, h15⟩ := hw
      subst hw
      have hF0 := hF0.trans (if_neg (by decide))
      refine va_calli (va_runV (As := [.int 1, .int 0]) (rest := []) ⟨hx, hb, hml, hown, hts⟩ (f_X8_why l dC dI H.size a0 1 0 (Value.int v1na0_0) a0g_1 a0g_2 a0g_3 a0g_4 a0g_5 a0g_6 a0g_7 a0g_8 a0g_9 a0g_10 (Value.int v1na0_11) a0g_12 a0g_13 (Value.int a0_14) (Value.ref a0_15) a0g_16 (Value.ref a0_17) a0g_18 a0g_19 a0g_20 a0g_21 a0g_22 a0g_23 a0g_24 a0g_25 a0g_26 a0g_27 a0g_28 (Value.ref a0_29) (Value.int a0_30) (Value.int a0_31) a0g_32 a0g_33 a0g_34 a0g_35 a0g_36 a0g_37 a0g_38 a0g_39 (Int.le_trans zq4 zq1) zq0 zq5 (Int.le_trans zq6 zq4)) (cwV 2 hts gX8_minutesOf_X8_why rfl rfl rfl zd_X8_why ⟨Nat.le_of_ble_eq_true rfl, Nat.le_of_ble_eq_true rfl⟩) ⟨ax_blind (fun _ _ _ _ _ => trivial), zr_8 (zp_K hK) (zp_P1 hP) (q0 := 0) rfl, ax_pre (zp_P1 hP) (zp_K hK) (zp_D1 hD) (fun _ _ => trivial)⟩ rfl rfl hl.1 rfl (lv_room (Nat.le_of_ble_eq_true rfl)) dX8_minutesOf_18 ⟨Nat.le_of_ble_eq_true rfl, Nat.le_of_ble_eq_true rfl⟩) hS (fun q _ h => zp_F1 hD hS hA q h) (zp_F1 hD hS hA) (fun r18 u t H locs ht hvm hw hB hz1 hk1 hS1 => zo1 hB ht hP hD hk1 (zp_F1 hD hS hA) hS1 (fun hP hK1 hD hS => ?_))
      obtain ⟨hw, hfr18⟩ := hw
      rw [show (1 : Int32).toInt = 1 from by decide, show (0 : Int32).toInt = 0 from by decide] at hfr18
      have hc18 : Ff_X8_why 1 0 = r18.toInt := hfr18.symm
      have hF0 := hF0.trans (fl_lt_eq hc18.symm)
      rcases hw with hw | hw | hw
      · obtain ⟨hw, h18_0, h18_1, h18_2, h18_3⟩ := hw
        subst hw
        have hF0 := hF0.trans (if_pos (by decide))
        refine lv_istore_n (lv' := [(3, .int 2), (0, .ref a0), (1, .int a1), (2, .int a2)]) hx hb dX8_minutesOf_21 rfl hl (by decide) rfl (fun ls hl => ?_)
        refine lv_iload_n hx hb dX8_minutesOf_22 rfl (lv_at hl 0 rfl) ?_
        refine lv_if_eq (tgt := 32) hx hb dX8_minutesOf_23 (by decide) (fun c23 => absurd c23 (by decide +kernel)) (fun _ => ?_)
        refine lv_aload_n hx hb dX8_minutesOf_26 rfl (lv_at hl 1 rfl) ?_
        refine lv_iload_n hx hb dX8_minutesOf_27 rfl (lv_at hl 0 rfl) ?_
        refine va_calli (va_runV (As := [.int 2]) (rest := []) ⟨hx, hb, hml, hown, hts⟩ (f_X8_no l dC dI H.size a0 2 (Value.int v1na0_0) a0g_1 a0g_2 a0g_3 a0g_4 a0g_5 a0g_6 a0g_7 a0g_8 a0g_9 a0g_10 a0g_12 a0g_13 (Value.int a0_14) (Value.ref a0_15) a0g_16 (Value.ref a0_17) a0g_18 a0g_19 a0g_20 a0g_21 a0g_22 a0g_23 a0g_24 a0g_25 a0g_26 a0g_27 a0g_28 (Value.ref a0_29) (Value.int a0_30) (Value.int a0_31) a0g_32 a0g_33 a0g_34 a0g_35 a0g_36 a0g_37 a0g_38 a0g_39 v1na0_11 ) (cwV 1 hts gX8_minutesOf_X8_no rfl rfl rfl zd_X8_no ⟨Nat.le_of_ble_eq_true rfl, Nat.le_of_ble_eq_true rfl⟩) ⟨ax_blind (fun _ _ _ _ _ => trivial), zr_8 (zp_K hK) (zp_P1 hP) (q0 := 0) rfl, ax_pre (zp_P1 hP) (zp_K hK) (zp_D1 hD) (fun _ _ => trivial)⟩ rfl rfl hl.1 rfl (lv_room (Nat.le_of_ble_eq_true rfl)) dX8_minutesOf_28 ⟨Nat.le_of_ble_eq_true rfl, Nat.le_of_ble_eq_true rfl⟩) hS (fun q _ h => zp_F1 hD hS hA q h) (zp_F1 hD hS hA) (fun r28 u t H locs ht hvm hw => zx_1 (fun v28na0_11 => zy_1 (fun hraw28_0 hB hz1 hk1 hS1 => zo1 hB ht hP hD hk1 (zp_F1 hD hS hA) hS1 (fun hP hK1 hD hS => ?_))))
        obtain ⟨hw, hfr28⟩ := hw
        rw [show (2 : Int32).toInt = 2 from by decide] at hfr28 hraw28_0
        have hc28 : Ff_X8_no 2 = (r28.toInt, v28na0_11.toInt) := Prod.ext hfr28.symm hraw28_0
        have hF0 := hF0.trans (fl_c2_eq hc28)
        have hw : r28 = (-1) := hw
        have hw := hw.symm
        subst hw
        have hFe : FX = ((-1), v1na0_0.toInt, v28na0_11.toInt, a0_30.toInt, a0_31.toInt, (fl_A fa0_29)) := hF0
        exact W.iret (v := (-1)) hx hb hr (fun t ht hW => ⟨⟨(-1), (), rfl, ⟨trivial, (congrArg Prod.fst hFe).symm⟩, v1na0_0, v28na0_11, a0_30, a0_31, fa0_29, bfa0_29, (congrArg Prod.snd hFe), by rw [ht]; exact hP, va_K.moved hW.alike hK, hD⟩, hS.F ht⟩) hS.2.2 dX8_minutesOf_31
      · obtain ⟨hw, h18_0, h18_1⟩ := hw
        subst hw
        exact absurd h18_1 (by decide)
      · obtain ⟨hw, h18_0, h18_1, h18_2, h18_3⟩ := hw
        subst hw
        exact absurd h18_2 (by decide)
  · subst hw
    have hF0 := hF0.trans (if_neg (by decide))
    refine lv_iload_n hx hb dX8_minutesOf_10 rfl (lv_at hl 2 rfl) ?_
    refine lv_iconst (v := 0) hx hb dX8_minutesOf_11 zk_iconst_0 ?_
    refine lv_sipush (v := 999) hx hb dX8_minutesOf_12 zk_sipush_999 ?_
    refine va_calli (va_runS (As := [.int a2, .int 0, .int 999]) (rest := [.int 0, .ref a0]) ⟨hx, hb, hml, hown, hts⟩ (f_X8_in l dC dI H.size a2 0 999 ) (va_cwS 3 hts gX8_minutesOf_X8_in rfl rfl rfl zd_X8_in.2 ⟨Nat.le_of_ble_eq_true rfl, Nat.le_of_ble_eq_true rfl⟩) ⟨ax_blind (fun _ _ _ _ _ => trivial), ax_pre (zp_P0 hP) (zp_K hK) (zp_D0 hD) (fun _ _ => trivial)⟩ rfl rfl hl.1 rfl (lv_room (Nat.le_of_ble_eq_true rfl)) dX8_minutesOf_15 ⟨Nat.le_of_ble_eq_true rfl, Nat.le_of_ble_eq_true rfl⟩) hS (fun q _ h => zp_F0 hD hS hA q h) (zp_F0 hD hS hA) (fun r15 u t H locs ht hvm hw hB hz1 hk1 hS1 => zo0 hB ht hP hD hk1 (zp_F0 hD hS hA) hS1 (fun hP hK1 hD hS => ?_))
    obtain ⟨hw, hfr15⟩ := hw
    rw [show (0 : Int32).toInt = 0 from by decide, show (999 : Int32).toInt = 999 from by decide] at hfr15
    have hc15 : Ff_X8_in a2.toInt 0 999 = r15.toInt := hfr15.symm
    have hF0 := hF0.trans (fl_lt_eq hc15.symm)
    rcases hw with hw | hw
    · obtain ⟨hw, h15⟩ := hw
      subst hw
      have l15k0_a2 : (0 : Int) ≤ a2.toInt := Int.le_trans zq5 h15.1
      have u15k0_a2 : a2.toInt ≤ (999 : Int) := Int.le_trans h15.2 zq79
      have hF0 := hF0.trans (if_pos (by decide))
      refine va_calli (va_runV (As := [.int 0, .int 1]) (rest := []) ⟨hx, hb, hml, hown, hts⟩ (f_X8_why l dC dI H.size a0 0 1 (Value.int v1na0_0) a0g_1 a0g_2 a0g_3 a0g_4 a0g_5 a0g_6 a0g_7 a0g_8 a0g_9 a0g_10 (Value.int v1na0_11) a0g_12 a0g_13 (Value.int a0_14) (Value.ref a0_15) a0g_16 (Value.ref a0_17) a0g_18 a0g_19 a0g_20 a0g_21 a0g_22 a0g_23 a0g_24 a0g_25 a0g_26 a0g_27 a0g_28 (Value.ref a0_29) (Value.int a0_30) (Value.int a0_31) a0g_32 a0g_33 a0g_34 a0g_35 a0g_36 a0g_37 a0g_38 a0g_39 zq5 (Int.le_trans zq6 zq4) (Int.le_trans zq4 zq1) zq0) (cwV 2 hts gX8_minutesOf_X8_why rfl rfl rfl zd_X8_why ⟨Nat.le_of_ble_eq_true rfl, Nat.le_of_ble_eq_true rfl⟩) ⟨ax_blind (fun _ _ _ _ _ => trivial), zr_8 (zp_K hK) (zp_P1 hP) (q0 := 0) rfl, ax_pre (zp_P1 hP) (zp_K hK) (zp_D1 hD) (fun _ _ => trivial)⟩ rfl rfl hl.1 rfl (lv_room (Nat.le_of_ble_eq_true rfl)) dX8_minutesOf_18 ⟨Nat.le_of_ble_eq_true rfl, Nat.le_of_ble_eq_true rfl⟩) hS (fun q _ h => zp_F1 hD hS hA q h) (zp_F1 hD hS hA) (fun r18 u t H locs ht hvm hw hB hz1 hk1 hS1 => zo1 hB ht hP hD hk1 (zp_F1 hD hS hA) hS1 (fun hP hK1 hD hS => ?_))
      obtain ⟨hw, hfr18⟩ := hw
      rw [show (0 : Int32).toInt = 0 from by decide, show (1 : Int32).toInt = 1 from by decide] at hfr18
      have hc18 : Ff_X8_why 0 1 = r18.toInt := hfr18.symm
      have hF0 := hF0.trans (fl_lt_eq hc18.symm)
      rcases hw with hw | hw | hw
      · obtain ⟨hw, h18_0, h18_1, h18_2, h18_3⟩ := hw
        subst hw
        exact absurd h18_0 (by decide)
      · obtain ⟨hw, h18_0, h18_1⟩ := hw
        subst hw
        have hF0 := hF0.trans (if_neg (by decide))
        have hF0 := hF0.trans (if_pos (by decide))
        refine lv_istore_n (lv' := [(3, .int 1), (0, .ref a0), (1, .int a1), (2, .int a2)]) hx hb dX8_minutesOf_21 rfl hl (by decide) rfl (fun ls hl => ?_)
        refine lv_iload_n hx hb dX8_minutesOf_22 rfl (lv_at hl 0 rfl) ?_
        refine lv_if_eq (tgt := 32) hx hb dX8_minutesOf_23 (by decide) (fun c23 => absurd c23 (by decide +kernel)) (fun _ => ?_)
        refine lv_aload_n hx hb dX8_minutesOf_26 rfl (lv_at hl 1 rfl) ?_
        refine lv_iload_n hx hb dX8_minutesOf_27 rfl (lv_at hl 0 rfl) ?_
        refine va_calli (va_runV (As := [.int 1]) (rest := []) ⟨hx, hb, hml, hown, hts⟩ (f_X8_no l dC dI H.size a0 1 (Value.int v1na0_0) a0g_1 a0g_2 a0g_3 a0g_4 a0g_5 a0g_6 a0g_7 a0g_8 a0g_9 a0g_10 a0g_12 a0g_13 (Value.int a0_14) (Value.ref a0_15) a0g_16 (Value.ref a0_17) a0g_18 a0g_19 a0g_20 a0g_21 a0g_22 a0g_23 a0g_24 a0g_25 a0g_26 a0g_27 a0g_28 (Value.ref a0_29) (Value.int a0_30) (Value.int a0_31) a0g_32 a0g_33 a0g_34 a0g_35 a0g_36 a0g_37 a0g_38 a0g_39 v1na0_11 ) (cwV 1 hts gX8_minutesOf_X8_no rfl rfl rfl zd_X8_no ⟨Nat.le_of_ble_eq_true rfl, Nat.le_of_ble_eq_true rfl⟩) ⟨ax_blind (fun _ _ _ _ _ => trivial), zr_8 (zp_K hK) (zp_P1 hP) (q0 := 0) rfl, ax_pre (zp_P1 hP) (zp_K hK) (zp_D1 hD) (fun _ _ => trivial)⟩ rfl rfl hl.1 rfl (lv_room (Nat.le_of_ble_eq_true rfl)) dX8_minutesOf_28 ⟨Nat.le_of_ble_eq_true rfl, Nat.le_of_ble_eq_true rfl⟩) hS (fun q _ h => zp_F1 hD hS hA q h) (zp_F1 hD hS hA) (fun r28 u t H locs ht hvm hw => zx_1 (fun v28na0_11 => zy_1 (fun hraw28_0 hB hz1 hk1 hS1 => zo1 hB ht hP hD hk1 (zp_F1 hD hS hA) hS1 (fun hP hK1 hD hS => ?_))))
        obtain ⟨hw, hfr28⟩ := hw
        rw [show (1 : Int32).toInt = 1 from by decide] at hfr28 hraw28_0
        have hc28 : Ff_X8_no 1 = (r28.toInt, v28na0_11.toInt) := Prod.ext hfr28.symm hraw28_0
        have hF0 := hF0.trans (fl_c2_eq hc28)
        have hw : r28 = (-1) := hw
        have hw := hw.symm
        subst hw
        have hFe : FX = ((-1), v1na0_0.toInt, v28na0_11.toInt, a0_30.toInt, a0_31.toInt, (fl_A fa0_29)) := hF0
        exact W.iret (v := (-1)) hx hb hr (fun t ht hW => ⟨⟨(-1), (), rfl, ⟨trivial, (congrArg Prod.fst hFe).symm⟩, v1na0_0, v28na0_11, a0_30, a0_31, fa0_29, bfa0_29, (congrArg Prod.snd hFe), by rw [ht]; exact hP, va_K.moved hW.alike hK, hD⟩, hS.F ht⟩) hS.2.2 dX8_minutesOf_31
      · obtain ⟨hw, h18_0, h18_1, h18_2, h18_3⟩ := hw
        subst hw
        exact absurd h18_0 (by decide)
    · obtain ⟨hw, h15⟩ := hw
      subst hw
      have hF0 := hF0.trans (if_neg (by decide))
      refine va_calli (va_runV (As := [.int 0, .int 0]) (rest := []) ⟨hx, hb, hml, hown, hts⟩ (f_X8_why l dC dI H.size a0 0 0 (Value.int v1na0_0) a0g_1 a0g_2 a0g_3 a0g_4 a0g_5 a0g_6 a0g_7 a0g_8 a0g_9 a0g_10 (Value.int v1na0_11) a0g_12 a0g_13 (Value.int a0_14) (Value.ref a0_15) a0g_16 (Value.ref a0_17) a0g_18 a0g_19 a0g_20 a0g_21 a0g_22 a0g_23 a0g_24 a0g_25 a0g_26 a0g_27 a0g_28 (Value.ref a0_29) (Value.int a0_30) (Value.int a0_31) a0g_32 a0g_33 a0g_34 a0g_35 a0g_36 a0g_37 a0g_38 a0g_39 zq5 (Int.le_trans zq6 zq4) zq5 (Int.le_trans zq6 zq4)) (cwV 2 hts gX8_minutesOf_X8_why rfl rfl rfl zd_X8_why ⟨Nat.le_of_ble_eq_true rfl, Nat.le_of_ble_eq_true rfl⟩) ⟨ax_blind (fun _ _ _ _ _ => trivial), zr_8 (zp_K hK) (zp_P1 hP) (q0 := 0) rfl, ax_pre (zp_P1 hP) (zp_K hK) (zp_D1 hD) (fun _ _ => trivial)⟩ rfl rfl hl.1 rfl (lv_room (Nat.le_of_ble_eq_true rfl)) dX8_minutesOf_18 ⟨Nat.le_of_ble_eq_true rfl, Nat.le_of_ble_eq_true rfl⟩) hS (fun q _ h => zp_F1 hD hS hA q h) (zp_F1 hD hS hA) (fun r18 u t H locs ht hvm hw hB hz1 hk1 hS1 => zo1 hB ht hP hD hk1 (zp_F1 hD hS hA) hS1 (fun hP hK1 hD hS => ?_))
      obtain ⟨hw, hfr18⟩ := hw
      rw [show (0 : Int32).toInt = 0 from by decide] at hfr18
      have hc18 : Ff_X8_why 0 0 = r18.toInt := hfr18.symm
      have hF0 := hF0.trans (fl_lt_eq hc18.symm)
      rcases hw with hw | hw | hw
      · obtain ⟨hw, h18_0, h18_1, h18_2, h18_3⟩ := hw
        subst hw
        exact absurd h18_0 (by decide)
      · obtain ⟨hw, h18_0, h18_1⟩ := hw
        subst hw
        have hF0 := hF0.trans (if_neg (by decide))
        have hF0 := hF0.trans (if_pos (by decide))
        refine lv_istore_n (lv' := [(3, .int 1), (0, .ref a0), (1, .int a1), (2, .int a2)]) hx hb dX8_minutesOf_21 rfl hl (by decide) rfl (fun ls hl => ?_)
        refine lv_iload_n hx hb dX8_minutesOf_22 rfl (lv_at hl 0 rfl) ?_
        refine lv_if_eq (tgt := 32) hx hb dX8_minutesOf_23 (by decide) (fun c23 => absurd c23 (by decide +kernel)) (fun _ => ?_)
        refine lv_aload_n hx hb dX8_minutesOf_26 rfl (lv_at hl 1 rfl) ?_
        refine lv_iload_n hx hb dX8_minutesOf_27 rfl (lv_at hl 0 rfl) ?_
        refine va_calli (va_runV (As := [.int 1]) (rest := []) ⟨hx, hb, hml, hown, hts⟩ (f_X8_no l dC dI H.size a0 1 (Value.int v1na0_0) a0g_1 a0g_2 a0g_3 a0g_4 a0g_5 a0g_6 a0g_7 a0g_8 a0g_9 a0g_10 a0g_12 a0g_13 (Value.int a0_14) (Value.ref a0_15) a0g_16 (Value.ref a0_17) a0g_18 a0g_19 a0g_20 a0g_21 a0g_22 a0g_23 a0g_24 a0g_25 a0g_26 a0g_27 a0g_28 (Value.ref a0_29) (Value.int a0_30) (Value.int a0_31) a0g_32 a0g_33 a0g_34 a0g_35 a0g_36 a0g_37 a0g_38 a0g_39 v1na0_11 ) (cwV 1 hts gX8_minutesOf_X8_no rfl rfl rfl zd_X8_no ⟨Nat.le_of_ble_eq_true rfl, Nat.le_of_ble_eq_true rfl⟩) ⟨ax_blind (fun _ _ _ _ _ => trivial), zr_8 (zp_K hK) (zp_P1 hP) (q0 := 0) rfl, ax_pre (zp_P1 hP) (zp_K hK) (zp_D1 hD) (fun _ _ => trivial)⟩ rfl rfl hl.1 rfl (lv_room (Nat.le_of_ble_eq_true rfl)) dX8_minutesOf_28 ⟨Nat.le_of_ble_eq_true rfl, Nat.le_of_ble_eq_true rfl⟩) hS (fun q _ h => zp_F1 hD hS hA q h) (zp_F1 hD hS hA) (fun r28 u t H locs ht hvm hw => zx_1 (fun v28na0_11 => zy_1 (fun hraw28_0 hB hz1 hk1 hS1 => zo1 hB ht hP hD hk1 (zp_F1 hD hS hA) hS1 (fun hP hK1 hD hS => ?_))))
        obtain ⟨hw, hfr28⟩ := hw
        rw [show (1 : Int32).toInt = 1 from by decide] at hfr28 hraw28_0
        have hc28 : Ff_X8_no 1 = (r28.toInt, v28na0_11.toInt) := Prod.ext hfr28.symm hraw28_0
        have hF0 := hF0.trans (fl_c2_eq hc28)
        have hw : r28 = (-1) := hw
        have hw := hw.symm
        subst hw
        have hFe : FX = ((-1), v1na0_0.toInt, v28na0_11.toInt, a0_30.toInt, a0_31.toInt, (fl_A fa0_29)) := hF0
        exact W.iret (v := (-1)) hx hb hr (fun t ht hW => ⟨⟨(-1), (), rfl, ⟨trivial, (congrArg Prod.fst hFe).symm⟩, v1na0_0, v28na0_11, a0_30, a0_31, fa0_29, bfa0_29, (congrArg Prod.snd hFe), by rw [ht]; exact hP, va_K.moved hW.alike hK, hD⟩, hS.F ht⟩) hS.2.2 dX8_minutesOf_31
      · obtain ⟨hw, h18_0, h18_1, h18_2, h18_3⟩ := hw
        subst hw
        exact absurd h18_0 (by decide)
end P314_17_f
section P314_18_f
set_option maxHeartbeats 4000000 in
set_option maxRecDepth 100000 in
theorem f0_X8_why (l : Launch) (dC : Nat → ClassId) (dI : Nat → Nat → Nat) (sz : Nat) (a0 : Nat) (a1 : Int32) (a2 : Int32) (a0g_0 a0g_1 a0g_2 a0g_3 a0g_4 a0g_5 a0g_6 a0g_7 a0g_8 a0g_9 a0g_10 a0g_11 a0g_12 a0g_13 a0g_14 a0g_15 a0g_16 a0g_17 a0g_18 a0g_19 a0g_20 a0g_21 a0g_22 a0g_23 a0g_24 a0g_25 a0g_26 a0g_27 a0g_28 a0g_29 a0g_30 a0g_31 a0g_32 a0g_33 a0g_34 a0g_35 a0g_36 a0g_37 a0g_38 a0g_39 : Value) (ba1_l : (0 : Int) ≤ a1.toInt) (ba1_u : a1.toInt ≤ (1 : Int)) (ba2_l : (0 : Int) ≤ a2.toInt) (ba2_u : a2.toInt ≤ (1 : Int)) : zm l yX8_why wsX8_why ({ frames := 0, cells := 0, slots := 0, locals := 0 }) [.ref a0, .int a1, .int a2] dC dI sz [(a0, .inr (8, [a0g_0, a0g_1, a0g_2, a0g_3, a0g_4, a0g_5, a0g_6, a0g_7, a0g_8, a0g_9, a0g_10, a0g_11, a0g_12, a0g_13, a0g_14, a0g_15, a0g_16, a0g_17, a0g_18, a0g_19, a0g_20, a0g_21, a0g_22, a0g_23, a0g_24, a0g_25, a0g_26, a0g_27, a0g_28, a0g_29, a0g_30, a0g_31, a0g_32, a0g_33, a0g_34, a0g_35, a0g_36, a0g_37, a0g_38, a0g_39]))] [] (fun A _ => True) (fun A => va_Qi (fun (r : Int32) (_ : Unit) => ((r = 2 ∧ (1 : Int) ≤ a1.toInt ∧ a1.toInt ≤ (1 : Int) ∧ (0 : Int) ≤ a2.toInt ∧ a2.toInt ≤ (0 : Int)) ∨ (r = 1 ∧ (0 : Int) ≤ a1.toInt ∧ a1.toInt ≤ (0 : Int)) ∨ (r = 0 ∧ (1 : Int) ≤ a1.toInt ∧ a1.toInt ≤ (1 : Int) ∧ (1 : Int) ≤ a2.toInt ∧ a2.toInt ≤ (1 : Int))) ∧ r.toInt = Ff0_X8_why a1.toInt a2.toInt) (fun (_ : Unit) (t : State) => ax_B dC dI A [(a0, .inr (8, [a0g_0, a0g_1, a0g_2, a0g_3, a0g_4, a0g_5, a0g_6, a0g_7, a0g_8, a0g_9, a0g_10, a0g_11, a0g_12, a0g_13, a0g_14, a0g_15, a0g_16, a0g_17, a0g_18, a0g_19, a0g_20, a0g_21, a0g_22, a0g_23, a0g_24, a0g_25, a0g_26, a0g_27, a0g_28, a0g_29, a0g_30, a0g_31, a0g_32, a0g_33, a0g_34, a0g_35, a0g_36, a0g_37, a0g_38, a0g_39]))] [] t) A) := by
  refine zh (cc := cX8_why) (maxL := 3) (ret := (some .int)) zn_RX8 rfl (Nat.le_of_ble_eq_true rfl) (fun p e s m below meth c A ls hx hb hml hr hts (hown : s.vm.findClass RX8 = some m.cls) hlocks hA hS hP hK hD hE (hl : lv_has ls 3 [(0, .ref a0), (1, .int a1), (2, .int a2)]) => ?_)
  generalize hFX : Ff0_X8_why a1.toInt a2.toInt = FX at ⊢
  have hF0 := hFX.symm.trans (Ff0_X8_why.eq_1 a1.toInt a2.toInt)
  refine lv_iload_n hx hb dX8_why_0 rfl (lv_at hl 1 rfl) ?_
  refine lv_if_ne (tgt := 8) hx hb dX8_why_1 (by decide) (fun c1 => ?_) (fun c1 => ?_)
  · have gc1 := ai_ne c1
    have l1t_a1 : (1 : Int) ≤ a1.toInt := (by first | exact zg_l ba1_l gc1 (by decide) (by decide) | (have h1 := ba1_l; have h2 : (0 : Int32).toInt = 0 := (by decide); rw [h2] at gc1; omega))
    have hF0 := hF0.trans (if_neg (show ¬ (a1.toInt = 0) from  gc1))
    refine lv_iload_n hx hb dX8_why_8 rfl (lv_at hl 2 rfl) ?_
    refine lv_if_eq (tgt := 16) hx hb dX8_why_9 (by decide) (fun c9 => ?_) (fun c9 => ?_)
    · have gc9 := ai_eq c9
      have u9t_a2 : a2.toInt ≤ (0 : Int) := Int.le_trans (Int.le_of_eq gc9) zq6
      have l9t_a2 : (0 : Int) ≤ a2.toInt := ba2_l
      have hF0 := hF0.trans (if_pos (show a2.toInt = 0 from gc9))
      refine lv_iconst (v := 2) hx hb dX8_why_16 zk_iconst_2 ?_
      have hFe : FX = 2 := hF0
      exact W.iret (v := 2) hx hb hr (fun t ht hW => ⟨⟨2, (), rfl, ⟨(Or.inl ⟨rfl, l1t_a1, ba1_u, l9t_a2, u9t_a2⟩), hFe.symm⟩, by rw [ht]; exact hP, va_K.moved hW.alike hK, hD⟩, hS.F ht⟩) hS.2.2 dX8_why_17
    · have gc9 := ai_ne c9
      have l9f_a2 : (1 : Int) ≤ a2.toInt := (by first | exact zg_l ba2_l gc9 (by decide) (by decide) | (have h1 := ba2_l; have h2 : (0 : Int32).toInt = 0 := (by decide); rw [h2] at gc9; omega))
      have hF0 := hF0.trans (if_neg (show ¬ (a2.toInt = 0) from  gc9))
      refine lv_iconst (v := 0) hx hb dX8_why_12 zk_iconst_0 ?_
      refine lv_goto (tgt := 17) hx hb dX8_why_13 (by decide) ?_
      have hFe : FX = 0 := hF0
      exact W.iret (v := 0) hx hb hr (fun t ht hW => ⟨⟨0, (), rfl, ⟨(Or.inr (Or.inr (⟨rfl, l1t_a1, ba1_u, l9f_a2, ba2_u⟩))), hFe.symm⟩, by rw [ht]; exact hP, va_K.moved hW.alike hK, hD⟩, hS.F ht⟩) hS.2.2 dX8_why_17
  · have gc1 := ai_eq c1
    have u1f_a1 : a1.toInt ≤ (0 : Int) := Int.le_trans (Int.le_of_eq gc1) zq6
    have l1f_a1 : (0 : Int) ≤ a1.toInt := ba1_l
    have hF0 := hF0.trans (if_pos (show a1.toInt = 0 from gc1))
    refine lv_iconst (v := 1) hx hb dX8_why_4 zk_iconst_1 ?_
    refine lv_goto (tgt := 17) hx hb dX8_why_5 (by decide) ?_
    have hFe : FX = 1 := hF0
    exact W.iret (v := 1) hx hb hr (fun t ht hW => ⟨⟨1, (), rfl, ⟨(Or.inr (Or.inl ⟨rfl, l1f_a1, u1f_a1⟩)), hFe.symm⟩, by rw [ht]; exact hP, va_K.moved hW.alike hK, hD⟩, hS.F ht⟩) hS.2.2 dX8_why_17

set_option maxHeartbeats 4000000 in
set_option maxRecDepth 100000 in
theorem f0_X8_isFigure (l : Launch) (dC : Nat → ClassId) (dI : Nat → Nat → Nat) (sz : Nat) (a0 : Nat) (a1 : Int32) (a0g_0 a0g_1 a0g_2 a0g_3 a0g_4 a0g_5 a0g_6 a0g_7 a0g_8 a0g_9 a0g_10 a0g_11 a0g_12 a0g_13 a0g_15 a0g_16 a0g_17 a0g_18 a0g_19 a0g_20 a0g_21 a0g_22 a0g_23 a0g_24 a0g_25 a0g_26 a0g_27 a0g_28 a0g_29 a0g_30 a0g_31 a0g_32 a0g_33 a0g_34 a0g_35 a0g_36 a0g_37 a0g_38 a0g_39 : Value) (a0_14 : Int32) (ba0_14_l : (0 : Int) ≤ a0_14.toInt) (ba0_14_u : a0_14.toInt ≤ (0 : Int)) : zm l yX8_isFigure wsX8_isFigure ({ frames := 0, cells := 0, slots := 0, locals := 0 }) [.ref a0, .int a1] dC dI sz [(a0, .inr (8, [a0g_0, a0g_1, a0g_2, a0g_3, a0g_4, a0g_5, a0g_6, a0g_7, a0g_8, a0g_9, a0g_10, a0g_11, a0g_12, a0g_13, Value.int a0_14, a0g_15, a0g_16, a0g_17, a0g_18, a0g_19, a0g_20, a0g_21, a0g_22, a0g_23, a0g_24, a0g_25, a0g_26, a0g_27, a0g_28, a0g_29, a0g_30, a0g_31, a0g_32, a0g_33, a0g_34, a0g_35, a0g_36, a0g_37, a0g_38, a0g_39]))] [] (fun A _ => True) (fun A => va_Qi (fun (r : Int32) (_ : Unit) => (r = 0) ∧ r.toInt = Ff0_X8_isFigure a0_14.toInt) (fun (_ : Unit) (t : State) => ax_B dC dI A [(a0, .inr (8, [a0g_0, a0g_1, a0g_2, a0g_3, a0g_4, a0g_5, a0g_6, a0g_7, a0g_8, a0g_9, a0g_10, a0g_11, a0g_12, a0g_13, Value.int a0_14, a0g_15, a0g_16, a0g_17, a0g_18, a0g_19, a0g_20, a0g_21, a0g_22, a0g_23, a0g_24, a0g_25, a0g_26, a0g_27, a0g_28, a0g_29, a0g_30, a0g_31, a0g_32, a0g_33, a0g_34, a0g_35, a0g_36, a0g_37, a0g_38, a0g_39]))] [] t) A) := by
  refine zh (cc := cX8_isFigure) (maxL := 2) (ret := (some .boolean)) zn_RX8 rfl (Nat.le_of_ble_eq_true rfl) (fun p e s m below meth c A ls hx hb hml hr hts (hown : s.vm.findClass RX8 = some m.cls) hlocks hA hS hP hK hD hE (hl : lv_has ls 2 [(0, .ref a0), (1, .int a1)]) => ?_)
  generalize hFX : Ff0_X8_isFigure a0_14.toInt = FX at ⊢
  have hF0 := hFX.symm.trans (Ff0_X8_isFigure.eq_1 a0_14.toInt)
  refine lv_aload_n hx hb dX8_isFigure_0 rfl (lv_at hl 0 rfl) ?_
  refine va_get (D := (dC, dI)) (ci := 8) (v := .int a0_14) (C := RX8) (T := TX8) (N := 40) hx hb hts zi_X8_isFigure_8 hown hK hP 0 rfl rfl 14 (by decide) (hts (.fieldLink RX8 173 "WaxTurnsModel" "hasGallery" "Z") (List.mem_cons_of_mem _ (List.mem_append_left _ (List.mem_of_getElem? (i := 0) rfl)))) (fun _ h9 => h9) rfl dX8_isFigure_1 ?_
  refine lv_if_eq (tgt := 27) hx hb dX8_isFigure_4 (by decide) (fun c4 => ?_) (fun c4 => ?_)
  · have gc4 := ai_eq c4
    have u4t_a0_14 : a0_14.toInt ≤ (0 : Int) := ba0_14_u
    have l4t_a0_14 : (0 : Int) ≤ a0_14.toInt := ba0_14_l
    have hF0 := hF0.trans (if_pos (show a0_14.toInt = 0 from gc4))
    refine lv_iconst (v := 0) hx hb dX8_isFigure_27 zk_iconst_0 ?_
    have hFe : FX = 0 := hF0
    exact W.zret (v := 0) hx hb hr rfl (fun t ht hW => ⟨⟨0, (), rfl, ⟨rfl, hFe.symm⟩, by rw [ht]; exact hP, va_K.moved hW.alike hK, hD⟩, hS.F ht⟩) hS.2.2 dX8_isFigure_28
  · have gc4 := ai_ne c4
    have l4f_a0_14 : (1 : Int) ≤ a0_14.toInt := (by first | exact zg_l ba0_14_l gc4 (by decide) (by decide) | (have h1 := ba0_14_l; have h2 : (0 : Int32).toInt = 0 := (by decide); rw [h2] at gc4; omega))
    have u4f_a0_14 : a0_14.toInt ≤ (-1 : Int) := (by first | exact zg_u ba0_14_u gc4 (by decide) (by decide) | (have h1 := ba0_14_u; have h2 : (0 : Int32).toInt = 0 := (by decide); rw [h2] at gc4; omega))
    exact absurd (Int.le_trans l4f_a0_14 u4f_a0_14) (by decide)
end P314_18_f
section P314_19_f
set_option maxHeartbeats 4000000 in
set_option maxRecDepth 100000 in
theorem f0_X8_minutesOf (l : Launch) (dC : Nat → ClassId) (dI : Nat → Nat → Nat) (sz : Nat) (a0 : Nat) (a1 : Int32) (a2 : Int32) (a0_0 : Int32) (a0g_1 a0g_2 a0g_3 a0g_4 a0g_5 a0g_6 a0g_7 a0g_8 a0g_9 a0g_10 a0g_12 a0g_13 a0g_15 a0g_16 a0g_17 a0g_18 a0g_19 a0g_20 a0g_21 a0g_22 a0g_23 a0g_24 a0g_25 a0g_26 a0g_27 a0g_28 a0g_29 a0g_30 a0g_31 a0g_32 a0g_33 a0g_34 a0g_35 a0g_36 a0g_37 a0g_38 a0g_39 : Value) (a0_11 : Int32) (a0_14 : Int32) (ba0_14_l : (0 : Int) ≤ a0_14.toInt) (ba0_14_u : a0_14.toInt ≤ (0 : Int)) : zm l yX8_minutesOf wsX8_minutesOf ({ frames := 1, cells := 0, slots := 0, locals := 22 }) [.ref a0, .int a1, .int a2] dC dI sz [(a0, .inr (8, [Value.int a0_0, a0g_1, a0g_2, a0g_3, a0g_4, a0g_5, a0g_6, a0g_7, a0g_8, a0g_9, a0g_10, Value.int a0_11, a0g_12, a0g_13, Value.int a0_14, a0g_15, a0g_16, a0g_17, a0g_18, a0g_19, a0g_20, a0g_21, a0g_22, a0g_23, a0g_24, a0g_25, a0g_26, a0g_27, a0g_28, a0g_29, a0g_30, a0g_31, a0g_32, a0g_33, a0g_34, a0g_35, a0g_36, a0g_37, a0g_38, a0g_39]))] [] (fun A _ => True) (fun A => va_Qi (fun (r : Int32) (_ : Unit) => (r = (-1)) ∧ r.toInt = (Ff0_X8_minutesOf a2.toInt a0_14.toInt).1) (fun (_ : Unit) (t : State) => ∃ na0_0 : Int32, ∃ na0_11 : Int32, ((Ff0_X8_minutesOf a2.toInt a0_14.toInt).2 = (na0_0.toInt, na0_11.toInt)) ∧ ax_B dC dI A [(a0, .inr (8, [Value.int na0_0, a0g_1, a0g_2, a0g_3, a0g_4, a0g_5, a0g_6, a0g_7, a0g_8, a0g_9, a0g_10, Value.int na0_11, a0g_12, a0g_13, Value.int a0_14, a0g_15, a0g_16, a0g_17, a0g_18, a0g_19, a0g_20, a0g_21, a0g_22, a0g_23, a0g_24, a0g_25, a0g_26, a0g_27, a0g_28, a0g_29, a0g_30, a0g_31, a0g_32, a0g_33, a0g_34, a0g_35, a0g_36, a0g_37, a0g_38, a0g_39]))] [] t) A) := by
  refine zh (cc := cX8_minutesOf) (maxL := 6) (ret := (some .int)) zn_RX8 rfl (Nat.le_of_ble_eq_true rfl) (fun p e s m below meth c A ls hx hb hml hr hts (hown : s.vm.findClass RX8 = some m.cls) hlocks hA hS hP hK hD hE (hl : lv_has ls 6 [(0, .ref a0), (1, .int a1), (2, .int a2)]) => ?_)
  generalize hFX : Ff0_X8_minutesOf a2.toInt a0_14.toInt = FX at ⊢
  have hF0 := hFX.symm.trans (Ff0_X8_minutesOf.eq_1 a2.toInt a0_14.toInt)
  refine ai_open (fun K hK0 => ?_)
  refine (hK0 _ _ _).mpr ?_
  refine lv_aload_n hx hb dX8_minutesOf_0 rfl (lv_at hl 0 rfl) ?_
  refine va_callv (va_runV (As := []) (rest := []) ⟨hx, hb, hml, hown, hts⟩ (f_X8_good l dC dI s.heap.size a0 a0_0 a0g_1 a0g_2 a0g_3 a0g_4 a0g_5 a0g_6 a0g_7 a0g_8 a0g_9 a0g_10 a0g_12 a0g_13 (Value.int a0_14) a0g_15 a0g_16 a0g_17 a0g_18 a0g_19 a0g_20 a0g_21 a0g_22 a0g_23 a0g_24 a0g_25 a0g_26 a0g_27 a0g_28 a0g_29 a0g_30 a0g_31 a0g_32 a0g_33 a0g_34 a0g_35 a0g_36 a0g_37 a0g_38 a0g_39 a0_11 ) (cwV 0 hts gX8_minutesOf_X8_good rfl rfl rfl zd_X8_good ⟨Nat.le_of_ble_eq_true rfl, Nat.le_of_ble_eq_true rfl⟩) ⟨ax_blind (fun _ _ _ _ _ => trivial), zr_8 (zp_K hK) (zp_P1 hP) (q0 := 0) rfl, ax_pre (zp_P1 hP) (zp_K hK) (zp_D1 hD) (fun _ _ => trivial)⟩ rfl rfl hl.1 rfl (lv_room (Nat.le_of_ble_eq_true rfl)) dX8_minutesOf_1 ⟨Nat.le_of_ble_eq_true rfl, Nat.le_of_ble_eq_true rfl⟩) hS (fun q _ h => zp_F1 hD hS hA q h) (zp_F1 hD hS hA) (fun u t H locs ht hvm hw => zx_2 (fun v1na0_0 v1na0_11 => zy_1 (fun hraw1_0 hB hz1 hk1 hS1 => zo1 hB ht hP hD hk1 (zp_F1 hD hS hA) hS1 (fun hP hK1 hD hS => ?_))))
  have hc1 : Ff_X8_good = (v1na0_0.toInt, v1na0_11.toInt) := hraw1_0
  have hF0 := hF0.trans (fl_c2_eq hc1)
  refine lv_aload_n hx hb dX8_minutesOf_4 rfl (lv_at hl 0 rfl) ?_
  refine lv_aload_n hx hb dX8_minutesOf_5 rfl (lv_at hl 0 rfl) ?_
  refine lv_iload_n hx hb dX8_minutesOf_6 rfl (lv_at hl 1 rfl) ?_
  refine va_calli (va_runV (As := [.int a1]) (rest := [.ref a0]) ⟨hx, hb, hml, hown, hts⟩ (f0_X8_isFigure l dC dI H.size a0 a1 (Value.int v1na0_0) a0g_1 a0g_2 a0g_3 a0g_4 a0g_5 a0g_6 a0g_7 a0g_8 a0g_9 a0g_10 (Value.int v1na0_11) a0g_12 a0g_13 a0g_15 a0g_16 a0g_17 a0g_18 a0g_19 a0g_20 a0g_21 a0g_22 a0g_23 a0g_24 a0g_25 a0g_26 a0g_27 a0g_28 a0g_29 a0g_30 a0g_31 a0g_32 a0g_33 a0g_34 a0g_35 a0g_36 a0g_37 a0g_38 a0g_39 a0_14 ba0_14_l ba0_14_u) (cwV 1 hts gX8_minutesOf_X8_isFigure rfl rfl rfl zd_X8_isFigure ⟨Nat.le_of_ble_eq_true rfl, Nat.le_of_ble_eq_true rfl⟩) ⟨ax_blind (fun _ _ _ _ _ => trivial), zr_8 (zp_K hK) (zp_P1 hP) (q0 := 0) rfl, ax_pre (zp_P1 hP) (zp_K hK) (zp_D1 hD) (fun _ _ => trivial)⟩ rfl rfl hl.1 rfl (lv_room (Nat.le_of_ble_eq_true rfl)) dX8_minutesOf_7 ⟨Nat.le_of_ble_eq_true rfl, Nat.le_of_ble_eq_true rfl⟩) hS (fun q _ h => zp_F1 hD hS hA q h) (zp_F1 hD hS hA) (fun r7 u t H locs ht hvm hw hB hz1 hk1 hS1 => zo1 hB ht hP hD hk1 (zp_F1 hD hS hA) hS1 (fun hP hK1 hD hS => ?_))
  obtain ⟨hw, hfr7⟩ := hw
  have hc7 : Ff0_X8_isFigure a0_14.toInt = r7.toInt := hfr7.symm
  have hF0 := hF0.trans (fl_lt_eq hc7.symm)
  have hw : r7 = 0 := hw
  have hw := hw.symm
  subst hw
  refine lv_iload_n hx hb dX8_minutesOf_10 rfl (lv_at hl 2 rfl) ?_
  refine lv_iconst (v := 0) hx hb dX8_minutesOf_11 zk_iconst_0 ?_
  refine lv_sipush (v := 999) hx hb dX8_minutesOf_12 zk_sipush_999 ?_
  refine va_calli (va_runS (As := [.int a2, .int 0, .int 999]) (rest := [.int 0, .ref a0]) ⟨hx, hb, hml, hown, hts⟩ (f_X8_in l dC dI H.size a2 0 999 ) (va_cwS 3 hts gX8_minutesOf_X8_in rfl rfl rfl zd_X8_in.2 ⟨Nat.le_of_ble_eq_true rfl, Nat.le_of_ble_eq_true rfl⟩) ⟨ax_blind (fun _ _ _ _ _ => trivial), ax_pre (zp_P0 hP) (zp_K hK) (zp_D0 hD) (fun _ _ => trivial)⟩ rfl rfl hl.1 rfl (lv_room (Nat.le_of_ble_eq_true rfl)) dX8_minutesOf_15 ⟨Nat.le_of_ble_eq_true rfl, Nat.le_of_ble_eq_true rfl⟩) hS (fun q _ h => zp_F0 hD hS hA q h) (zp_F0 hD hS hA) (fun r15 u t H locs ht hvm hw hB hz1 hk1 hS1 => zo0 hB ht hP hD hk1 (zp_F0 hD hS hA) hS1 (fun hP hK1 hD hS => ?_))
  obtain ⟨hw, hfr15⟩ := hw
  rw [show (0 : Int32).toInt = 0 from by decide, show (999 : Int32).toInt = 999 from by decide] at hfr15
  have hc15 : Ff_X8_in a2.toInt 0 999 = r15.toInt := hfr15.symm
  have hF0 := hF0.trans (fl_lt_eq hc15.symm)
  rcases hw with hw | hw
  · obtain ⟨hw, h15⟩ := hw
    subst hw
    have l15k0_a2 : (0 : Int) ≤ a2.toInt := Int.le_trans zq5 h15.1
    have u15k0_a2 : a2.toInt ≤ (999 : Int) := Int.le_trans h15.2 zq79
    have hF0 := hF0.trans (if_pos (by decide))
    refine va_calli (va_runV (As := [.int 0, .int 1]) (rest := []) ⟨hx, hb, hml, hown, hts⟩ (f0_X8_why l dC dI H.size a0 0 1 (Value.int v1na0_0) a0g_1 a0g_2 a0g_3 a0g_4 a0g_5 a0g_6 a0g_7 a0g_8 a0g_9 a0g_10 (Value.int v1na0_11) a0g_12 a0g_13 (Value.int a0_14) a0g_15 a0g_16 a0g_17 a0g_18 a0g_19 a0g_20 a0g_21 a0g_22 a0g_23 a0g_24 a0g_25 a0g_26 a0g_27 a0g_28 a0g_29 a0g_30 a0g_31 a0g_32 a0g_33 a0g_34 a0g_35 a0g_36 a0g_37 a0g_38 a0g_39 zq5 (Int.le_trans zq6 zq4) (Int.le_trans zq4 zq1) zq0) (cwV 2 hts gX8_minutesOf_X8_why rfl rfl rfl zd_X8_why ⟨Nat.le_of_ble_eq_true rfl, Nat.le_of_ble_eq_true rfl⟩) ⟨ax_blind (fun _ _ _ _ _ => trivial), zr_8 (zp_K hK) (zp_P1 hP) (q0 := 0) rfl, ax_pre (zp_P1 hP) (zp_K hK) (zp_D1 hD) (fun _ _ => trivial)⟩ rfl rfl hl.1 rfl (lv_room (Nat.le_of_ble_eq_true rfl)) dX8_minutesOf_18 ⟨Nat.le_of_ble_eq_true rfl, Nat.le_of_ble_eq_true rfl⟩) hS (fun q _ h => zp_F1 hD hS hA q h) (zp_F1 hD hS hA) (fun r18 u t H locs ht hvm hw hB hz1 hk1 hS1 => zo1 hB ht hP hD hk1 (zp_F1 hD hS hA) hS1 (fun hP hK1 hD hS => ?_))
    obtain ⟨hw, hfr18⟩ := hw
    rw [show (0 : Int32).toInt = 0 from by decide, show (1 : Int32).toInt = 1 from by decide] at hfr18
    have hc18 : Ff0_X8_why 0 1 = r18.toInt := hfr18.symm
    have hF0 := hF0.trans (fl_lt_eq hc18.symm)
    rcases hw with hw | hw | hw
    · obtain ⟨hw, h18_0, h18_1, h18_2, h18_3⟩ := hw
      subst hw
      exact absurd h18_0 (by decide)
    · obtain ⟨hw, h18_0, h18_1⟩ := hw
      subst hw
      have hF0 := hF0.trans (if_neg (by decide))
      have hF0 := hF0.trans (if_pos (by decide))
      refine lv_istore_n (lv' := [(3, .int 1), (0, .ref a0), (1, .int a1), (2, .int a2)]) hx hb dX8_minutesOf_21 rfl hl (by decide) rfl (fun ls hl => ?_)
      refine lv_iload_n hx hb dX8_minutesOf_22 rfl (lv_at hl 0 rfl) ?_
      refine lv_if_eq (tgt := 32) hx hb dX8_minutesOf_23 (by decide) (fun c23 => absurd c23 (by decide +kernel)) (fun _ => ?_)
      refine lv_aload_n hx hb dX8_minutesOf_26 rfl (lv_at hl 1 rfl) ?_
      refine lv_iload_n hx hb dX8_minutesOf_27 rfl (lv_at hl 0 rfl) ?_
      refine va_calli (va_runV (As := [.int 1]) (rest := []) ⟨hx, hb, hml, hown, hts⟩ (f_X8_no l dC dI H.size a0 1 (Value.int v1na0_0) a0g_1 a0g_2 a0g_3 a0g_4 a0g_5 a0g_6 a0g_7 a0g_8 a0g_9 a0g_10 a0g_12 a0g_13 (Value.int a0_14) a0g_15 a0g_16 a0g_17 a0g_18 a0g_19 a0g_20 a0g_21 a0g_22 a0g_23 a0g_24 a0g_25 a0g_26 a0g_27 a0g_28 a0g_29 a0g_30 a0g_31 a0g_32 a0g_33 a0g_34 a0g_35 a0g_36 a0g_37 a0g_38 a0g_39 v1na0_11 ) (cwV 1 hts gX8_minutesOf_X8_no rfl rfl rfl zd_X8_no ⟨Nat.le_of_ble_eq_true rfl, Nat.le_of_ble_eq_true rfl⟩) ⟨ax_blind (fun _ _ _ _ _ => trivial), zr_8 (zp_K hK) (zp_P1 hP) (q0 := 0) rfl, ax_pre (zp_P1 hP) (zp_K hK) (zp_D1 hD) (fun _ _ => trivial)⟩ rfl rfl hl.1 rfl (lv_room (Nat.le_of_ble_eq_true rfl)) dX8_minutesOf_28 ⟨Nat.le_of_ble_eq_true rfl, Nat.le_of_ble_eq_true rfl⟩) hS (fun q _ h => zp_F1 hD hS hA q h) (zp_F1 hD hS hA) (fun r28 u t H locs ht hvm hw => zx_1 (fun v28na0_11 => zy_1 (fun hraw28_0 hB hz1 hk1 hS1 => zo1 hB ht hP hD hk1 (zp_F1 hD hS hA) hS1 (fun hP hK1 hD hS => ?_))))
      obtain ⟨hw, hfr28⟩ := hw
      rw [show (1 : Int32).toInt = 1 from by decide] at hfr28 hraw28_0
      have hc28 : Ff_X8_no 1 = (r28.toInt, v28na0_11.toInt) := Prod.ext hfr28.symm hraw28_0
      have hF0 := hF0.trans (fl_c2_eq hc28)
      have hw : r28 = (-1) := hw
      have hw := hw.symm
      subst hw
      have hFe : FX = ((-1), v1na0_0.toInt, v28na0_11.toInt) := hF0
      exact W.iret (v := (-1)) hx hb hr (fun t ht hW => ⟨⟨(-1), (), rfl, ⟨rfl, (congrArg Prod.fst hFe).symm⟩, v1na0_0, v28na0_11, (congrArg Prod.snd hFe), by rw [ht]; exact hP, va_K.moved hW.alike hK, hD⟩, hS.F ht⟩) hS.2.2 dX8_minutesOf_31
    · obtain ⟨hw, h18_0, h18_1, h18_2, h18_3⟩ := hw
      subst hw
      exact absurd h18_0 (by decide)
  · obtain ⟨hw, h15⟩ := hw
    subst hw
    have hF0 := hF0.trans (if_neg (by decide))
    refine va_calli (va_runV (As := [.int 0, .int 0]) (rest := []) ⟨hx, hb, hml, hown, hts⟩ (f0_X8_why l dC dI H.size a0 0 0 (Value.int v1na0_0) a0g_1 a0g_2 a0g_3 a0g_4 a0g_5 a0g_6 a0g_7 a0g_8 a0g_9 a0g_10 (Value.int v1na0_11) a0g_12 a0g_13 (Value.int a0_14) a0g_15 a0g_16 a0g_17 a0g_18 a0g_19 a0g_20 a0g_21 a0g_22 a0g_23 a0g_24 a0g_25 a0g_26 a0g_27 a0g_28 a0g_29 a0g_30 a0g_31 a0g_32 a0g_33 a0g_34 a0g_35 a0g_36 a0g_37 a0g_38 a0g_39 zq5 (Int.le_trans zq6 zq4) zq5 (Int.le_trans zq6 zq4)) (cwV 2 hts gX8_minutesOf_X8_why rfl rfl rfl zd_X8_why ⟨Nat.le_of_ble_eq_true rfl, Nat.le_of_ble_eq_true rfl⟩) ⟨ax_blind (fun _ _ _ _ _ => trivial), zr_8 (zp_K hK) (zp_P1 hP) (q0 := 0) rfl, ax_pre (zp_P1 hP) (zp_K hK) (zp_D1 hD) (fun _ _ => trivial)⟩ rfl rfl hl.1 rfl (lv_room (Nat.le_of_ble_eq_true rfl)) dX8_minutesOf_18 ⟨Nat.le_of_ble_eq_true rfl, Nat.le_of_ble_eq_true rfl⟩) hS (fun q _ h => zp_F1 hD hS hA q h) (zp_F1 hD hS hA) (fun r18 u t H locs ht hvm hw hB hz1 hk1 hS1 => zo1 hB ht hP hD hk1 (zp_F1 hD hS hA) hS1 (fun hP hK1 hD hS => ?_))
    obtain ⟨hw, hfr18⟩ := hw
    rw [show (0 : Int32).toInt = 0 from by decide] at hfr18
    have hc18 : Ff0_X8_why 0 0 = r18.toInt := hfr18.symm
    have hF0 := hF0.trans (fl_lt_eq hc18.symm)
    rcases hw with hw | hw | hw
    · obtain ⟨hw, h18_0, h18_1, h18_2, h18_3⟩ := hw
      subst hw
      exact absurd h18_0 (by decide)
    · obtain ⟨hw, h18_0, h18_1⟩ := hw
      subst hw
      have hF0 := hF0.trans (if_neg (by decide))
      have hF0 := hF0.trans (if_pos (by decide))
      refine lv_istore_n (lv' := [(3, .int 1), (0, .ref a0), (1, .int a1), (2, .int a2)]) hx hb dX8_minutesOf_21 rfl hl (by decide) rfl (fun ls hl => ?_)
      refine lv_iload_n hx hb dX8_minutesOf_22 rfl (lv_at hl 0 rfl) ?_
      refine lv_if_eq (tgt := 32) hx hb dX8_minutesOf_23 (by decide) (fun c23 => absurd c23 (by decide +kernel)) (fun _ => ?_)
      refine lv_aload_n hx hb dX8_minutesOf_26 rfl (lv_at hl 1 rfl) ?_
      refine lv_iload_n hx hb dX8_minutesOf_27 rfl (lv_at hl 0 rfl) ?_
      refine va_calli (va_runV (As := [.int 1]) (rest := []) ⟨hx, hb, hml, hown, hts⟩ (f_X8_no l dC dI H.size a0 1 (Value.int v1na0_0) a0g_1 a0g_2 a0g_3 a0g_4 a0g_5 a0g_6 a0g_7 a0g_8 a0g_9 a0g_10 a0g_12 a0g_13 (Value.int a0_14) a0g_15 a0g_16 a0g_17 a0g_18 a0g_19 a0g_20 a0g_21 a0g_22 a0g_23 a0g_24 a0g_25 a0g_26 a0g_27 a0g_28 a0g_29 a0g_30 a0g_31 a0g_32 a0g_33 a0g_34 a0g_35 a0g_36 a0g_37 a0g_38 a0g_39 v1na0_11 ) (cwV 1 hts gX8_minutesOf_X8_no rfl rfl rfl zd_X8_no ⟨Nat.le_of_ble_eq_true rfl, Nat.le_of_ble_eq_true rfl⟩) ⟨ax_blind (fun _ _ _ _ _ => trivial), zr_8 (zp_K hK) (zp_P1 hP) (q0 := 0) rfl, ax_pre (zp_P1 hP) (zp_K hK) (zp_D1 hD) (fun _ _ => trivial)⟩ rfl rfl hl.1 rfl (lv_room (Nat.le_of_ble_eq_true rfl)) dX8_minutesOf_28 ⟨Nat.le_of_ble_eq_true rfl, Nat.le_of_ble_eq_true rfl⟩) hS (fun q _ h => zp_F1 hD hS hA q h) (zp_F1 hD hS hA) (fun r28 u t H locs ht hvm hw => zx_1 (fun v28na0_11 => zy_1 (fun hraw28_0 hB hz1 hk1 hS1 => zo1 hB ht hP hD hk1 (zp_F1 hD hS hA) hS1 (fun hP hK1 hD hS => ?_))))
      obtain ⟨hw, hfr28⟩ := hw
      rw [show (1 : Int32).toInt = 1 from by decide] at hfr28 hraw28_0
      have hc28 : Ff_X8_no 1 = (r28.toInt, v28na0_11.toInt) := Prod.ext hfr28.symm hraw28_0
      have hF0 := hF0.trans (fl_c2_eq hc28)
      have hw : r28 = (-1) := hw
      have hw := hw.symm
      subst hw
      have hFe : FX = ((-1), v1na0_0.toInt, v28na0_11.toInt) := hF0
      exact W.iret (v := (-1)) hx hb hr (fun t ht hW => ⟨⟨(-1), (), rfl, ⟨rfl, (congrArg Prod.fst hFe).symm⟩, v1na0_0, v28na0_11, (congrArg Prod.snd hFe), by rw [ht]; exact hP, va_K.moved hW.alike hK, hD⟩, hS.F ht⟩) hS.2.2 dX8_minutesOf_31
    · obtain ⟨hw, h18_0, h18_1, h18_2, h18_3⟩ := hw
      subst hw
      exact absurd h18_0 (by decide)
end P314_19_f
section P400_frame
section FRAME
theorem met_mono {l : Launch} {y : MethodName} {ws : List Cond} {rm : Room} {Pc Pc' : Array Value → State → Prop} {Qc Qc' : Array Value → State → Outcome → State → Prop} {mc ms : Nat} {free free' : Addr → Prop}
    (h : Met l y ws rm Pc Qc mc ms free) (hP : ∀ a U, Pc' a U → Pc a U) (hQ : ∀ a U o t L, Pc' a U → FrameEnd U o t L mc ms → Qc a U o t → Qc' a U o t) (hf : ∀ q, free q → free' q) : Met l y ws rm Pc' Qc' mc ms free' := by
  intro p e h1 h2 h3 s m args below h4 h5 h6 h7
  obtain ⟨n, o, a1, a2, a3, a4, L, a5, a6⟩ := h p e h1 h2 h3 s m args below h4 h5 (hP _ _ h6) h7
  exact ⟨n, o, a1, a2, a3, hQ _ _ _ _ _ h6 a5 a4, L, a5, fun q hq => hf _ (a6 q hq)⟩
theorem fr_at {w wc : va_W} {is : List Nat} (hC : is.map (fun i => w[i]?) = wc.map some) {j k : Nat} (hj : is[j]? = some k) : ∃ q, wc[j]? = some q ∧ w[k]? = some q := by
  have h1 : (is.map (fun i => w[i]?))[j]? = some (w[k]?) := by rw [List.getElem?_map, hj]; rfl
  rw [hC, List.getElem?_map] at h1
  cases hq : wc[j]? with
  | none => rw [hq] at h1; cases h1
  | some q => rw [hq] at h1; exact ⟨q, rfl, (Option.some.inj h1).symm⟩
theorem fr_len {w wc : va_W} {is : List Nat} (hC : is.map (fun i => w[i]?) = wc.map some) : is.length = wc.length := by
  have h := congrArg List.length hC
  simpa using h
theorem fr_w2 {A0 : Nat → Prop} {D : va_G} {cl : List vw_C} {w wc wr w1 w2 : va_W} {H H1 : Heap} {n : Nat} (is rs : List Nat) (hP : va_P D cl w H) (hD : va_D A0 w) (hC : is.map (fun i => w[i]?) = wc.map some) (hR : rs.map (fun i => w[i]?) = wr.map some) (ha : w1.map (fun q => q.1) = wc.map (fun q => q.1)) (h1 : is.map (fun i => w2[i]?) = w1.map some) (h2 : rs.map (fun i => w2[i]?) = wr.map some)
    (hl : w2.length = n) (hcov : (List.range n).all (fun k => is.contains k || rs.contains k) = true) (hk : ∀ q : Nat, q < H.size → ¬ va_A wc H.size q → H1[q]? = H[q]?) (hP1 : va_P D cl w1 H1) : va_P D cl w2 H1 ∧ va_D A0 w2 := by
  have cov : ∀ (k : Nat) (q : Nat × va_E), w2[k]? = some q → (∃ j : Nat, is[j]? = some k ∧ w1[j]? = some q) ∨ (k ∉ is ∧ w[k]? = some q) := by
    intro k q h
    have hlt : k < n := by rw [← hl]; exact (List.getElem?_eq_some_iff.mp h).1
    have hb := List.all_eq_true.mp hcov k (List.mem_range.mpr hlt)
    by_cases hi : k ∈ is
    · obtain ⟨j, hj⟩ := List.mem_iff_getElem?.mp hi
      obtain ⟨p, g1, g2⟩ := fr_at h1 hj
      rw [h] at g2
      exact Or.inl ⟨j, hj, by rw [g1, ← Option.some.inj g2]⟩
    · have hr : k ∈ rs := by
        rcases Bool.or_eq_true _ _ |>.mp hb with z | z
        · exact absurd (List.contains_iff_mem.mp z) hi
        · exact List.contains_iff_mem.mp z
      obtain ⟨j, hj⟩ := List.mem_iff_getElem?.mp hr
      obtain ⟨p, g1, g2⟩ := fr_at h2 hj
      obtain ⟨p', g3, g4⟩ := fr_at hR hj
      rw [g1] at g3
      have e := Option.some.inj g3
      subst e
      rw [h] at g2
      exact Or.inr ⟨hi, by rw [g4, ← Option.some.inj g2]⟩
  have adr : ∀ (k : Nat) (q : Nat × va_E), w2[k]? = some q → ∃ p, w[k]? = some p ∧ p.1 = q.1 := by
    intro k q h
    rcases cov k q h with ⟨j, a, b⟩ | ⟨a, b⟩
    · obtain ⟨p, g1, g2⟩ := fr_at hC a
      refine ⟨p, g2, ?_⟩
      have h3 : (w1.map (fun q => q.1))[j]? = some q.1 := by rw [List.getElem?_map, b]; rfl
      rw [ha, List.getElem?_map, g1] at h3
      exact Option.some.inj h3
    · exact ⟨q, b, rfl⟩
  refine ⟨fun k q h => ?_, ⟨fun i j p q a1 a2 a3 => ?_, fun k q h => ?_⟩⟩
  · rcases cov k q h with ⟨j, a, b⟩ | ⟨a, b⟩
    · exact hP1 j q b
    · have hq := hP k q b
      refine hq.kept (hk q.1 hq.lt (fun h9 => ?_))
      rcases h9 with ⟨j, e, h9⟩ | h9
      · have hj : ∃ m, is[j]? = some m := by
          have hlt : j < wc.length := (List.getElem?_eq_some_iff.mp h9).1
          rw [← fr_len hC] at hlt
          exact ⟨is[j], List.getElem?_eq_getElem hlt⟩
        obtain ⟨m, hm⟩ := hj
        obtain ⟨p, g1, g2⟩ := fr_at hC hm
        rw [g1] at h9
        have e2 := hD.1 k m q p b g2 (by rw [Option.some.inj h9])
        subst e2
        exact a (List.mem_of_getElem? hm)
      · have := hq.lt; omega
  · obtain ⟨p1, b1, c1⟩ := adr i p a1
    obtain ⟨p2, b2, c2⟩ := adr j q a2
    exact hD.1 i j p1 p2 b1 b2 (by rw [c1, c2]; exact a3)
  · obtain ⟨p1, b1, c1⟩ := adr k q h
    rw [← c1]; exact hD.2 k p1 b1
theorem fr_sub {w wc : va_W} {is : List Nat} (hC : is.map (fun i => w[i]?) = wc.map some) {sz : Nat} : ∀ q, va_A wc sz q → va_A w sz q := by
  intro q h
  rcases h with ⟨j, e, h⟩ | h
  · have hj : ∃ m, is[j]? = some m := by
      have hlt : j < wc.length := (List.getElem?_eq_some_iff.mp h).1
      rw [← fr_len hC] at hlt
      exact ⟨is[j], List.getElem?_eq_getElem hlt⟩
    obtain ⟨m, hm⟩ := hj
    obtain ⟨p, g1, g2⟩ := fr_at hC hm
    rw [h] at g1
    have e1 := Option.some.inj g1
    exact Or.inl ⟨m, e, by rw [g2, ← e1]⟩
  · exact Or.inr h
theorem fr_P {D : va_G} {cl : List vw_C} {w wc : va_W} {is : List Nat} {H : Heap} (hC : is.map (fun i => w[i]?) = wc.map some) (hP : va_P D cl w H) : va_P D cl wc H := by
  intro j q h
  have hj : ∃ m, is[j]? = some m := by
    have hlt : j < wc.length := (List.getElem?_eq_some_iff.mp h).1
    rw [← fr_len hC] at hlt
    exact ⟨is[j], List.getElem?_eq_getElem hlt⟩
  obtain ⟨m, hm⟩ := hj
  obtain ⟨p, g1, g2⟩ := fr_at hC hm
  rw [h] at g1
  have e1 := Option.some.inj g1
  subst e1
  exact hP m _ g2
/-- the frame rule for contracts that answer an int: the callee's cells among more -/
theorem fr_i {l : Launch} {y : MethodName} {ws : List Cond} {rm : Room} {av : List Value} {dC : Nat → ClassId} {dI : Nat → Nat → Nat} {sz : Nat} {w wc wr : va_W} {tys tysc : List (ClassId × FieldType)} {E E' : State → Prop} {S : Type} {post : Int32 → S → Prop} {post' : Int32 → Prop} {B : S → State → Prop} {J : va_W → List (ClassId × FieldType) → Prop}
    (hM : Met l y ws rm (va_Pc av (ax_C dC dI sz wc tysc E)) (va_Qi post B (va_A wc sz)) 0 0 (va_A wc sz)) (is rs it : List Nat) (n : Nat) (hcov : (List.range n).all (fun k => is.contains k || rs.contains k) = true) (hR : rs.map (fun i => w[i]?) = wr.map some) (hC : is.map (fun i => w[i]?) = wc.map some) (hn : va_nd is = true) (hT : it.filterMap (fun i => tys[i]?) = tysc)
    (hE : ∀ U, E' U → E U) 
    (hB : ∀ r u t, post r u → B u t → post' r ∧ ∃ w1, ax_B dC dI (va_A wc sz) w1 tysc t ∧ w1.map (fun q => q.1) = wc.map (fun q => q.1) ∧ ∃ w2 : va_W, is.map (fun i => w2[i]?) = w1.map some ∧ rs.map (fun i => w2[i]?) = wr.map some ∧ w2.length = n ∧ J w2 tys) :
    Met l y ws rm (va_Pc av (ax_C dC dI sz w tys E')) (va_Qi (fun r (_ : Unit) => post' r) (fun _ t => ∃ wx ty, J wx ty ∧ ax_B dC dI (va_A w sz) wx ty t) (va_A w sz)) 0 0 (va_A w sz) := by
  refine met_mono hM ?_ ?_ (fr_sub hC)
  · intro a U h
    obtain ⟨rfl, hsz, hP, hK, hD, hE'⟩ := h
    exact ⟨rfl, hsz, fr_P hC hP, hK.sub it hT, hD.sub is hn hC, hE U hE'⟩
  · intro a U o t L hpre hfe hq
    obtain ⟨rfl, hsz, hP, hK, hD, hE'⟩ := hpre
    obtain ⟨⟨r, u, ho, hp, hb⟩, hF⟩ := hq
    obtain ⟨hp', w1, ⟨hP1, hK1, hD1⟩, ha, w2, q1, q2, q3, hJ⟩ := hB r u t hp hb
    subst hsz
    obtain ⟨g1, g2⟩ := fr_w2 (A0 := va_A w U.heap.size) is rs hP hD.self hC hR ha q1 q2 q3 hcov hF.2 hP1
    exact ⟨⟨r, (), ho, hp', _, _, hJ, g1, va_K.moved hfe.2.1.alike hK, g2⟩, hF.1, fun q h1 h2 => hF.2 q h1 (fun z => h2 (fr_sub hC q z))⟩
theorem fr_l {l : Launch} {y : MethodName} {ws : List Cond} {rm : Room} {av : List Value} {dC : Nat → ClassId} {dI : Nat → Nat → Nat} {sz : Nat} {w wc wr : va_W} {tys tysc : List (ClassId × FieldType)} {E E' : State → Prop} {S : Type} {post : Int64 → S → Prop} {B : S → State → Prop} {J : va_W → List (ClassId × FieldType) → Prop}
    (hM : Met l y ws rm (va_Pc av (ax_C dC dI sz wc tysc E)) (va_Ql post B (va_A wc sz)) 0 0 (va_A wc sz)) (is rs it : List Nat) (n : Nat) (hcov : (List.range n).all (fun k => is.contains k || rs.contains k) = true) (hR : rs.map (fun i => w[i]?) = wr.map some) (hC : is.map (fun i => w[i]?) = wc.map some) (hn : va_nd is = true) (hT : it.filterMap (fun i => tys[i]?) = tysc)
    (hE : ∀ U, E' U → E U)
    (hB : ∀ r u t, post r u → B u t → ∃ w1, ax_B dC dI (va_A wc sz) w1 tysc t ∧ w1.map (fun q => q.1) = wc.map (fun q => q.1) ∧ ∃ w2 : va_W, is.map (fun i => w2[i]?) = w1.map some ∧ rs.map (fun i => w2[i]?) = wr.map some ∧ w2.length = n ∧ J w2 tys) :
    Met l y ws rm (va_Pc av (ax_C dC dI sz w tys E')) (va_Ql (fun _ (_ : Unit) => True) (fun _ t => ∃ wx ty, J wx ty ∧ ax_B dC dI (va_A w sz) wx ty t) (va_A w sz)) 0 0 (va_A w sz) := by
  refine met_mono hM ?_ ?_ (fr_sub hC)
  · intro a U h
    obtain ⟨rfl, hsz, hP, hK, hD, hE'⟩ := h
    exact ⟨rfl, hsz, fr_P hC hP, hK.sub it hT, hD.sub is hn hC, hE U hE'⟩
  · intro a U o t L hpre hfe hq
    obtain ⟨rfl, hsz, hP, hK, hD, hE'⟩ := hpre
    obtain ⟨⟨r, u, ho, hp, hb⟩, hF⟩ := hq
    obtain ⟨w1, ⟨hP1, hK1, hD1⟩, ha, w2, q1, q2, q3, hJ⟩ := hB r u t hp hb
    subst hsz
    obtain ⟨g1, g2⟩ := fr_w2 (A0 := va_A w U.heap.size) is rs hP hD.self hC hR ha q1 q2 q3 hcov hF.2 hP1
    exact ⟨⟨r, (), ho, trivial, _, _, hJ, g1, va_K.moved hfe.2.1.alike hK, g2⟩, hF.1, fun q h1 h2 => hF.2 q h1 (fun z => h2 (fr_sub hC q z))⟩
/-- the same, the cells and types in another order behind it -/
theorem fr_ip {l : Launch} {y : MethodName} {ws : List Cond} {rm : Room} {av : List Value} {dC : Nat → ClassId} {dI : Nat → Nat → Nat} {sz : Nat} {w wc wr : va_W} {tys tysc : List (ClassId × FieldType)} {E E' : State → Prop} {S : Type} {post : Int32 → S → Prop} {post' : Int32 → Prop} {B : S → State → Prop} {J : va_W → List (ClassId × FieldType) → Prop}
    (hM : Met l y ws rm (va_Pc av (ax_C dC dI sz wc tysc E)) (va_Qi post B (va_A wc sz)) 0 0 (va_A wc sz)) (is rs it : List Nat) (n : Nat) (hcov : (List.range n).all (fun k => is.contains k || rs.contains k) = true) (hR : rs.map (fun i => w[i]?) = wr.map some) (hC : is.map (fun i => w[i]?) = wc.map some) (hn : va_nd is = true) (hT : it.filterMap (fun i => tys[i]?) = tysc)
    (hE : ∀ U, E' U → E U)
    (hB : ∀ r u t, post r u → B u t → post' r ∧ ∃ w1, ax_B dC dI (va_A wc sz) w1 tysc t ∧ w1.map (fun q => q.1) = wc.map (fun q => q.1) ∧ ∃ (ord ot : List Nat) (w2 w3 : va_W) (ty : List (ClassId × FieldType)), is.map (fun i => w3[i]?) = w1.map some ∧ rs.map (fun i => w3[i]?) = wr.map some ∧ w3.length = n ∧ ord.map (fun i => w3[i]?) = w2.map some ∧ va_nd ord = true ∧ ot.filterMap (fun i => tys[i]?) = ty ∧ J w2 ty) :
    Met l y ws rm (va_Pc av (ax_C dC dI sz w tys E')) (va_Qi (fun r (_ : Unit) => post' r) (fun _ t => ∃ wx ty, J wx ty ∧ ax_B dC dI (va_A w sz) wx ty t) (va_A w sz)) 0 0 (va_A w sz) := by
  refine met_mono hM ?_ ?_ (fr_sub hC)
  · intro a U h
    obtain ⟨rfl, hsz, hP, hK, hD, hE'⟩ := h
    exact ⟨rfl, hsz, fr_P hC hP, hK.sub it hT, hD.sub is hn hC, hE U hE'⟩
  · intro a U o t L hpre hfe hq
    obtain ⟨rfl, hsz, hP, hK, hD, hE'⟩ := hpre
    obtain ⟨⟨r, u, ho, hp, hb⟩, hF⟩ := hq
    obtain ⟨hp', w1, ⟨hP1, hK1, hD1⟩, ha, ord, ot, w2, w3, ty, q1, q2, q3, h1, h2, h3, hJ⟩ := hB r u t hp hb
    subst hsz
    obtain ⟨g1, g2⟩ := fr_w2 (A0 := va_A w U.heap.size) is rs hP hD.self hC hR ha q1 q2 q3 hcov hF.2 hP1
    exact ⟨⟨r, (), ho, hp', _, _, hJ, fr_P h1 g1, (va_K.moved hfe.2.1.alike hK).sub ot h3, g2.sub ord h2 h1⟩, hF.1, fun q h1 h2 => hF.2 q h1 (fun z => h2 (fr_sub hC q z))⟩
theorem room_mono {s : State} {pl : Platform} {q q' : Room} (h1 : q.frames ≤ q'.frames) (h2 : q.locals ≤ q'.locals) (h3 : q.cells ≤ q'.cells) (h4 : q.slots ≤ q'.slots) (h : s.hasRoom pl q' = true) : s.hasRoom pl q = true := by
  unfold State.hasRoom at h ⊢
  simp only [Bool.and_eq_true, decide_eq_true_eq] at h ⊢
  obtain ⟨⟨⟨⟨a, b1, b2, b3, b4, b5⟩, c⟩, d⟩, e⟩ := h
  exact ⟨⟨⟨⟨by omega, by omega, by omega, by omega, by omega, b5⟩, by omega⟩, by omega⟩, e⟩
theorem met_room {l : Launch} {y : MethodName} {ws : List Cond} {f f' k sl lo lo' : Nat} {Pc : Array Value → State → Prop} {Qc : Array Value → State → Outcome → State → Prop} {mc ms : Nat} {free : Addr → Prop} (h : Met l y ws ({ frames := f, cells := k, slots := sl, locals := lo }) Pc Qc mc ms free) (h1 : f ≤ f') (h2 : lo ≤ lo') : Met l y ws ({ frames := f', cells := k, slots := sl, locals := lo' }) Pc Qc mc ms free := by
  intro p e h3 h4 h5 s m args below h6 h7 h8 h9
  have q := (Spec.appliesLoose_iff h6).mp h7
  exact h p e h3 h4 h5 s m args below h6 ((Spec.appliesLoose_iff h6).mpr ⟨q.1, q.2.1, q.2.2.1, q.2.2.2.1, q.2.2.2.2.1, q.2.2.2.2.2.1, room_mono (q := ({ frames := f, cells := k, slots := sl, locals := lo } : Room)) (q' := ({ frames := f', cells := k, slots := sl, locals := lo' } : Room)) h1 h2 (Nat.le_refl _) (Nat.le_refl _) q.2.2.2.2.2.2.1, q.2.2.2.2.2.2.2⟩) h8 h9
end FRAME
theorem sx_Z_sub {A B : Nat → Prop} {U : State} (h : sx_Z A U) (hAB : ∀ q, B q → A q) : sx_Z B U := ⟨h.1.narrow hAB, h.2.narrow hAB⟩
end P400_frame
