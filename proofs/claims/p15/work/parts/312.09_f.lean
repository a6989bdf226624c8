set_option maxHeartbeats 4000000 in
set_option maxRecDepth 100000 in
theorem fG_X8_readLine (l : Launch) (dC : Nat → ClassId) (dI : Nat → Nat → Nat) (sz : Nat) (a0 : Nat) (a0g_0 a0g_2 a0g_11 a0g_14 a0g_15 a0g_17 a0g_18 a0g_19 a0g_20 a0g_21 a0g_22 a0g_23 a0g_24 a0g_25 a0g_26 a0g_27 a0g_28 a0g_29 a0g_30 a0g_31 a0g_32 a0g_33 a0g_34 a0g_35 a0g_36 a0g_37 a0g_38 a0g_39 : Value) (a0_1 : Nat) (a0_3 : Int32) (a0_4 : Int32) (a0_5 : Int32) (a0_6 : Int32) (a0_7 : Int32) (a0_8 : Int32) (a0_9 : Int32) (a0_10 : Int32) (a0_12 : Nat) (a0_16 : Nat) (ka0_12 : ClassId) (fa0_12 : Nat → Int32) (ka0_16 : ClassId) (fa0_16 : Nat → Int32) (ka0_1 : ClassId) (fa0_1 : Nat → Int32) (ad : Nat → Nat) (ba0_3_l : (0 : Int) ≤ a0_3.toInt) (ba0_3_u : a0_3.toInt ≤ (900 : Int)) (ba0_5_l : (0 : Int) ≤ a0_5.toInt) (ba0_5_u : a0_5.toInt ≤ (900 : Int)) (ba0_8_l : (0 : Int) ≤ a0_8.toInt) (ba0_8_u : a0_8.toInt ≤ (900 : Int)) (bfa0_16 : ((∀ k : Nat, 0 ≤ k → k ≤ 0 → (0 : Int) ≤ (fa0_16 k).toInt ∧ (fa0_16 k).toInt ≤ 9) ∧ (∀ k : Nat, 1 ≤ k → k ≤ 1 → (0 : Int) ≤ (fa0_16 k).toInt ∧ (fa0_16 k).toInt ≤ 20) ∧ (∀ k : Nat, 2 ≤ k → k ≤ 2 → (0 : Int) ≤ (fa0_16 k).toInt ∧ (fa0_16 k).toInt ≤ 8) ∧ (∀ k : Nat, 3 ≤ k → k ≤ 3 → (0 : Int) ≤ (fa0_16 k).toInt ∧ (fa0_16 k).toInt ≤ 100) ∧ (∀ k : Nat, 4 ≤ k → k ≤ 4 → (0 : Int) ≤ (fa0_16 k).toInt ∧ (fa0_16 k).toInt ≤ 9) ∧ (∀ k : Nat, 5 ≤ k → k ≤ 5 → (0 : Int) ≤ (fa0_16 k).toInt ∧ (fa0_16 k).toInt ≤ 3) ∧ (∀ k : Nat, 6 ≤ k → k ≤ 6 → (0 : Int) ≤ (fa0_16 k).toInt ∧ (fa0_16 k).toInt ≤ 6) ∧ (∀ k : Nat, 7 ≤ k → k ≤ 9 → (0 : Int) ≤ (fa0_16 k).toInt ∧ (fa0_16 k).toInt ≤ 8) ∧ (∀ k : Nat, 10 ≤ k → k ≤ 11 → (0 : Int) ≤ (fa0_16 k).toInt ∧ (fa0_16 k).toInt ≤ 1) ∧ (∀ k : Nat, 12 ≤ k → k ≤ 29 → (0 : Int) ≤ (fa0_16 k).toInt ∧ (fa0_16 k).toInt ≤ 20) ∧ (∀ k : Nat, 30 ≤ k → k ≤ 35 → (0 : Int) ≤ (fa0_16 k).toInt ∧ (fa0_16 k).toInt ≤ 8) ∧ (∀ k : Nat, 36 ≤ k → k ≤ 47 → (0 : Int) ≤ (fa0_16 k).toInt ∧ (fa0_16 k).toInt ≤ 999) ∧ (∀ k : Nat, 48 ≤ k → k ≤ 59 → (0 : Int) ≤ (fa0_16 k).toInt ∧ (fa0_16 k).toInt ≤ 8) ∧ ((1 : Int) ≤ (fa0_16 11).toInt → (2 : Int) ≤ (fa0_16 0).toInt ∧ (1 : Int) ≤ (fa0_16 1).toInt) ∧ (∀ (j i0 i : Int32), (0 : Int) ≤ j.toInt → j.toInt ≤ 8 → i0.toInt = 12 + 2 * j.toInt → i.toInt = 13 + 2 * j.toInt → (fa0_16 i0.toNatClampNeg).toInt = (1 : Int32).toInt → (1 : Int) ≤ (fa0_16 i.toNatClampNeg).toInt))) (hR1 : (a0_6.toInt = 2 → a0_8.toInt ≤ 8)) : zm l yX8_readLine wsX8_readLine ({ frames := 9, cells := 0, slots := 0, locals := 194 }) [.ref a0] dC dI sz [(a0, .inr (8, [a0g_0, Value.ref a0_1, a0g_2, Value.int a0_3, Value.int a0_4, Value.int a0_5, Value.int a0_6, Value.int a0_7, Value.int a0_8, Value.int a0_9, Value.int a0_10, a0g_11, Value.ref a0_12, Value.int 0, a0g_14, a0g_15, Value.ref a0_16, a0g_17, a0g_18, a0g_19, a0g_20, a0g_21, a0g_22, a0g_23, a0g_24, a0g_25, a0g_26, a0g_27, a0g_28, a0g_29, a0g_30, a0g_31, a0g_32, a0g_33, a0g_34, a0g_35, a0g_36, a0g_37, a0g_38, a0g_39])), (a0_12, .inl (ka0_12, 8, .inl (fa0_12))), (a0_16, .inl (ka0_16, 156, .inl (fa0_16))), (a0_1, .inl (ka0_1, 900, .inl (fa0_1)))] [(ka0_12, .int), (ka0_16, .int), (ka0_1, .int)] (fun A U => sxc_T ad A U) (fun A => va_Qv (fun (_ : Unit) => True) (fun (_ : Unit) (t : State) => ∃ na0_4 : Int32, ∃ na0_5 : Int32, ∃ na0_6 : Int32, ∃ na0_7 : Int32, ∃ na0_8 : Int32, ∃ na0_9 : Int32, ∃ na0_10 : Int32, ∃ na0_13 : Int32, ∃ nfa0_12 : Nat → Int32, ∃ nfa0_16 : Nat → Int32, ((0 : Int) ≤ na0_5.toInt ∧ na0_5.toInt ≤ 900) ∧ ((0 : Int) ≤ na0_8.toInt ∧ na0_8.toInt ≤ 900) ∧ ((0 : Int) ≤ na0_13.toInt ∧ na0_13.toInt ≤ 1) ∧ ((∀ k : Nat, 0 ≤ k → k ≤ 0 → (0 : Int) ≤ (nfa0_16 k).toInt ∧ (nfa0_16 k).toInt ≤ 9) ∧ (∀ k : Nat, 1 ≤ k → k ≤ 1 → (0 : Int) ≤ (nfa0_16 k).toInt ∧ (nfa0_16 k).toInt ≤ 20) ∧ (∀ k : Nat, 2 ≤ k → k ≤ 2 → (0 : Int) ≤ (nfa0_16 k).toInt ∧ (nfa0_16 k).toInt ≤ 8) ∧ (∀ k : Nat, 3 ≤ k → k ≤ 3 → (0 : Int) ≤ (nfa0_16 k).toInt ∧ (nfa0_16 k).toInt ≤ 100) ∧ (∀ k : Nat, 4 ≤ k → k ≤ 4 → (0 : Int) ≤ (nfa0_16 k).toInt ∧ (nfa0_16 k).toInt ≤ 9) ∧ (∀ k : Nat, 5 ≤ k → k ≤ 5 → (0 : Int) ≤ (nfa0_16 k).toInt ∧ (nfa0_16 k).toInt ≤ 3) ∧ (∀ k : Nat, 6 ≤ k → k ≤ 6 → (0 : Int) ≤ (nfa0_16 k).toInt ∧ (nfa0_16 k).toInt ≤ 6) ∧ (∀ k : Nat, 7 ≤ k → k ≤ 9 → (0 : Int) ≤ (nfa0_16 k).toInt ∧ (nfa0_16 k).toInt ≤ 8) ∧ (∀ k : Nat, 10 ≤ k → k ≤ 11 → (0 : Int) ≤ (nfa0_16 k).toInt ∧ (nfa0_16 k).toInt ≤ 1) ∧ (∀ k : Nat, 12 ≤ k → k ≤ 29 → (0 : Int) ≤ (nfa0_16 k).toInt ∧ (nfa0_16 k).toInt ≤ 20) ∧ (∀ k : Nat, 30 ≤ k → k ≤ 35 → (0 : Int) ≤ (nfa0_16 k).toInt ∧ (nfa0_16 k).toInt ≤ 8) ∧ (∀ k : Nat, 36 ≤ k → k ≤ 47 → (0 : Int) ≤ (nfa0_16 k).toInt ∧ (nfa0_16 k).toInt ≤ 999) ∧ (∀ k : Nat, 48 ≤ k → k ≤ 59 → (0 : Int) ≤ (nfa0_16 k).toInt ∧ (nfa0_16 k).toInt ≤ 8) ∧ ((1 : Int) ≤ (nfa0_16 11).toInt → (2 : Int) ≤ (nfa0_16 0).toInt ∧ (1 : Int) ≤ (nfa0_16 1).toInt) ∧ (∀ (j i0 i : Int32), (0 : Int) ≤ j.toInt → j.toInt ≤ 8 → i0.toInt = 12 + 2 * j.toInt → i.toInt = 13 + 2 * j.toInt → (nfa0_16 i0.toNatClampNeg).toInt = (1 : Int32).toInt → (1 : Int) ≤ (nfa0_16 i.toNatClampNeg).toInt)) ∧ (na0_13 = 1 ∨ na0_13 = 0) ∧ (a0_5.toInt ≤ na0_5.toInt ∧ ((na0_5.toInt = a0_5.toInt ∧ na0_6.toInt = a0_6.toInt) ∨ na0_6.toInt ≠ 59 ∨ a0_5.toInt < na0_5.toInt)) ∧ (FfG_X8_readLine a0_3.toInt a0_4.toInt a0_5.toInt a0_6.toInt a0_7.toInt a0_8.toInt a0_9.toInt a0_10.toInt (fl_A fa0_12) (fl_A fa0_16) (fl_A fa0_1) = (na0_4.toInt, na0_5.toInt, na0_6.toInt, na0_7.toInt, na0_8.toInt, na0_9.toInt, na0_10.toInt, na0_13.toInt, (fl_A nfa0_12), (fl_A nfa0_16))) ∧ ax_B dC dI A [(a0, .inr (8, [a0g_0, Value.ref a0_1, a0g_2, Value.int a0_3, Value.int na0_4, Value.int na0_5, Value.int na0_6, Value.int na0_7, Value.int na0_8, Value.int na0_9, Value.int na0_10, a0g_11, Value.ref a0_12, Value.int na0_13, a0g_14, a0g_15, Value.ref a0_16, a0g_17, a0g_18, a0g_19, a0g_20, a0g_21, a0g_22, a0g_23, a0g_24, a0g_25, a0g_26, a0g_27, a0g_28, a0g_29, a0g_30, a0g_31, a0g_32, a0g_33, a0g_34, a0g_35, a0g_36, a0g_37, a0g_38, a0g_39])), (a0_12, .inl (ka0_12, 8, .inl (nfa0_12))), (a0_16, .inl (ka0_16, 156, .inl (nfa0_16))), (a0_1, .inl (ka0_1, 900, .inl (fa0_1)))] [(ka0_12, .int), (ka0_16, .int), (ka0_1, .int)] t) A) := by
  refine zh (cc := cX8_readLine) (maxL := 1) (ret := none) zn_RX8 rfl (Nat.le_of_ble_eq_true rfl) (fun p e s m below meth c A ls hx hb hml hr hts (hown : s.vm.findClass RX8 = some m.cls) hlocks hA hS hP hK hD hE (hl : lv_has ls 1 [(0, .ref a0)]) => ?_)
  have hE0 := hE
  generalize hFX : FfG_X8_readLine a0_3.toInt a0_4.toInt a0_5.toInt a0_6.toInt a0_7.toInt a0_8.toInt a0_9.toInt a0_10.toInt (fl_A fa0_12) (fl_A fa0_16) (fl_A fa0_1) = FX at ⊢
  have hF0 := hFX.symm.trans (FfG_X8_readLine.eq_1 a0_3.toInt a0_4.toInt a0_5.toInt a0_6.toInt a0_7.toInt a0_8.toInt a0_9.toInt a0_10.toInt (fl_A fa0_12) (fl_A fa0_16) (fl_A fa0_1))
  refine lv_aload_n hx hb dX8_readLine_0 rfl (lv_at hl 0 rfl) ?_
  refine va_ldcS hx hb hown (sxc_R18 hE0) dX8_readLine_1 ?_
  have hKc := hK.sub (tys' := [(ka0_12, .int)]) [0] rfl
  refine va_calli (va_runV (As := [.ref (ad 18)]) (rest := []) ⟨hx, hb, hml, hown, hts⟩ (fG_X8_isWord l dC dI s.heap.size a0 (ad 18) a0g_0 (Value.ref a0_1) a0g_2 (Value.int a0_3) (Value.int a0_4) (Value.int a0_5) (Value.int a0_7) (Value.int a0_9) (Value.int a0_10) a0g_11 a0g_14 a0g_15 (Value.ref a0_16) a0g_17 a0g_18 a0g_19 a0g_20 a0g_21 a0g_22 a0g_23 a0g_24 a0g_25 a0g_26 a0g_27 a0g_28 a0g_29 a0g_30 a0g_31 a0g_32 a0g_33 a0g_34 a0g_35 a0g_36 a0g_37 a0g_38 a0g_39 a0_6 a0_8 a0_12 ka0_12 fa0_12 7 (sxc 18) ba0_8_l ba0_8_u) (cwV 1 hts gX8_readLine_X8_isWord rfl rfl rfl zd_X8_isWord ⟨Nat.le_of_ble_eq_true rfl, Nat.le_of_ble_eq_true rfl⟩) ⟨ax_blind (fun _ _ _ _ hq => sxc_W_same _ _ _ _ (hq)), zr_8 hKc (zp_P2 hP) (q0 := 0) rfl, ax_preE (zp_P2 hP) hKc (zp_D2 hD) (fun U hU hW => sxc_W_to (sxc_T_w hE0 (i := 18) (by decide)) hS.2.1 (zp_F2 hD hS hA) hU hW)⟩ rfl rfl hl.1 rfl (lv_room (Nat.le_of_ble_eq_true rfl)) dX8_readLine_3 ⟨Nat.le_of_ble_eq_true rfl, Nat.le_of_ble_eq_true rfl⟩) hS (fun q _ h => zp_F2 hD hS hA q h) (zp_F2 hD hS hA) (fun r3 u t H locs ht hvm hw hB hz1 hk1 hS1 => zo2 hB ht hP hD hk1 (zp_F2 hD hS hA) hS1 (fun hP hK1 hD hS => ?_))
  obtain ⟨hw, hfr3⟩ := hw
  rw [show ((7 : Nat) : Int) = 7 from rfl] at hfr3
  have hc3 : FfG_X8_isWord a0_6.toInt a0_8.toInt (fl_A fa0_12) 7 (fl_A (sxc 18)) = r3.toInt := hfr3.symm
  have hF0 := hF0.trans (fl_lt_eq hc3.symm)
  have hw : (0 : Int) ≤ r3.toInt ∧ r3.toInt ≤ (1 : Int) := hw
  obtain ⟨h3_0, h3_1⟩ := hw
  refine lv_if_eq (tgt := 16) hx hb dX8_readLine_6 (by decide) (fun c6 => ?_) (fun c6 => ?_)
  · have gc6 := ai_eq c6
    have u6t_r3 : r3.toInt ≤ (0 : Int) := Int.le_trans (Int.le_of_eq gc6) zq6
    have l6t_r3 : (0 : Int) ≤ r3.toInt := h3_0
    have hF0 := hF0.trans (if_pos (show r3.toInt = 0 from gc6))
    refine lv_aload_n hx hb dX8_readLine_16 rfl (lv_at hl 0 rfl) ?_
    refine va_ldcS hx hb hown (sxc_R19 hE0) dX8_readLine_17 ?_
    have hKc := hK.sub (tys' := [(ka0_12, .int)]) [0] rfl
    refine va_calli (va_runV (As := [.ref (ad 19)]) (rest := []) ⟨hx, hb, hml, hown, hts⟩ (fG_X8_isWord l dC dI H.size a0 (ad 19) a0g_0 (Value.ref a0_1) a0g_2 (Value.int a0_3) (Value.int a0_4) (Value.int a0_5) (Value.int a0_7) (Value.int a0_9) (Value.int a0_10) a0g_11 a0g_14 a0g_15 (Value.ref a0_16) a0g_17 a0g_18 a0g_19 a0g_20 a0g_21 a0g_22 a0g_23 a0g_24 a0g_25 a0g_26 a0g_27 a0g_28 a0g_29 a0g_30 a0g_31 a0g_32 a0g_33 a0g_34 a0g_35 a0g_36 a0g_37 a0g_38 a0g_39 a0_6 a0_8 a0_12 ka0_12 fa0_12 3 (sxc 19) ba0_8_l ba0_8_u) (cwV 1 hts gX8_readLine_X8_isWord rfl rfl rfl zd_X8_isWord ⟨Nat.le_of_ble_eq_true rfl, Nat.le_of_ble_eq_true rfl⟩) ⟨ax_blind (fun _ _ _ _ hq => sxc_W_same _ _ _ _ (hq)), zr_8 hKc (zp_P2 hP) (q0 := 0) rfl, ax_preE (zp_P2 hP) hKc (zp_D2 hD) (fun U hU hW => sxc_W_to (sxc_T_w hE0 (i := 19) (by decide)) hS.2.1 (zp_F2 hD hS hA) hU hW)⟩ rfl rfl hl.1 rfl (lv_room (Nat.le_of_ble_eq_true rfl)) dX8_readLine_19 ⟨Nat.le_of_ble_eq_true rfl, Nat.le_of_ble_eq_true rfl⟩) hS (fun q _ h => zp_F2 hD hS hA q h) (zp_F2 hD hS hA) (fun r19 u t H locs ht hvm hw hB hz1 hk1 hS1 => zo2 hB ht hP hD hk1 (zp_F2 hD hS hA) hS1 (fun hP hK1 hD hS => ?_))
    obtain ⟨hw, hfr19⟩ := hw
    rw [show ((3 : Nat) : Int) = 3 from rfl] at hfr19
    have hc19 : FfG_X8_isWord a0_6.toInt a0_8.toInt (fl_A fa0_12) 3 (fl_A (sxc 19)) = r19.toInt := hfr19.symm
    have hF0 := hF0.trans (fl_lt_eq hc19.symm)
    have hw : (0 : Int) ≤ r19.toInt ∧ r19.toInt ≤ (1 : Int) := hw
    obtain ⟨h19_0, h19_1⟩ := hw
    refine lv_if_eq (tgt := 32) hx hb dX8_readLine_22 (by decide) (fun c22 => ?_) (fun c22 => ?_)
    · have gc22 := ai_eq c22
      have u22t_r19 : r19.toInt ≤ (0 : Int) := Int.le_trans (Int.le_of_eq gc22) zq6
      have l22t_r19 : (0 : Int) ≤ r19.toInt := h19_0
      have hF0 := hF0.trans (if_pos (show r19.toInt = 0 from gc22))
      refine lv_aload_n hx hb dX8_readLine_32 rfl (lv_at hl 0 rfl) ?_
      refine va_ldcS hx hb hown (sxc_R20 hE0) dX8_readLine_33 ?_
      refine lv_aload_n hx hb dX8_readLine_35 rfl (lv_at hl 0 rfl) ?_
      refine va_get (D := (dC, dI)) (ci := 8) (v := .ref a0_16) (C := RX8) (T := TX8) (N := 40) hx hb hts zi_X8_readLine_8 hown hK hP 0 rfl rfl 16 (by decide) (hts (.fieldLink RX8 23 "WaxTurnsModel" "fresh" "[I") (zm_X8_readLine_r1 (List.mem_of_getElem? (i := 0) rfl))) (fun _ h9 => h9) rfl dX8_readLine_36 ?_
      refine lv_iconst (v := 4) hx hb dX8_readLine_39 zk_iconst_4 ?_
      refine va_iald hx hb hK hP 2 1 rfl rfl (by unfold vp_in; decide +kernel) dX8_readLine_40 ?_
      refine lv_topi (fun x40 ex40 => ?_)
      have bx40 : (0 : Int) ≤ x40.toInt ∧ x40.toInt ≤ 9 := by rw [ex40]; exact ai_rd bfa0_16.2.2.2.2.1 zq68 zq67 (by decide) (by decide) (by decide)
      have fqx40 := congrArg Int32.toInt ex40
      have hF0 := hF0.trans (fl_lt_eq (show x40.toInt = (fl_A fa0_16) (4) from fqx40))
      refine lv_bipush (v := 9) hx hb dX8_readLine_41 zk_bipush_9 ?_
      refine lv_icmp_ge (tgt := 50) hx hb dX8_readLine_43 (by decide) (fun c43 => ?_) (fun c43 => ?_)
      · have gc43 := ai_le c43
        have l43t_x40 : (9 : Int) ≤ x40.toInt := Int.le_trans zq2 gc43
        have hF0 := hF0.trans (if_pos (show 9 ≤ x40.toInt from gc43))
        refine lv_iconst (v := 0) hx hb dX8_readLine_50 zk_iconst_0 ?_
        have hKc := hK.sub (tys' := [(ka0_12, .int), (ka0_16, .int), (ka0_1, .int)]) [0, 1, 2] rfl
        refine va_calli (va_runV (As := [.ref (ad 20), .int 0]) (rest := []) ⟨hx, hb, hml, hown, hts⟩ (fG_X8_begins l dC dI H.size a0 (ad 20) 0 a0g_0 a0g_2 a0g_11 a0g_14 a0g_15 a0g_17 a0g_18 a0g_19 a0g_20 a0g_21 a0g_22 a0g_23 a0g_24 a0g_25 a0g_26 a0g_27 a0g_28 a0g_29 a0g_30 a0g_31 a0g_32 a0g_33 a0g_34 a0g_35 a0g_36 a0g_37 a0g_38 a0g_39 a0_1 a0_3 a0_4 a0_5 a0_6 a0_7 a0_8 a0_9 a0_10 a0_12 a0_16 ka0_12 fa0_12 ka0_16 fa0_16 ka0_1 fa0_1 6 (sxc 20) zq5 (Int.le_trans zq6 zq4) ba0_3_l ba0_3_u ba0_5_l ba0_5_u ba0_8_l ba0_8_u bfa0_16 hR1) (cwV 2 hts gX8_readLine_X8_begins rfl rfl rfl zd_X8_begins ⟨Nat.le_of_ble_eq_true rfl, Nat.le_of_ble_eq_true rfl⟩) ⟨ax_blind (fun _ _ _ _ hq => sxc_W_same _ _ _ _ (hq)), zr_8 hKc (zp_P4 hP) (q0 := 0) rfl, ax_preE (zp_P4 hP) hKc (zp_D4 hD) (fun U hU hW => sxc_W_to (sxc_T_w hE0 (i := 20) (by decide)) hS.2.1 (zp_F4 hD hS hA) hU hW)⟩ rfl rfl hl.1 rfl (lv_room (Nat.le_of_ble_eq_true rfl)) dX8_readLine_51 ⟨Nat.le_of_ble_eq_true rfl, Nat.le_of_ble_eq_true rfl⟩) hS (fun q _ h => zp_F4 hD hS hA q h) (zp_F4 hD hS hA) (fun r51 v51na0_13 t H1 locs ht hvm hw => zx_8 (fun v51na0_4 v51na0_5 v51na0_6 v51na0_7 v51na0_8 v51na0_9 v51na0_10 v51nfa0_12 => zy_6 (fun bv51na0_5 bv51na0_8 bv51na0_13 hraw51_0 hraw51_1 hraw51_2 hB hz1 hk1 hS1 => zo4 hB ht hP hD hk1 (zp_F4 hD hS hA) hS1 (fun hP hK1 hD hS => ?_))))
        generalize H1 = H at hP hS ⊢
        obtain ⟨hw, hfr51⟩ := hw
        rw [show (0 : Int32).toInt = 0 from by decide, show ((6 : Nat) : Int) = 6 from rfl] at hfr51 hraw51_2
        have hc51 : FfG_X8_begins 0 a0_3.toInt a0_4.toInt a0_5.toInt a0_6.toInt a0_7.toInt a0_8.toInt a0_9.toInt a0_10.toInt (fl_A fa0_12) (fl_A fa0_16) (fl_A fa0_1) 6 (fl_A (sxc 20)) = (r51.toInt, v51na0_4.toInt, v51na0_5.toInt, v51na0_6.toInt, v51na0_7.toInt, v51na0_8.toInt, v51na0_9.toInt, v51na0_10.toInt, v51na0_13.toInt, (fl_A v51nfa0_12)) := Prod.ext hfr51.symm hraw51_2
        have hF0 := hF0.trans (fl_c10_eq hc51)
        rcases hw with hw | hw | hw
        · obtain ⟨hw, huh51⟩ := hw
          subst hw
          subst huh51
          have hF0 := hF0.trans (if_pos (by decide))
          refine lv_if_eq (tgt := 64) hx hb dX8_readLine_54 (by decide) (fun _ => ?_) (fun c54 => absurd (by decide +kernel) c54)
          refine lv_aload_n hx hb dX8_readLine_64 rfl (lv_at hl 0 rfl) ?_
          refine va_ldcS hx hb hown (sxc_R21 hE0) dX8_readLine_65 ?_
          refine lv_aload_n hx hb dX8_readLine_67 rfl (lv_at hl 0 rfl) ?_
          refine va_get (D := (dC, dI)) (ci := 8) (v := .ref a0_16) (C := RX8) (T := TX8) (N := 40) hx hb hts zi_X8_readLine_8 hown hK hP 0 rfl rfl 16 (by decide) (hts (.fieldLink RX8 23 "WaxTurnsModel" "fresh" "[I") (zm_X8_readLine_r1 (List.mem_of_getElem? (i := 0) rfl))) (fun _ h9 => h9) rfl dX8_readLine_68 ?_
          refine lv_iconst (v := 5) hx hb dX8_readLine_71 zk_iconst_5 ?_
          refine va_iald hx hb hK hP 2 1 rfl rfl (by unfold vp_in; decide +kernel) dX8_readLine_72 ?_
          refine lv_topi (fun x72 ex72 => ?_)
          have bx72 : (0 : Int) ≤ x72.toInt ∧ x72.toInt ≤ 3 := by rw [ex72]; exact ai_rd bfa0_16.2.2.2.2.2.1 zq112 zq113 (by decide) (by decide) (by decide)
          have fqx72 := congrArg Int32.toInt ex72
          have hF0 := hF0.trans (fl_lt_eq (show x72.toInt = (fl_A fa0_16) (5) from fqx72))
          refine lv_iconst (v := 3) hx hb dX8_readLine_73 zk_iconst_3 ?_
          refine lv_icmp_ge (tgt := 81) hx hb dX8_readLine_74 (by decide) (fun c74 => ?_) (fun c74 => ?_)
          · have gc74 := ai_le c74
            have l74t_x72 : (3 : Int) ≤ x72.toInt := Int.le_trans zq8 gc74
            have hF0 := hF0.trans (if_pos (show 3 ≤ x72.toInt from gc74))
            refine lv_iconst (v := 0) hx hb dX8_readLine_81 zk_iconst_0 ?_
            have hKc := hK.sub (tys' := [(ka0_12, .int), (ka0_16, .int), (ka0_1, .int)]) [0, 1, 2] rfl
            refine va_calli (va_runV (As := [.ref (ad 21), .int 0]) (rest := []) ⟨hx, hb, hml, hown, hts⟩ (fG_X8_begins l dC dI H.size a0 (ad 21) 0 a0g_0 a0g_2 a0g_11 a0g_14 a0g_15 a0g_17 a0g_18 a0g_19 a0g_20 a0g_21 a0g_22 a0g_23 a0g_24 a0g_25 a0g_26 a0g_27 a0g_28 a0g_29 a0g_30 a0g_31 a0g_32 a0g_33 a0g_34 a0g_35 a0g_36 a0g_37 a0g_38 a0g_39 a0_1 a0_3 v51na0_4 v51na0_5 v51na0_6 v51na0_7 v51na0_8 v51na0_9 v51na0_10 a0_12 a0_16 ka0_12 v51nfa0_12 ka0_16 fa0_16 ka0_1 fa0_1 7 (sxc 21) zq5 (Int.le_trans zq6 zq4) ba0_3_l ba0_3_u bv51na0_5.1 bv51na0_5.2 bv51na0_8.1 bv51na0_8.2 bfa0_16 hraw51_0) (cwV 2 hts gX8_readLine_X8_begins rfl rfl rfl zd_X8_begins ⟨Nat.le_of_ble_eq_true rfl, Nat.le_of_ble_eq_true rfl⟩) ⟨ax_blind (fun _ _ _ _ hq => sxc_W_same _ _ _ _ (hq)), zr_8 hKc (zp_P4 hP) (q0 := 0) rfl, ax_preE (zp_P4 hP) hKc (zp_D4 hD) (fun U hU hW => sxc_W_to (sxc_T_w hE0 (i := 21) (by decide)) hS.2.1 (zp_F4 hD hS hA) hU hW)⟩ rfl rfl hl.1 rfl (lv_room (Nat.le_of_ble_eq_true rfl)) dX8_readLine_82 ⟨Nat.le_of_ble_eq_true rfl, Nat.le_of_ble_eq_true rfl⟩) hS (fun q _ h => zp_F4 hD hS hA q h) (zp_F4 hD hS hA) (fun r82 v82na0_13 t H1 locs ht hvm hw => zx_8 (fun v82na0_4 v82na0_5 v82na0_6 v82na0_7 v82na0_8 v82na0_9 v82na0_10 v82nfa0_12 => zy_6 (fun bv82na0_5 bv82na0_8 bv82na0_13 hraw82_0 hraw82_1 hraw82_2 hB hz1 hk1 hS1 => zo4 hB ht hP hD hk1 (zp_F4 hD hS hA) hS1 (fun hP hK1 hD hS => ?_))))
            generalize H1 = H at hP hS ⊢
            obtain ⟨hw, hfr82⟩ := hw
            rw [show (0 : Int32).toInt = 0 from by decide, show ((7 : Nat) : Int) = 7 from rfl] at hfr82 hraw82_2
            have hc82 : FfG_X8_begins 0 a0_3.toInt v51na0_4.toInt v51na0_5.toInt v51na0_6.toInt v51na0_7.toInt v51na0_8.toInt v51na0_9.toInt v51na0_10.toInt (fl_A v51nfa0_12) (fl_A fa0_16) (fl_A fa0_1) 7 (fl_A (sxc 21)) = (r82.toInt, v82na0_4.toInt, v82na0_5.toInt, v82na0_6.toInt, v82na0_7.toInt, v82na0_8.toInt, v82na0_9.toInt, v82na0_10.toInt, v82na0_13.toInt, (fl_A v82nfa0_12)) := Prod.ext hfr82.symm hraw82_2
            have hF0 := hF0.trans (fl_c10_eq hc82)
            rcases hw with hw | hw | hw
            · obtain ⟨hw, huh82⟩ := hw
              subst hw
              subst huh82
              have hF0 := hF0.trans (if_pos (by decide))
              refine lv_if_eq (tgt := 95) hx hb dX8_readLine_85 (by decide) (fun _ => ?_) (fun c85 => absurd (by decide +kernel) c85)
              refine lv_aload_n hx hb dX8_readLine_95 rfl (lv_at hl 0 rfl) ?_
              refine va_ldcS hx hb hown (sxc_R22 hE0) dX8_readLine_96 ?_
              refine lv_aload_n hx hb dX8_readLine_98 rfl (lv_at hl 0 rfl) ?_
              refine va_get (D := (dC, dI)) (ci := 8) (v := .ref a0_16) (C := RX8) (T := TX8) (N := 40) hx hb hts zi_X8_readLine_8 hown hK hP 0 rfl rfl 16 (by decide) (hts (.fieldLink RX8 23 "WaxTurnsModel" "fresh" "[I") (zm_X8_readLine_r1 (List.mem_of_getElem? (i := 0) rfl))) (fun _ h9 => h9) rfl dX8_readLine_99 ?_
              refine lv_bipush (v := 6) hx hb dX8_readLine_102 zk_bipush_6 ?_
              refine va_iald hx hb hK hP 2 1 rfl rfl (by unfold vp_in; decide +kernel) dX8_readLine_104 ?_
              refine lv_topi (fun x104 ex104 => ?_)
              have bx104 : (0 : Int) ≤ x104.toInt ∧ x104.toInt ≤ 6 := by rw [ex104]; exact ai_rd bfa0_16.2.2.2.2.2.2.1 zq15 zq16 (by decide) (by decide) (by decide)
              have fqx104 := congrArg Int32.toInt ex104
              have hF0 := hF0.trans (fl_lt_eq (show x104.toInt = (fl_A fa0_16) (6) from fqx104))
              refine lv_bipush (v := 6) hx hb dX8_readLine_105 zk_bipush_6 ?_
              refine lv_icmp_ge (tgt := 114) hx hb dX8_readLine_107 (by decide) (fun c107 => ?_) (fun c107 => ?_)
              · have gc107 := ai_le c107
                have l107t_x104 : (6 : Int) ≤ x104.toInt := Int.le_trans zq15 gc107
                have hF0 := hF0.trans (if_pos (show 6 ≤ x104.toInt from gc107))
                refine lv_iconst (v := 0) hx hb dX8_readLine_114 zk_iconst_0 ?_
                have hKc := hK.sub (tys' := [(ka0_12, .int), (ka0_16, .int), (ka0_1, .int)]) [0, 1, 2] rfl
                refine va_calli (va_runV (As := [.ref (ad 22), .int 0]) (rest := []) ⟨hx, hb, hml, hown, hts⟩ (fG_X8_begins l dC dI H.size a0 (ad 22) 0 a0g_0 a0g_2 a0g_11 a0g_14 a0g_15 a0g_17 a0g_18 a0g_19 a0g_20 a0g_21 a0g_22 a0g_23 a0g_24 a0g_25 a0g_26 a0g_27 a0g_28 a0g_29 a0g_30 a0g_31 a0g_32 a0g_33 a0g_34 a0g_35 a0g_36 a0g_37 a0g_38 a0g_39 a0_1 a0_3 v82na0_4 v82na0_5 v82na0_6 v82na0_7 v82na0_8 v82na0_9 v82na0_10 a0_12 a0_16 ka0_12 v82nfa0_12 ka0_16 fa0_16 ka0_1 fa0_1 4 (sxc 22) zq5 (Int.le_trans zq6 zq4) ba0_3_l ba0_3_u bv82na0_5.1 bv82na0_5.2 bv82na0_8.1 bv82na0_8.2 bfa0_16 hraw82_0) (cwV 2 hts gX8_readLine_X8_begins rfl rfl rfl zd_X8_begins ⟨Nat.le_of_ble_eq_true rfl, Nat.le_of_ble_eq_true rfl⟩) ⟨ax_blind (fun _ _ _ _ hq => sxc_W_same _ _ _ _ (hq)), zr_8 hKc (zp_P4 hP) (q0 := 0) rfl, ax_preE (zp_P4 hP) hKc (zp_D4 hD) (fun U hU hW => sxc_W_to (sxc_T_w hE0 (i := 22) (by decide)) hS.2.1 (zp_F4 hD hS hA) hU hW)⟩ rfl rfl hl.1 rfl (lv_room (Nat.le_of_ble_eq_true rfl)) dX8_readLine_115 ⟨Nat.le_of_ble_eq_true rfl, Nat.le_of_ble_eq_true rfl⟩) hS (fun q _ h => zp_F4 hD hS hA q h) (zp_F4 hD hS hA) (fun r115 v115na0_13 t H1 locs ht hvm hw => zx_8 (fun v115na0_4 v115na0_5 v115na0_6 v115na0_7 v115na0_8 v115na0_9 v115na0_10 v115nfa0_12 => zy_6 (fun bv115na0_5 bv115na0_8 bv115na0_13 hraw115_0 hraw115_1 hraw115_2 hB hz1 hk1 hS1 => zo4 hB ht hP hD hk1 (zp_F4 hD hS hA) hS1 (fun hP hK1 hD hS => ?_))))
                generalize H1 = H at hP hS ⊢
                obtain ⟨hw, hfr115⟩ := hw
                rw [show (0 : Int32).toInt = 0 from by decide, show ((4 : Nat) : Int) = 4 from rfl] at hfr115 hraw115_2
                have hc115 : FfG_X8_begins 0 a0_3.toInt v82na0_4.toInt v82na0_5.toInt v82na0_6.toInt v82na0_7.toInt v82na0_8.toInt v82na0_9.toInt v82na0_10.toInt (fl_A v82nfa0_12) (fl_A fa0_16) (fl_A fa0_1) 4 (fl_A (sxc 22)) = (r115.toInt, v115na0_4.toInt, v115na0_5.toInt, v115na0_6.toInt, v115na0_7.toInt, v115na0_8.toInt, v115na0_9.toInt, v115na0_10.toInt, v115na0_13.toInt, (fl_A v115nfa0_12)) := Prod.ext hfr115.symm hraw115_2
                have hF0 := hF0.trans (fl_c10_eq hc115)
                rcases hw with hw | hw | hw
                · obtain ⟨hw, huh115⟩ := hw
                  subst hw
                  subst huh115
                  have hF0 := hF0.trans (if_pos (by decide))
                  refine lv_if_eq (tgt := 128) hx hb dX8_readLine_118 (by decide) (fun _ => ?_) (fun c118 => absurd (by decide +kernel) c118)
                  refine lv_aload_n hx hb dX8_readLine_128 rfl (lv_at hl 0 rfl) ?_
                  refine lv_iconst (v := 1) hx hb dX8_readLine_129 zk_iconst_1 ?_
                  refine lv_aload_n hx hb dX8_readLine_130 rfl (lv_at hl 0 rfl) ?_
                  refine va_get (D := (dC, dI)) (ci := 8) (v := .int v115na0_4) (C := RX8) (T := TX8) (N := 40) hx hb hts zi_X8_readLine_8 hown hK hP 0 rfl rfl 4 (by decide) (hts (.fieldLink RX8 78 "WaxTurnsModel" "at" "I") (zm_X8_readLine_r1 (List.mem_of_getElem? (i := 1) rfl))) (fun _ h9 => h9) rfl dX8_readLine_131 ?_
                  refine va_callv (va_runV (As := [.int 1, .int v115na0_4]) (rest := []) ⟨hx, hb, hml, hown, hts⟩ (fG_X8_wrong l dC dI H.size a0 1 v115na0_4 a0g_0 (Value.ref a0_1) a0g_2 (Value.int a0_3) (Value.int v115na0_4) (Value.int v115na0_5) (Value.int v115na0_6) (Value.int v115na0_7) (Value.int v115na0_8) a0g_11 (Value.ref a0_12) a0g_14 a0g_15 (Value.ref a0_16) a0g_17 a0g_18 a0g_19 a0g_20 a0g_21 a0g_22 a0g_23 a0g_24 a0g_25 a0g_26 a0g_27 a0g_28 a0g_29 a0g_30 a0g_31 a0g_32 a0g_33 a0g_34 a0g_35 a0g_36 a0g_37 a0g_38 a0g_39 v115na0_9 v115na0_10 ) (cwV 2 hts gX8_readLine_X8_wrong rfl rfl rfl zd_X8_wrong ⟨Nat.le_of_ble_eq_true rfl, Nat.le_of_ble_eq_true rfl⟩) ⟨ax_blind (fun _ _ _ _ _ => trivial), zr_8 (zp_K hK) (zp_P1 hP) (q0 := 0) rfl, ax_pre (zp_P1 hP) (zp_K hK) (zp_D1 hD) (fun _ _ => trivial)⟩ rfl rfl hl.1 rfl (lv_room (Nat.le_of_ble_eq_true rfl)) dX8_readLine_134 ⟨Nat.le_of_ble_eq_true rfl, Nat.le_of_ble_eq_true rfl⟩) hS (fun q _ h => zp_F1 hD hS hA q h) (zp_F1 hD hS hA) (fun u t H locs ht hvm hw => zx_2 (fun v134na0_9 v134na0_10 => zy_1 (fun hraw134_0 hB hz1 hk1 hS1 => zo1 hB ht hP hD hk1 (zp_F1 hD hS hA) hS1 (fun hP hK1 hD hS => ?_))))
                  rw [show (1 : Int32).toInt = 1 from by decide] at hraw134_0
                  have hc134 : FfG_X8_wrong 1 v115na0_4.toInt = (v134na0_9.toInt, v134na0_10.toInt) := hraw134_0
                  have hF0 := hF0.trans (fl_c2_eq hc134)
                  have hFe : FX = (v115na0_4.toInt, v115na0_5.toInt, v115na0_6.toInt, v115na0_7.toInt, v115na0_8.toInt, v134na0_9.toInt, v134na0_10.toInt, 1, (fl_A v115nfa0_12), (fl_A fa0_16)) := hF0
                  exact W.vret hx hb hr (fun t ht hW => ⟨⟨(), rfl, trivial, v115na0_4, v115na0_5, v115na0_6, v115na0_7, v115na0_8, v134na0_9, v134na0_10, 1, v115nfa0_12, fa0_16, ⟨bv115na0_5.1, bv115na0_5.2⟩, ⟨bv115na0_8.1, bv115na0_8.2⟩, ⟨Int.le_trans (by decide) zq1, zq0⟩, bfa0_16, (Or.inl rfl), (em_t hraw51_1 (em_t hraw82_1 hraw115_1)), hFe, by rw [ht]; exact hP, va_K.moved hW.alike hK, hD⟩, hS.F ht⟩) hS.2.2 dX8_readLine_137
                · obtain ⟨hw, huh115⟩ := hw
                  subst hw
                  subst huh115
                  have hF0 := hF0.trans (if_neg (by decide))
                  have hF0 := hF0.trans (if_pos (by decide))
                  refine lv_if_eq (tgt := 128) hx hb dX8_readLine_118 (by decide) (fun c118 => absurd c118 (by decide +kernel)) (fun _ => ?_)
                  refine lv_aload_n hx hb dX8_readLine_121 rfl (lv_at hl 0 rfl) ?_
                  refine va_callv (va_runV (As := []) (rest := []) ⟨hx, hb, hml, hown, hts⟩ (fF_X8_seenLine l dC dI H.size a0 a0g_0 (Value.ref a0_1) a0g_2 (Value.int a0_3) (Value.int v115na0_4) (Value.int v115na0_5) (Value.int v115na0_6) (Value.int v115na0_7) (Value.int v115na0_8) (Value.int v115na0_9) (Value.int v115na0_10) a0g_11 (Value.ref a0_12) a0g_14 a0g_15 (Value.ref a0_16) a0g_17 a0g_18 a0g_19 a0g_20 a0g_21 a0g_22 a0g_23 a0g_24 a0g_25 a0g_26 a0g_27 a0g_28 a0g_29 a0g_30 a0g_31 a0g_32 a0g_33 a0g_34 a0g_35 a0g_36 a0g_37 a0g_38 a0g_39 ) (cwV 0 hts gX8_readLine_X8_seenLine rfl rfl rfl zd_X8_seenLine ⟨Nat.le_of_ble_eq_true rfl, Nat.le_of_ble_eq_true rfl⟩) ⟨ax_blind (fun _ _ _ _ _ => trivial), zr_8 (zp_K hK) (zp_P1 hP) (q0 := 0) rfl, ax_pre (zp_P1 hP) (zp_K hK) (zp_D1 hD) (fun _ _ => trivial)⟩ rfl rfl hl.1 rfl (lv_room (Nat.le_of_ble_eq_true rfl)) dX8_readLine_122 ⟨Nat.le_of_ble_eq_true rfl, Nat.le_of_ble_eq_true rfl⟩) hS (fun q _ h => zp_F1 hD hS hA q h) (zp_F1 hD hS hA) (fun u t H locs ht hvm hw hB hz1 hk1 hS1 => zo1 hB ht hP hD hk1 (zp_F1 hD hS hA) hS1 (fun hP hK1 hD hS => ?_))
                  refine lv_goto (tgt := 137) hx hb dX8_readLine_125 (by decide) ?_
                  have hFe : FX = (v115na0_4.toInt, v115na0_5.toInt, v115na0_6.toInt, v115na0_7.toInt, v115na0_8.toInt, v115na0_9.toInt, v115na0_10.toInt, 1, (fl_A v115nfa0_12), (fl_A fa0_16)) := hF0
                  exact W.vret hx hb hr (fun t ht hW => ⟨⟨(), rfl, trivial, v115na0_4, v115na0_5, v115na0_6, v115na0_7, v115na0_8, v115na0_9, v115na0_10, 1, v115nfa0_12, fa0_16, ⟨bv115na0_5.1, bv115na0_5.2⟩, ⟨bv115na0_8.1, bv115na0_8.2⟩, ⟨Int.le_trans (by decide) zq1, zq0⟩, bfa0_16, (Or.inl rfl), (em_t hraw51_1 (em_t hraw82_1 hraw115_1)), hFe, by rw [ht]; exact hP, va_K.moved hW.alike hK, hD⟩, hS.F ht⟩) hS.2.2 dX8_readLine_137
                · obtain ⟨hw, huh115, h115⟩ := hw
                  subst hw
                  subst huh115
                  exact absurd h115.1 (by decide)
              · have gc107 := ai_nle c107
                have u107f_x104 : x104.toInt ≤ (5 : Int) := ai_lthi gc107 zq16
                have hF0 := hF0.trans (if_neg (show ¬ (6 ≤ x104.toInt) from Int.not_le.mpr gc107))
                refine lv_iconst (v := 1) hx hb dX8_readLine_110 zk_iconst_1 ?_
                refine lv_goto (tgt := 115) hx hb dX8_readLine_111 (by decide) ?_
                have hKc := hK.sub (tys' := [(ka0_12, .int), (ka0_16, .int), (ka0_1, .int)]) [0, 1, 2] rfl
                refine va_calli (va_runV (As := [.ref (ad 22), .int 1]) (rest := []) ⟨hx, hb, hml, hown, hts⟩ (fG_X8_begins l dC dI H.size a0 (ad 22) 1 a0g_0 a0g_2 a0g_11 a0g_14 a0g_15 a0g_17 a0g_18 a0g_19 a0g_20 a0g_21 a0g_22 a0g_23 a0g_24 a0g_25 a0g_26 a0g_27 a0g_28 a0g_29 a0g_30 a0g_31 a0g_32 a0g_33 a0g_34 a0g_35 a0g_36 a0g_37 a0g_38 a0g_39 a0_1 a0_3 v82na0_4 v82na0_5 v82na0_6 v82na0_7 v82na0_8 v82na0_9 v82na0_10 a0_12 a0_16 ka0_12 v82nfa0_12 ka0_16 fa0_16 ka0_1 fa0_1 4 (sxc 22) (Int.le_trans zq4 zq1) zq0 ba0_3_l ba0_3_u bv82na0_5.1 bv82na0_5.2 bv82na0_8.1 bv82na0_8.2 bfa0_16 hraw82_0) (cwV 2 hts gX8_readLine_X8_begins rfl rfl rfl zd_X8_begins ⟨Nat.le_of_ble_eq_true rfl, Nat.le_of_ble_eq_true rfl⟩) ⟨ax_blind (fun _ _ _ _ hq => sxc_W_same _ _ _ _ (hq)), zr_8 hKc (zp_P4 hP) (q0 := 0) rfl, ax_preE (zp_P4 hP) hKc (zp_D4 hD) (fun U hU hW => sxc_W_to (sxc_T_w hE0 (i := 22) (by decide)) hS.2.1 (zp_F4 hD hS hA) hU hW)⟩ rfl rfl hl.1 rfl (lv_room (Nat.le_of_ble_eq_true rfl)) dX8_readLine_115 ⟨Nat.le_of_ble_eq_true rfl, Nat.le_of_ble_eq_true rfl⟩) hS (fun q _ h => zp_F4 hD hS hA q h) (zp_F4 hD hS hA) (fun r115 v115na0_13 t H1 locs ht hvm hw => zx_8 (fun v115na0_4 v115na0_5 v115na0_6 v115na0_7 v115na0_8 v115na0_9 v115na0_10 v115nfa0_12 => zy_6 (fun bv115na0_5 bv115na0_8 bv115na0_13 hraw115_0 hraw115_1 hraw115_2 hB hz1 hk1 hS1 => zo4 hB ht hP hD hk1 (zp_F4 hD hS hA) hS1 (fun hP hK1 hD hS => ?_))))
                generalize H1 = H at hP hS ⊢
                obtain ⟨hw, hfr115⟩ := hw
                rw [show (1 : Int32).toInt = 1 from by decide, show ((4 : Nat) : Int) = 4 from rfl] at hfr115 hraw115_2
                have hc115 : FfG_X8_begins 1 a0_3.toInt v82na0_4.toInt v82na0_5.toInt v82na0_6.toInt v82na0_7.toInt v82na0_8.toInt v82na0_9.toInt v82na0_10.toInt (fl_A v82nfa0_12) (fl_A fa0_16) (fl_A fa0_1) 4 (fl_A (sxc 22)) = (r115.toInt, v115na0_4.toInt, v115na0_5.toInt, v115na0_6.toInt, v115na0_7.toInt, v115na0_8.toInt, v115na0_9.toInt, v115na0_10.toInt, v115na0_13.toInt, (fl_A v115nfa0_12)) := Prod.ext hfr115.symm hraw115_2
                have hF0 := hF0.trans (fl_c10_eq hc115)
                rcases hw with hw | hw | hw
                · obtain ⟨hw, huh115⟩ := hw
                  subst hw
                  subst huh115
                  have hF0 := hF0.trans (if_pos (by decide))
                  refine lv_if_eq (tgt := 128) hx hb dX8_readLine_118 (by decide) (fun _ => ?_) (fun c118 => absurd (by decide +kernel) c118)
                  refine lv_aload_n hx hb dX8_readLine_128 rfl (lv_at hl 0 rfl) ?_
                  refine lv_iconst (v := 1) hx hb dX8_readLine_129 zk_iconst_1 ?_
                  refine lv_aload_n hx hb dX8_readLine_130 rfl (lv_at hl 0 rfl) ?_
                  refine va_get (D := (dC, dI)) (ci := 8) (v := .int v115na0_4) (C := RX8) (T := TX8) (N := 40) hx hb hts zi_X8_readLine_8 hown hK hP 0 rfl rfl 4 (by decide) (hts (.fieldLink RX8 78 "WaxTurnsModel" "at" "I") (zm_X8_readLine_r1 (List.mem_of_getElem? (i := 1) rfl))) (fun _ h9 => h9) rfl dX8_readLine_131 ?_
                  refine va_callv (va_runV (As := [.int 1, .int v115na0_4]) (rest := []) ⟨hx, hb, hml, hown, hts⟩ (fG_X8_wrong l dC dI H.size a0 1 v115na0_4 a0g_0 (Value.ref a0_1) a0g_2 (Value.int a0_3) (Value.int v115na0_4) (Value.int v115na0_5) (Value.int v115na0_6) (Value.int v115na0_7) (Value.int v115na0_8) a0g_11 (Value.ref a0_12) a0g_14 a0g_15 (Value.ref a0_16) a0g_17 a0g_18 a0g_19 a0g_20 a0g_21 a0g_22 a0g_23 a0g_24 a0g_25 a0g_26 a0g_27 a0g_28 a0g_29 a0g_30 a0g_31 a0g_32 a0g_33 a0g_34 a0g_35 a0g_36 a0g_37 a0g_38 a0g_39 v115na0_9 v115na0_10 ) (cwV 2 hts gX8_readLine_X8_wrong rfl rfl rfl zd_X8_wrong ⟨Nat.le_of_ble_eq_true rfl, Nat.le_of_ble_eq_true rfl⟩) ⟨ax_blind (fun _ _ _ _ _ => trivial), zr_8 (zp_K hK) (zp_P1 hP) (q0 := 0) rfl, ax_pre (zp_P1 hP) (zp_K hK) (zp_D1 hD) (fun _ _ => trivial)⟩ rfl rfl hl.1 rfl (lv_room (Nat.le_of_ble_eq_true rfl)) dX8_readLine_134 ⟨Nat.le_of_ble_eq_true rfl, Nat.le_of_ble_eq_true rfl⟩) hS (fun q _ h => zp_F1 hD hS hA q h) (zp_F1 hD hS hA) (fun u t H locs ht hvm hw => zx_2 (fun v134na0_9 v134na0_10 => zy_1 (fun hraw134_0 hB hz1 hk1 hS1 => zo1 hB ht hP hD hk1 (zp_F1 hD hS hA) hS1 (fun hP hK1 hD hS => ?_))))
                  rw [show (1 : Int32).toInt = 1 from by decide] at hraw134_0
                  have hc134 : FfG_X8_wrong 1 v115na0_4.toInt = (v134na0_9.toInt, v134na0_10.toInt) := hraw134_0
                  have hF0 := hF0.trans (fl_c2_eq hc134)
                  have hFe : FX = (v115na0_4.toInt, v115na0_5.toInt, v115na0_6.toInt, v115na0_7.toInt, v115na0_8.toInt, v134na0_9.toInt, v134na0_10.toInt, 1, (fl_A v115nfa0_12), (fl_A fa0_16)) := hF0
                  exact W.vret hx hb hr (fun t ht hW => ⟨⟨(), rfl, trivial, v115na0_4, v115na0_5, v115na0_6, v115na0_7, v115na0_8, v134na0_9, v134na0_10, 1, v115nfa0_12, fa0_16, ⟨bv115na0_5.1, bv115na0_5.2⟩, ⟨bv115na0_8.1, bv115na0_8.2⟩, ⟨Int.le_trans (by decide) zq1, zq0⟩, bfa0_16, (Or.inl rfl), (em_t hraw51_1 (em_t hraw82_1 hraw115_1)), hFe, by rw [ht]; exact hP, va_K.moved hW.alike hK, hD⟩, hS.F ht⟩) hS.2.2 dX8_readLine_137
                · obtain ⟨hw, huh115⟩ := hw
                  subst hw
                  subst huh115
                  have hF0 := hF0.trans (if_neg (by decide))
                  have hF0 := hF0.trans (if_pos (by decide))
                  refine lv_if_eq (tgt := 128) hx hb dX8_readLine_118 (by decide) (fun c118 => absurd c118 (by decide +kernel)) (fun _ => ?_)
                  refine lv_aload_n hx hb dX8_readLine_121 rfl (lv_at hl 0 rfl) ?_
                  refine va_callv (va_runV (As := []) (rest := []) ⟨hx, hb, hml, hown, hts⟩ (fF_X8_seenLine l dC dI H.size a0 a0g_0 (Value.ref a0_1) a0g_2 (Value.int a0_3) (Value.int v115na0_4) (Value.int v115na0_5) (Value.int v115na0_6) (Value.int v115na0_7) (Value.int v115na0_8) (Value.int v115na0_9) (Value.int v115na0_10) a0g_11 (Value.ref a0_12) a0g_14 a0g_15 (Value.ref a0_16) a0g_17 a0g_18 a0g_19 a0g_20 a0g_21 a0g_22 a0g_23 a0g_24 a0g_25 a0g_26 a0g_27 a0g_28 a0g_29 a0g_30 a0g_31 a0g_32 a0g_33 a0g_34 a0g_35 a0g_36 a0g_37 a0g_38 a0g_39 ) (cwV 0 hts gX8_readLine_X8_seenLine rfl rfl rfl zd_X8_seenLine ⟨Nat.le_of_ble_eq_true rfl, Nat.le_of_ble_eq_true rfl⟩) ⟨ax_blind (fun _ _ _ _ _ => trivial), zr_8 (zp_K hK) (zp_P1 hP) (q0 := 0) rfl, ax_pre (zp_P1 hP) (zp_K hK) (zp_D1 hD) (fun _ _ => trivial)⟩ rfl rfl hl.1 rfl (lv_room (Nat.le_of_ble_eq_true rfl)) dX8_readLine_122 ⟨Nat.le_of_ble_eq_true rfl, Nat.le_of_ble_eq_true rfl⟩) hS (fun q _ h => zp_F1 hD hS hA q h) (zp_F1 hD hS hA) (fun u t H locs ht hvm hw hB hz1 hk1 hS1 => zo1 hB ht hP hD hk1 (zp_F1 hD hS hA) hS1 (fun hP hK1 hD hS => ?_))
                  refine lv_goto (tgt := 137) hx hb dX8_readLine_125 (by decide) ?_
                  have hFe : FX = (v115na0_4.toInt, v115na0_5.toInt, v115na0_6.toInt, v115na0_7.toInt, v115na0_8.toInt, v115na0_9.toInt, v115na0_10.toInt, 1, (fl_A v115nfa0_12), (fl_A fa0_16)) := hF0
                  exact W.vret hx hb hr (fun t ht hW => ⟨⟨(), rfl, trivial, v115na0_4, v115na0_5, v115na0_6, v115na0_7, v115na0_8, v115na0_9, v115na0_10, 1, v115nfa0_12, fa0_16, ⟨bv115na0_5.1, bv115na0_5.2⟩, ⟨bv115na0_8.1, bv115na0_8.2⟩, ⟨Int.le_trans (by decide) zq1, zq0⟩, bfa0_16, (Or.inl rfl), (em_t hraw51_1 (em_t hraw82_1 hraw115_1)), hFe, by rw [ht]; exact hP, va_K.moved hW.alike hK, hD⟩, hS.F ht⟩) hS.2.2 dX8_readLine_137
                · obtain ⟨hw, huh115, h115⟩ := hw
                  subst hw
                  subst huh115
                  have hF0 := hF0.trans (if_neg (by decide))
                  have hF0 := hF0.trans (if_neg (by decide))
                  refine lv_if_eq (tgt := 128) hx hb dX8_readLine_118 (by decide) (fun c118 => absurd c118 (by decide +kernel)) (fun _ => ?_)
                  refine lv_aload_n hx hb dX8_readLine_121 rfl (lv_at hl 0 rfl) ?_
                  refine zc_cutc (wc := [(a0, .inr (8, [a0g_0, Value.ref a0_1, a0g_2, Value.int a0_3, Value.int v115na0_4, Value.int v115na0_5, Value.int v115na0_6, Value.int v115na0_7, Value.int v115na0_8, Value.int v115na0_9, Value.int v115na0_10, a0g_11, Value.ref a0_12, Value.int 0, a0g_14, a0g_15, Value.ref a0_16, a0g_17, a0g_18, a0g_19, a0g_20, a0g_21, a0g_22, a0g_23, a0g_24, a0g_25, a0g_26, a0g_27, a0g_28, a0g_29, a0g_30, a0g_31, a0g_32, a0g_33, a0g_34, a0g_35, a0g_36, a0g_37, a0g_38, a0g_39])), (a0_16, .inl (ka0_16, 156, .inl (fa0_16))), (a0_1, .inl (ka0_1, 900, .inl (fa0_1))), (a0_12, .inl (ka0_12, 8, .inl (v115nfa0_12)))]) hP hD hS hA [0, 2, 3, 1] (by decide +kernel) rfl (fun hPc hDc hFc hCc => ?_)
                  have hKc := hK.sub (tys' := [(ka0_16, .int), (ka0_1, .int), (ka0_12, .int)]) [1, 2, 0] rfl
                  refine va_callv (va_runV (As := []) (rest := []) ⟨hx, hb, hml, hown, hts⟩ (fG_X8_seenLine l dC dI H.size a0 a0g_0 a0g_2 a0g_11 a0g_14 a0g_15 a0g_17 a0g_18 a0g_19 a0g_20 a0g_21 a0g_22 a0g_23 a0g_24 a0g_25 a0g_26 a0g_27 a0g_28 a0g_29 a0g_30 a0g_31 a0g_32 a0g_33 a0g_34 a0g_35 a0g_36 a0g_37 a0g_38 a0g_39 a0_1 a0_3 v115na0_4 v115na0_5 v115na0_6 v115na0_7 v115na0_8 v115na0_9 v115na0_10 a0_12 a0_16 ka0_16 fa0_16 ka0_1 fa0_1 ka0_12 v115nfa0_12 ad ba0_3_l ba0_3_u bv115na0_5.1 bv115na0_5.2 bv115na0_8.1 bv115na0_8.2 bfa0_16 (by have h1 := u107f_x104; rw [ex104] at h1; exact h1)) (cwV 0 hts gX8_readLine_X8_seenLine rfl rfl rfl zd_X8_seenLine ⟨Nat.le_of_ble_eq_true rfl, Nat.le_of_ble_eq_true rfl⟩) ⟨ax_blind (fun _ _ _ _ hq => sxc_T_same _ _ _ _ (hq)), zr_8 hKc hPc (q0 := 0) rfl, ax_preE hPc hKc hDc (fun U hU hW => sxc_T_to hE0 hS.2.1 hFc hU hW)⟩ rfl rfl hl.1 rfl (lv_room (Nat.le_of_ble_eq_true rfl)) dX8_readLine_122 ⟨Nat.le_of_ble_eq_true rfl, Nat.le_of_ble_eq_true rfl⟩) hS (fun q _ h => hFc q h) hFc (fun u t H locs ht hvm hw => zx_10 (fun v122na0_4 v122na0_5 v122na0_6 v122na0_7 v122na0_8 v122na0_9 v122na0_10 v122na0_13 v122nfa0_16 v122nfa0_12 => zy_7 (fun bv122na0_5 bv122na0_8 bv122na0_13 bv122nfa0_16 hraw122_0 hraw122_1 hraw122_2 hB hz1 hk1 hS1 => zo hB ht hS1 (fun hP1 hK1 hD1 hS => ?_))))
                  refine zc_backc (w := [(a0, .inr (8, [a0g_0, Value.ref a0_1, a0g_2, Value.int a0_3, Value.int v122na0_4, Value.int v122na0_5, Value.int v122na0_6, Value.int v122na0_7, Value.int v122na0_8, Value.int v122na0_9, Value.int v122na0_10, a0g_11, Value.ref a0_12, Value.int v122na0_13, a0g_14, a0g_15, Value.ref a0_16, a0g_17, a0g_18, a0g_19, a0g_20, a0g_21, a0g_22, a0g_23, a0g_24, a0g_25, a0g_26, a0g_27, a0g_28, a0g_29, a0g_30, a0g_31, a0g_32, a0g_33, a0g_34, a0g_35, a0g_36, a0g_37, a0g_38, a0g_39])), (a0_12, .inl (ka0_12, 8, .inl (v122nfa0_12))), (a0_16, .inl (ka0_16, 156, .inl (v122nfa0_16))), (a0_1, .inl (ka0_1, 900, .inl (fa0_1)))]) hP hD hCc hk1 hFc hP1 hD1 [.inr 0, .inr 3, .inr 1, .inr 2] (by decide +kernel) rfl (fun hP hD => ?_)
                  have hc122 : FfG_X8_seenLine a0_3.toInt v115na0_4.toInt v115na0_5.toInt v115na0_6.toInt v115na0_7.toInt v115na0_8.toInt v115na0_9.toInt v115na0_10.toInt (fl_A fa0_16) (fl_A fa0_1) (fl_A v115nfa0_12) = (v122na0_4.toInt, v122na0_5.toInt, v122na0_6.toInt, v122na0_7.toInt, v122na0_8.toInt, v122na0_9.toInt, v122na0_10.toInt, v122na0_13.toInt, (fl_A v122nfa0_16), (fl_A v122nfa0_12)) := hraw122_2
                  have hF0 := hF0.trans (fl_c10_eq hc122)
                  rcases hraw122_0 with hf122 | hf122
                  · subst hf122
                    have hF0 := hF0.trans (if_pos (by decide))
                    refine lv_goto (tgt := 137) hx hb dX8_readLine_125 (by decide) ?_
                    have hFe : FX = (v122na0_4.toInt, v122na0_5.toInt, v122na0_6.toInt, v122na0_7.toInt, v122na0_8.toInt, v122na0_9.toInt, v122na0_10.toInt, 1, (fl_A v122nfa0_12), (fl_A v122nfa0_16)) := hF0
                    exact W.vret hx hb hr (fun t ht hW => ⟨⟨(), rfl, trivial, v122na0_4, v122na0_5, v122na0_6, v122na0_7, v122na0_8, v122na0_9, v122na0_10, 1, v122nfa0_12, v122nfa0_16, ⟨bv122na0_5.1, bv122na0_5.2⟩, ⟨bv122na0_8.1, bv122na0_8.2⟩, ⟨Int.le_trans (by decide) zq1, zq0⟩, bv122nfa0_16, (Or.inl rfl), (em_t hraw51_1 (em_t hraw82_1 (em_t hraw115_1 hraw122_1))), hFe, by rw [ht]; exact hP, va_K.moved hW.alike hK, hD⟩, hS.F ht⟩) hS.2.2 dX8_readLine_137
                  · subst hf122
                    have hF0 := hF0.trans (if_neg (by decide))
                    refine lv_goto (tgt := 137) hx hb dX8_readLine_125 (by decide) ?_
                    have hFe : FX = (v122na0_4.toInt, v122na0_5.toInt, v122na0_6.toInt, v122na0_7.toInt, v122na0_8.toInt, v122na0_9.toInt, v122na0_10.toInt, 0, (fl_A v122nfa0_12), (fl_A v122nfa0_16)) := hF0
                    exact W.vret hx hb hr (fun t ht hW => ⟨⟨(), rfl, trivial, v122na0_4, v122na0_5, v122na0_6, v122na0_7, v122na0_8, v122na0_9, v122na0_10, 0, v122nfa0_12, v122nfa0_16, ⟨bv122na0_5.1, bv122na0_5.2⟩, ⟨bv122na0_8.1, bv122na0_8.2⟩, ⟨zq5, Int.le_trans zq6 (by decide)⟩, bv122nfa0_16, (Or.inr rfl), (em_t hraw51_1 (em_t hraw82_1 (em_t hraw115_1 hraw122_1))), hFe, by rw [ht]; exact hP, va_K.moved hW.alike hK, hD⟩, hS.F ht⟩) hS.2.2 dX8_readLine_137
            · obtain ⟨hw, huh82⟩ := hw
              subst hw
              subst huh82
              have hF0 := hF0.trans (if_neg (by decide))
              have hF0 := hF0.trans (if_pos (by decide))
              refine lv_if_eq (tgt := 95) hx hb dX8_readLine_85 (by decide) (fun c85 => absurd c85 (by decide +kernel)) (fun _ => ?_)
              refine lv_aload_n hx hb dX8_readLine_88 rfl (lv_at hl 0 rfl) ?_
              refine va_callv (va_runV (As := []) (rest := []) ⟨hx, hb, hml, hown, hts⟩ (fF_X8_watcherLine l dC dI H.size a0 a0g_0 (Value.ref a0_1) a0g_2 (Value.int a0_3) (Value.int v82na0_4) (Value.int v82na0_5) (Value.int v82na0_6) (Value.int v82na0_7) (Value.int v82na0_8) (Value.int v82na0_9) (Value.int v82na0_10) a0g_11 (Value.ref a0_12) a0g_14 a0g_15 (Value.ref a0_16) a0g_17 a0g_18 a0g_19 a0g_20 a0g_21 a0g_22 a0g_23 a0g_24 a0g_25 a0g_26 a0g_27 a0g_28 a0g_29 a0g_30 a0g_31 a0g_32 a0g_33 a0g_34 a0g_35 a0g_36 a0g_37 a0g_38 a0g_39 ) (cwV 0 hts gX8_readLine_X8_watcherLine rfl rfl rfl zd_X8_watcherLine ⟨Nat.le_of_ble_eq_true rfl, Nat.le_of_ble_eq_true rfl⟩) ⟨ax_blind (fun _ _ _ _ _ => trivial), zr_8 (zp_K hK) (zp_P1 hP) (q0 := 0) rfl, ax_pre (zp_P1 hP) (zp_K hK) (zp_D1 hD) (fun _ _ => trivial)⟩ rfl rfl hl.1 rfl (lv_room (Nat.le_of_ble_eq_true rfl)) dX8_readLine_89 ⟨Nat.le_of_ble_eq_true rfl, Nat.le_of_ble_eq_true rfl⟩) hS (fun q _ h => zp_F1 hD hS hA q h) (zp_F1 hD hS hA) (fun u t H locs ht hvm hw hB hz1 hk1 hS1 => zo1 hB ht hP hD hk1 (zp_F1 hD hS hA) hS1 (fun hP hK1 hD hS => ?_))
              refine lv_goto (tgt := 137) hx hb dX8_readLine_92 (by decide) ?_
              have hFe : FX = (v82na0_4.toInt, v82na0_5.toInt, v82na0_6.toInt, v82na0_7.toInt, v82na0_8.toInt, v82na0_9.toInt, v82na0_10.toInt, 1, (fl_A v82nfa0_12), (fl_A fa0_16)) := hF0
              exact W.vret hx hb hr (fun t ht hW => ⟨⟨(), rfl, trivial, v82na0_4, v82na0_5, v82na0_6, v82na0_7, v82na0_8, v82na0_9, v82na0_10, 1, v82nfa0_12, fa0_16, ⟨bv82na0_5.1, bv82na0_5.2⟩, ⟨bv82na0_8.1, bv82na0_8.2⟩, ⟨Int.le_trans (by decide) zq1, zq0⟩, bfa0_16, (Or.inl rfl), (em_t hraw51_1 hraw82_1), hFe, by rw [ht]; exact hP, va_K.moved hW.alike hK, hD⟩, hS.F ht⟩) hS.2.2 dX8_readLine_137
            · obtain ⟨hw, huh82, h82⟩ := hw
              subst hw
              subst huh82
              exact absurd h82.1 (by decide)
          · have gc74 := ai_nle c74
            have u74f_x72 : x72.toInt ≤ (2 : Int) := ai_lthi gc74 zq9
            have hF0 := hF0.trans (if_neg (show ¬ (3 ≤ x72.toInt) from Int.not_le.mpr gc74))
            refine lv_iconst (v := 1) hx hb dX8_readLine_77 zk_iconst_1 ?_
            refine lv_goto (tgt := 82) hx hb dX8_readLine_78 (by decide) ?_
            have hKc := hK.sub (tys' := [(ka0_12, .int), (ka0_16, .int), (ka0_1, .int)]) [0, 1, 2] rfl
            refine va_calli (va_runV (As := [.ref (ad 21), .int 1]) (rest := []) ⟨hx, hb, hml, hown, hts⟩ (fG_X8_begins l dC dI H.size a0 (ad 21) 1 a0g_0 a0g_2 a0g_11 a0g_14 a0g_15 a0g_17 a0g_18 a0g_19 a0g_20 a0g_21 a0g_22 a0g_23 a0g_24 a0g_25 a0g_26 a0g_27 a0g_28 a0g_29 a0g_30 a0g_31 a0g_32 a0g_33 a0g_34 a0g_35 a0g_36 a0g_37 a0g_38 a0g_39 a0_1 a0_3 v51na0_4 v51na0_5 v51na0_6 v51na0_7 v51na0_8 v51na0_9 v51na0_10 a0_12 a0_16 ka0_12 v51nfa0_12 ka0_16 fa0_16 ka0_1 fa0_1 7 (sxc 21) (Int.le_trans zq4 zq1) zq0 ba0_3_l ba0_3_u bv51na0_5.1 bv51na0_5.2 bv51na0_8.1 bv51na0_8.2 bfa0_16 hraw51_0) (cwV 2 hts gX8_readLine_X8_begins rfl rfl rfl zd_X8_begins ⟨Nat.le_of_ble_eq_true rfl, Nat.le_of_ble_eq_true rfl⟩) ⟨ax_blind (fun _ _ _ _ hq => sxc_W_same _ _ _ _ (hq)), zr_8 hKc (zp_P4 hP) (q0 := 0) rfl, ax_preE (zp_P4 hP) hKc (zp_D4 hD) (fun U hU hW => sxc_W_to (sxc_T_w hE0 (i := 21) (by decide)) hS.2.1 (zp_F4 hD hS hA) hU hW)⟩ rfl rfl hl.1 rfl (lv_room (Nat.le_of_ble_eq_true rfl)) dX8_readLine_82 ⟨Nat.le_of_ble_eq_true rfl, Nat.le_of_ble_eq_true rfl⟩) hS (fun q _ h => zp_F4 hD hS hA q h) (zp_F4 hD hS hA) (fun r82 v82na0_13 t H1 locs ht hvm hw => zx_8 (fun v82na0_4 v82na0_5 v82na0_6 v82na0_7 v82na0_8 v82na0_9 v82na0_10 v82nfa0_12 => zy_6 (fun bv82na0_5 bv82na0_8 bv82na0_13 hraw82_0 hraw82_1 hraw82_2 hB hz1 hk1 hS1 => zo4 hB ht hP hD hk1 (zp_F4 hD hS hA) hS1 (fun hP hK1 hD hS => ?_))))
            generalize H1 = H at hP hS ⊢
            obtain ⟨hw, hfr82⟩ := hw
            rw [show (1 : Int32).toInt = 1 from by decide, show ((7 : Nat) : Int) = 7 from rfl] at hfr82 hraw82_2
            have hc82 : FfG_X8_begins 1 a0_3.toInt v51na0_4.toInt v51na0_5.toInt v51na0_6.toInt v51na0_7.toInt v51na0_8.toInt v51na0_9.toInt v51na0_10.toInt (fl_A v51nfa0_12) (fl_A fa0_16) (fl_A fa0_1) 7 (fl_A (sxc 21)) = (r82.toInt, v82na0_4.toInt, v82na0_5.toInt, v82na0_6.toInt, v82na0_7.toInt, v82na0_8.toInt, v82na0_9.toInt, v82na0_10.toInt, v82na0_13.toInt, (fl_A v82nfa0_12)) := Prod.ext hfr82.symm hraw82_2
            have hF0 := hF0.trans (fl_c10_eq hc82)
            rcases hw with hw | hw | hw
            · obtain ⟨hw, huh82⟩ := hw
              subst hw
              subst huh82
              have hF0 := hF0.trans (if_pos (by decide))
              refine lv_if_eq (tgt := 95) hx hb dX8_readLine_85 (by decide) (fun _ => ?_) (fun c85 => absurd (by decide +kernel) c85)
              refine lv_aload_n hx hb dX8_readLine_95 rfl (lv_at hl 0 rfl) ?_
              refine va_ldcS hx hb hown (sxc_R22 hE0) dX8_readLine_96 ?_
              refine lv_aload_n hx hb dX8_readLine_98 rfl (lv_at hl 0 rfl) ?_
              refine va_get (D := (dC, dI)) (ci := 8) (v := .ref a0_16) (C := RX8) (T := TX8) (N := 40) hx hb hts zi_X8_readLine_8 hown hK hP 0 rfl rfl 16 (by decide) (hts (.fieldLink RX8 23 "WaxTurnsModel" "fresh" "[I") (zm_X8_readLine_r1 (List.mem_of_getElem? (i := 0) rfl))) (fun _ h9 => h9) rfl dX8_readLine_99 ?_
              refine lv_bipush (v := 6) hx hb dX8_readLine_102 zk_bipush_6 ?_
              refine va_iald hx hb hK hP 2 1 rfl rfl (by unfold vp_in; decide +kernel) dX8_readLine_104 ?_
              refine lv_topi (fun x104 ex104 => ?_)
              have bx104 : (0 : Int) ≤ x104.toInt ∧ x104.toInt ≤ 6 := by rw [ex104]; exact ai_rd bfa0_16.2.2.2.2.2.2.1 zq15 zq16 (by decide) (by decide) (by decide)
              have fqx104 := congrArg Int32.toInt ex104
              have hF0 := hF0.trans (fl_lt_eq (show x104.toInt = (fl_A fa0_16) (6) from fqx104))
              refine lv_bipush (v := 6) hx hb dX8_readLine_105 zk_bipush_6 ?_
              refine lv_icmp_ge (tgt := 114) hx hb dX8_readLine_107 (by decide) (fun c107 => ?_) (fun c107 => ?_)
              · have gc107 := ai_le c107
                have l107t_x104 : (6 : Int) ≤ x104.toInt := Int.le_trans zq15 gc107
                have hF0 := hF0.trans (if_pos (show 6 ≤ x104.toInt from gc107))
                refine lv_iconst (v := 0) hx hb dX8_readLine_114 zk_iconst_0 ?_
                have hKc := hK.sub (tys' := [(ka0_12, .int), (ka0_16, .int), (ka0_1, .int)]) [0, 1, 2] rfl
                refine va_calli (va_runV (As := [.ref (ad 22), .int 0]) (rest := []) ⟨hx, hb, hml, hown, hts⟩ (fG_X8_begins l dC dI H.size a0 (ad 22) 0 a0g_0 a0g_2 a0g_11 a0g_14 a0g_15 a0g_17 a0g_18 a0g_19 a0g_20 a0g_21 a0g_22 a0g_23 a0g_24 a0g_25 a0g_26 a0g_27 a0g_28 a0g_29 a0g_30 a0g_31 a0g_32 a0g_33 a0g_34 a0g_35 a0g_36 a0g_37 a0g_38 a0g_39 a0_1 a0_3 v82na0_4 v82na0_5 v82na0_6 v82na0_7 v82na0_8 v82na0_9 v82na0_10 a0_12 a0_16 ka0_12 v82nfa0_12 ka0_16 fa0_16 ka0_1 fa0_1 4 (sxc 22) zq5 (Int.le_trans zq6 zq4) ba0_3_l ba0_3_u bv82na0_5.1 bv82na0_5.2 bv82na0_8.1 bv82na0_8.2 bfa0_16 hraw82_0) (cwV 2 hts gX8_readLine_X8_begins rfl rfl rfl zd_X8_begins ⟨Nat.le_of_ble_eq_true rfl, Nat.le_of_ble_eq_true rfl⟩) ⟨ax_blind (fun _ _ _ _ hq => sxc_W_same _ _ _ _ (hq)), zr_8 hKc (zp_P4 hP) (q0 := 0) rfl, ax_preE (zp_P4 hP) hKc (zp_D4 hD) (fun U hU hW => sxc_W_to (sxc_T_w hE0 (i := 22) (by decide)) hS.2.1 (zp_F4 hD hS hA) hU hW)⟩ rfl rfl hl.1 rfl (lv_room (Nat.le_of_ble_eq_true rfl)) dX8_readLine_115 ⟨Nat.le_of_ble_eq_true rfl, Nat.le_of_ble_eq_true rfl⟩) hS (fun q _ h => zp_F4 hD hS hA q h) (zp_F4 hD hS hA) (fun r115 v115na0_13 t H1 locs ht hvm hw => zx_8 (fun v115na0_4 v115na0_5 v115na0_6 v115na0_7 v115na0_8 v115na0_9 v115na0_10 v115nfa0_12 => zy_6 (fun bv115na0_5 bv115na0_8 bv115na0_13 hraw115_0 hraw115_1 hraw115_2 hB hz1 hk1 hS1 => zo4 hB ht hP hD hk1 (zp_F4 hD hS hA) hS1 (fun hP hK1 hD hS => ?_))))
                generalize H1 = H at hP hS ⊢
                obtain ⟨hw, hfr115⟩ := hw
                rw [show (0 : Int32).toInt = 0 from by decide, show ((4 : Nat) : Int) = 4 from rfl] at hfr115 hraw115_2
                have hc115 : FfG_X8_begins 0 a0_3.toInt v82na0_4.toInt v82na0_5.toInt v82na0_6.toInt v82na0_7.toInt v82na0_8.toInt v82na0_9.toInt v82na0_10.toInt (fl_A v82nfa0_12) (fl_A fa0_16) (fl_A fa0_1) 4 (fl_A (sxc 22)) = (r115.toInt, v115na0_4.toInt, v115na0_5.toInt, v115na0_6.toInt, v115na0_7.toInt, v115na0_8.toInt, v115na0_9.toInt, v115na0_10.toInt, v115na0_13.toInt, (fl_A v115nfa0_12)) := Prod.ext hfr115.symm hraw115_2
                have hF0 := hF0.trans (fl_c10_eq hc115)
                rcases hw with hw | hw | hw
                · obtain ⟨hw, huh115⟩ := hw
                  subst hw
                  subst huh115
                  have hF0 := hF0.trans (if_pos (by decide))
                  refine lv_if_eq (tgt := 128) hx hb dX8_readLine_118 (by decide) (fun _ => ?_) (fun c118 => absurd (by decide +kernel) c118)
                  refine lv_aload_n hx hb dX8_readLine_128 rfl (lv_at hl 0 rfl) ?_
                  refine lv_iconst (v := 1) hx hb dX8_readLine_129 zk_iconst_1 ?_
                  refine lv_aload_n hx hb dX8_readLine_130 rfl (lv_at hl 0 rfl) ?_
                  refine va_get (D := (dC, dI)) (ci := 8) (v := .int v115na0_4) (C := RX8) (T := TX8) (N := 40) hx hb hts zi_X8_readLine_8 hown hK hP 0 rfl rfl 4 (by decide) (hts (.fieldLink RX8 78 "WaxTurnsModel" "at" "I") (zm_X8_readLine_r1 (List.mem_of_getElem? (i := 1) rfl))) (fun _ h9 => h9) rfl dX8_readLine_131 ?_
                  refine va_callv (va_runV (As := [.int 1, .int v115na0_4]) (rest := []) ⟨hx, hb, hml, hown, hts⟩ (fG_X8_wrong l dC dI H.size a0 1 v115na0_4 a0g_0 (Value.ref a0_1) a0g_2 (Value.int a0_3) (Value.int v115na0_4) (Value.int v115na0_5) (Value.int v115na0_6) (Value.int v115na0_7) (Value.int v115na0_8) a0g_11 (Value.ref a0_12) a0g_14 a0g_15 (Value.ref a0_16) a0g_17 a0g_18 a0g_19 a0g_20 a0g_21 a0g_22 a0g_23 a0g_24 a0g_25 a0g_26 a0g_27 a0g_28 a0g_29 a0g_30 a0g_31 a0g_32 a0g_33 a0g_34 a0g_35 a0g_36 a0g_37 a0g_38 a0g_39 v115na0_9 v115na0_10 ) (cwV 2 hts gX8_readLine_X8_wrong rfl rfl rfl zd_X8_wrong ⟨Nat.le_of_ble_eq_true rfl, Nat.le_of_ble_eq_true rfl⟩) ⟨ax_blind (fun _ _ _ _ _ => trivial), zr_8 (zp_K hK) (zp_P1 hP) (q0 := 0) rfl, ax_pre (zp_P1 hP) (zp_K hK) (zp_D1 hD) (fun _ _ => trivial)⟩ rfl rfl hl.1 rfl (lv_room (Nat.le_of_ble_eq_true rfl)) dX8_readLine_134 ⟨Nat.le_of_ble_eq_true rfl, Nat.le_of_ble_eq_true rfl⟩) hS (fun q _ h => zp_F1 hD hS hA q h) (zp_F1 hD hS hA) (fun u t H locs ht hvm hw => zx_2 (fun v134na0_9 v134na0_10 => zy_1 (fun hraw134_0 hB hz1 hk1 hS1 => zo1 hB ht hP hD hk1 (zp_F1 hD hS hA) hS1 (fun hP hK1 hD hS => ?_))))
                  rw [show (1 : Int32).toInt = 1 from by decide] at hraw134_0
                  have hc134 : FfG_X8_wrong 1 v115na0_4.toInt = (v134na0_9.toInt, v134na0_10.toInt) := hraw134_0
                  have hF0 := hF0.trans (fl_c2_eq hc134)
                  have hFe : FX = (v115na0_4.toInt, v115na0_5.toInt, v115na0_6.toInt, v115na0_7.toInt, v115na0_8.toInt, v134na0_9.toInt, v134na0_10.toInt, 1, (fl_A v115nfa0_12), (fl_A fa0_16)) := hF0
                  exact W.vret hx hb hr (fun t ht hW => ⟨⟨(), rfl, trivial, v115na0_4, v115na0_5, v115na0_6, v115na0_7, v115na0_8, v134na0_9, v134na0_10, 1, v115nfa0_12, fa0_16, ⟨bv115na0_5.1, bv115na0_5.2⟩, ⟨bv115na0_8.1, bv115na0_8.2⟩, ⟨Int.le_trans (by decide) zq1, zq0⟩, bfa0_16, (Or.inl rfl), (em_t hraw51_1 (em_t hraw82_1 hraw115_1)), hFe, by rw [ht]; exact hP, va_K.moved hW.alike hK, hD⟩, hS.F ht⟩) hS.2.2 dX8_readLine_137
                · obtain ⟨hw, huh115⟩ := hw
                  subst hw
                  subst huh115
                  have hF0 := hF0.trans (if_neg (by decide))
                  have hF0 := hF0.trans (if_pos (by decide))
                  refine lv_if_eq (tgt := 128) hx hb dX8_readLine_118 (by decide) (fun c118 => absurd c118 (by decide +kernel)) (fun _ => ?_)
                  refine lv_aload_n hx hb dX8_readLine_121 rfl (lv_at hl 0 rfl) ?_
                  refine va_callv (va_runV (As := []) (rest := []) ⟨hx, hb, hml, hown, hts⟩ (fF_X8_seenLine l dC dI H.size a0 a0g_0 (Value.ref a0_1) a0g_2 (Value.int a0_3) (Value.int v115na0_4) (Value.int v115na0_5) (Value.int v115na0_6) (Value.int v115na0_7) (Value.int v115na0_8) (Value.int v115na0_9) (Value.int v115na0_10) a0g_11 (Value.ref a0_12) a0g_14 a0g_15 (Value.ref a0_16) a0g_17 a0g_18 a0g_19 a0g_20 a0g_21 a0g_22 a0g_23 a0g_24 a0g_25 a0g_26 a0g_27 a0g_28 a0g_29 a0g_30 a0g_31 a0g_32 a0g_33 a0g_34 a0g_35 a0g_36 a0g_37 a0g_38 a0g_39 ) (cwV 0 hts gX8_readLine_X8_seenLine rfl rfl rfl zd_X8_seenLine ⟨Nat.le_of_ble_eq_true rfl, Nat.le_of_ble_eq_true rfl⟩) ⟨ax_blind (fun _ _ _ _ _ => trivial), zr_8 (zp_K hK) (zp_P1 hP) (q0 := 0) rfl, ax_pre (zp_P1 hP) (zp_K hK) (zp_D1 hD) (fun _ _ => trivial)⟩ rfl rfl hl.1 rfl (lv_room (Nat.le_of_ble_eq_true rfl)) dX8_readLine_122 ⟨Nat.le_of_ble_eq_true rfl, Nat.le_of_ble_eq_true rfl⟩) hS (fun q _ h => zp_F1 hD hS hA q h) (zp_F1 hD hS hA) (fun u t H locs ht hvm hw hB hz1 hk1 hS1 => zo1 hB ht hP hD hk1 (zp_F1 hD hS hA) hS1 (fun hP hK1 hD hS => ?_))
                  refine lv_goto (tgt := 137) hx hb dX8_readLine_125 (by decide) ?_
                  have hFe : FX = (v115na0_4.toInt, v115na0_5.toInt, v115na0_6.toInt, v115na0_7.toInt, v115na0_8.toInt, v115na0_9.toInt, v115na0_10.toInt, 1, (fl_A v115nfa0_12), (fl_A fa0_16)) := hF0
                  exact W.vret hx hb hr (fun t ht hW => ⟨⟨(), rfl, trivial, v115na0_4, v115na0_5, v115na0_6, v115na0_7, v115na0_8, v115na0_9, v115na0_10, 1, v115nfa0_12, fa0_16, ⟨bv115na0_5.1, bv115na0_5.2⟩, ⟨bv115na0_8.1, bv115na0_8.2⟩, ⟨Int.le_trans (by decide) zq1, zq0⟩, bfa0_16, (Or.inl rfl), (em_t hraw51_1 (em_t hraw82_1 hraw115_1)), hFe, by rw [ht]; exact hP, va_K.moved hW.alike hK, hD⟩, hS.F ht⟩) hS.2.2 dX8_readLine_137
                · obtain ⟨hw, huh115, h115⟩ := hw
                  subst hw
                  subst huh115
                  exact absurd h115.1 (by decide)
              · have gc107 := ai_nle c107
                have u107f_x104 : x104.toInt ≤ (5 : Int) := ai_lthi gc107 zq16
                have hF0 := hF0.trans (if_neg (show ¬ (6 ≤ x104.toInt) from Int.not_le.mpr gc107))
                refine lv_iconst (v := 1) hx hb dX8_readLine_110 zk_iconst_1 ?_
                refine lv_goto (tgt := 115) hx hb dX8_readLine_111 (by decide) ?_
                have hKc := hK.sub (tys' := [(ka0_12, .int), (ka0_16, .int), (ka0_1, .int)]) [0, 1, 2] rfl
                refine va_calli (va_runV (As := [.ref (ad 22), .int 1]) (rest := []) ⟨hx, hb, hml, hown, hts⟩ (fG_X8_begins l dC dI H.size a0 (ad 22) 1 a0g_0 a0g_2 a0g_11 a0g_14 a0g_15 a0g_17 a0g_18 a0g_19 a0g_20 a0g_21 a0g_22 a0g_23 a0g_24 a0g_25 a0g_26 a0g_27 a0g_28 a0g_29 a0g_30 a0g_31 a0g_32 a0g_33 a0g_34 a0g_35 a0g_36 a0g_37 a0g_38 a0g_39 a0_1 a0_3 v82na0_4 v82na0_5 v82na0_6 v82na0_7 v82na0_8 v82na0_9 v82na0_10 a0_12 a0_16 ka0_12 v82nfa0_12 ka0_16 fa0_16 ka0_1 fa0_1 4 (sxc 22) (Int.le_trans zq4 zq1) zq0 ba0_3_l ba0_3_u bv82na0_5.1 bv82na0_5.2 bv82na0_8.1 bv82na0_8.2 bfa0_16 hraw82_0) (cwV 2 hts gX8_readLine_X8_begins rfl rfl rfl zd_X8_begins ⟨Nat.le_of_ble_eq_true rfl, Nat.le_of_ble_eq_true rfl⟩) ⟨ax_blind (fun _ _ _ _ hq => sxc_W_same _ _ _ _ (hq)), zr_8 hKc (zp_P4 hP) (q0 := 0) rfl, ax_preE (zp_P4 hP) hKc (zp_D4 hD) (fun U hU hW => sxc_W_to (sxc_T_w hE0 (i := 22) (by decide)) hS.2.1 (zp_F4 hD hS hA) hU hW)⟩ rfl rfl hl.1 rfl (lv_room (Nat.le_of_ble_eq_true rfl)) dX8_readLine_115 ⟨Nat.le_of_ble_eq_true rfl, Nat.le_of_ble_eq_true rfl⟩) hS (fun q _ h => zp_F4 hD hS hA q h) (zp_F4 hD hS hA) (fun r115 v115na0_13 t H1 locs ht hvm hw => zx_8 (fun v115na0_4 v115na0_5 v115na0_6 v115na0_7 v115na0_8 v115na0_9 v115na0_10 v115nfa0_12 => zy_6 (fun bv115na0_5 bv115na0_8 bv115na0_13 hraw115_0 hraw115_1 hraw115_2 hB hz1 hk1 hS1 => zo4 hB ht hP hD hk1 (zp_F4 hD hS hA) hS1 (fun hP hK1 hD hS => ?_))))
                generalize H1 = H at hP hS ⊢
                obtain ⟨hw, hfr115⟩ := hw
                rw [show (1 : Int32).toInt = 1 from by decide, show ((4 : Nat) : Int) = 4 from rfl] at hfr115 hraw115_2
                have hc115 : FfG_X8_begins 1 a0_3.toInt v82na0_4.toInt v82na0_5.toInt v82na0_6.toInt v82na0_7.toInt v82na0_8.toInt v82na0_9.toInt v82na0_10.toInt (fl_A v82nfa0_12) (fl_A fa0_16) (fl_A fa0_1) 4 (fl_A (sxc 22)) = (r115.toInt, v115na0_4.toInt, v115na0_5.toInt, v115na0_6.toInt, v115na0_7.toInt, v115na0_8.toInt, v115na0_9.toInt, v115na0_10.toInt, v115na0_13.toInt, (fl_A v115nfa0_12)) := Prod.ext hfr115.symm hraw115_2
                have hF0 := hF0.trans (fl_c10_eq hc115)
                rcases hw with hw | hw | hw
                · obtain ⟨hw, huh115⟩ := hw
                  subst hw
                  subst huh115
                  have hF0 := hF0.trans (if_pos (by decide))
                  refine lv_if_eq (tgt := 128) hx hb dX8_readLine_118 (by decide) (fun _ => ?_) (fun c118 => absurd (by decide +kernel) c118)
                  refine lv_aload_n hx hb dX8_readLine_128 rfl (lv_at hl 0 rfl) ?_
                  refine lv_iconst (v := 1) hx hb dX8_readLine_129 zk_iconst_1 ?_
                  refine lv_aload_n hx hb dX8_readLine_130 rfl (lv_at hl 0 rfl) ?_
                  refine va_get (D := (dC, dI)) (ci := 8) (v := .int v115na0_4) (C := RX8) (T := TX8) (N := 40) hx hb hts zi_X8_readLine_8 hown hK hP 0 rfl rfl 4 (by decide) (hts (.fieldLink RX8 78 "WaxTurnsModel" "at" "I") (zm_X8_readLine_r1 (List.mem_of_getElem? (i := 1) rfl))) (fun _ h9 => h9) rfl dX8_readLine_131 ?_
                  refine va_callv (va_runV (As := [.int 1, .int v115na0_4]) (rest := []) ⟨hx, hb, hml, hown, hts⟩ (fG_X8_wrong l dC dI H.size a0 1 v115na0_4 a0g_0 (Value.ref a0_1) a0g_2 (Value.int a0_3) (Value.int v115na0_4) (Value.int v115na0_5) (Value.int v115na0_6) (Value.int v115na0_7) (Value.int v115na0_8) a0g_11 (Value.ref a0_12) a0g_14 a0g_15 (Value.ref a0_16) a0g_17 a0g_18 a0g_19 a0g_20 a0g_21 a0g_22 a0g_23 a0g_24 a0g_25 a0g_26 a0g_27 a0g_28 a0g_29 a0g_30 a0g_31 a0g_32 a0g_33 a0g_34 a0g_35 a0g_36 a0g_37 a0g_38 a0g_39 v115na0_9 v115na0_10 ) (cwV 2 hts gX8_readLine_X8_wrong rfl rfl rfl zd_X8_wrong ⟨Nat.le_of_ble_eq_true rfl, Nat.le_of_ble_eq_true rfl⟩) ⟨ax_blind (fun _ _ _ _ _ => trivial), zr_8 (zp_K hK) (zp_P1 hP) (q0 := 0) rfl, ax_pre (zp_P1 hP) (zp_K hK) (zp_D1 hD) (fun _ _ => trivial)⟩ rfl rfl hl.1 rfl (lv_room (Nat.le_of_ble_eq_true rfl)) dX8_readLine_134 ⟨Nat.le_of_ble_eq_true rfl, Nat.le_of_ble_eq_true rfl⟩) hS (fun q _ h => zp_F1 hD hS hA q h) (zp_F1 hD hS hA) (fun u t H locs ht hvm hw => zx_2 (fun v134na0_9 v134na0_10 => zy_1 (fun hraw134_0 hB hz1 hk1 hS1 => zo1 hB ht hP hD hk1 (zp_F1 hD hS hA) hS1 (fun hP hK1 hD hS => ?_))))
                  rw [show (1 : Int32).toInt = 1 from by decide] at hraw134_0
                  have hc134 : FfG_X8_wrong 1 v115na0_4.toInt = (v134na0_9.toInt, v134na0_10.toInt) := hraw134_0
                  have hF0 := hF0.trans (fl_c2_eq hc134)
                  have hFe : FX = (v115na0_4.toInt, v115na0_5.toInt, v115na0_6.toInt, v115na0_7.toInt, v115na0_8.toInt, v134na0_9.toInt, v134na0_10.toInt, 1, (fl_A v115nfa0_12), (fl_A fa0_16)) := hF0
                  exact W.vret hx hb hr (fun t ht hW => ⟨⟨(), rfl, trivial, v115na0_4, v115na0_5, v115na0_6, v115na0_7, v115na0_8, v134na0_9, v134na0_10, 1, v115nfa0_12, fa0_16, ⟨bv115na0_5.1, bv115na0_5.2⟩, ⟨bv115na0_8.1, bv115na0_8.2⟩, ⟨Int.le_trans (by decide) zq1, zq0⟩, bfa0_16, (Or.inl rfl), (em_t hraw51_1 (em_t hraw82_1 hraw115_1)), hFe, by rw [ht]; exact hP, va_K.moved hW.alike hK, hD⟩, hS.F ht⟩) hS.2.2 dX8_readLine_137
                · obtain ⟨hw, huh115⟩ := hw
                  subst hw
                  subst huh115
                  have hF0 := hF0.trans (if_neg (by decide))
                  have hF0 := hF0.trans (if_pos (by decide))
                  refine lv_if_eq (tgt := 128) hx hb dX8_readLine_118 (by decide) (fun c118 => absurd c118 (by decide +kernel)) (fun _ => ?_)
                  refine lv_aload_n hx hb dX8_readLine_121 rfl (lv_at hl 0 rfl) ?_
                  refine va_callv (va_runV (As := []) (rest := []) ⟨hx, hb, hml, hown, hts⟩ (fF_X8_seenLine l dC dI H.size a0 a0g_0 (Value.ref a0_1) a0g_2 (Value.int a0_3) (Value.int v115na0_4) (Value.int v115na0_5) (Value.int v115na0_6) (Value.int v115na0_7) (Value.int v115na0_8) (Value.int v115na0_9) (Value.int v115na0_10) a0g_11 (Value.ref a0_12) a0g_14 a0g_15 (Value.ref a0_16) a0g_17 a0g_18 a0g_19 a0g_20 a0g_21 a0g_22 a0g_23 a0g_24 a0g_25 a0g_26 a0g_27 a0g_28 a0g_29 a0g_30 a0g_31 a0g_32 a0g_33 a0g_34 a0g_35 a0g_36 a0g_37 a0g_38 a0g_39 ) (cwV 0 hts gX8_readLine_X8_seenLine rfl rfl rfl zd_X8_seenLine ⟨Nat.le_of_ble_eq_true rfl, Nat.le_of_ble_eq_true rfl⟩) ⟨ax_blind (fun _ _ _ _ _ => trivial), zr_8 (zp_K hK) (zp_P1 hP) (q0 := 0) rfl, ax_pre (zp_P1 hP) (zp_K hK) (zp_D1 hD) (fun _ _ => trivial)⟩ rfl rfl hl.1 rfl (lv_room (Nat.le_of_ble_eq_true rfl)) dX8_readLine_122 ⟨Nat.le_of_ble_eq_true rfl, Nat.le_of_ble_eq_true rfl⟩) hS (fun q _ h => zp_F1 hD hS hA q h) (zp_F1 hD hS hA) (fun u t H locs ht hvm hw hB hz1 hk1 hS1 => zo1 hB ht hP hD hk1 (zp_F1 hD hS hA) hS1 (fun hP hK1 hD hS => ?_))
                  refine lv_goto (tgt := 137) hx hb dX8_readLine_125 (by decide) ?_
                  have hFe : FX = (v115na0_4.toInt, v115na0_5.toInt, v115na0_6.toInt, v115na0_7.toInt, v115na0_8.toInt, v115na0_9.toInt, v115na0_10.toInt, 1, (fl_A v115nfa0_12), (fl_A fa0_16)) := hF0
                  exact W.vret hx hb hr (fun t ht hW => ⟨⟨(), rfl, trivial, v115na0_4, v115na0_5, v115na0_6, v115na0_7, v115na0_8, v115na0_9, v115na0_10, 1, v115nfa0_12, fa0_16, ⟨bv115na0_5.1, bv115na0_5.2⟩, ⟨bv115na0_8.1, bv115na0_8.2⟩, ⟨Int.le_trans (by decide) zq1, zq0⟩, bfa0_16, (Or.inl rfl), (em_t hraw51_1 (em_t hraw82_1 hraw115_1)), hFe, by rw [ht]; exact hP, va_K.moved hW.alike hK, hD⟩, hS.F ht⟩) hS.2.2 dX8_readLine_137
                · obtain ⟨hw, huh115, h115⟩ := hw
                  subst hw
                  subst huh115
                  have hF0 := hF0.trans (if_neg (by decide))
                  have hF0 := hF0.trans (if_neg (by decide))
                  refine lv_if_eq (tgt := 128) hx hb dX8_readLine_118 (by decide) (fun c118 => absurd c118 (by decide +kernel)) (fun _ => ?_)
                  refine lv_aload_n hx hb dX8_readLine_121 rfl (lv_at hl 0 rfl) ?_
                  refine zc_cutc (wc := [(a0, .inr (8, [a0g_0, Value.ref a0_1, a0g_2, Value.int a0_3, Value.int v115na0_4, Value.int v115na0_5, Value.int v115na0_6, Value.int v115na0_7, Value.int v115na0_8, Value.int v115na0_9, Value.int v115na0_10, a0g_11, Value.ref a0_12, Value.int 0, a0g_14, a0g_15, Value.ref a0_16, a0g_17, a0g_18, a0g_19, a0g_20, a0g_21, a0g_22, a0g_23, a0g_24, a0g_25, a0g_26, a0g_27, a0g_28, a0g_29, a0g_30, a0g_31, a0g_32, a0g_33, a0g_34, a0g_35, a0g_36, a0g_37, a0g_38, a0g_39])), (a0_16, .inl (ka0_16, 156, .inl (fa0_16))), (a0_1, .inl (ka0_1, 900, .inl (fa0_1))), (a0_12, .inl (ka0_12, 8, .inl (v115nfa0_12)))]) hP hD hS hA [0, 2, 3, 1] (by decide +kernel) rfl (fun hPc hDc hFc hCc => ?_)
                  have hKc := hK.sub (tys' := [(ka0_16, .int), (ka0_1, .int), (ka0_12, .int)]) [1, 2, 0] rfl
                  refine va_callv (va_runV (As := []) (rest := []) ⟨hx, hb, hml, hown, hts⟩ (fG_X8_seenLine l dC dI H.size a0 a0g_0 a0g_2 a0g_11 a0g_14 a0g_15 a0g_17 a0g_18 a0g_19 a0g_20 a0g_21 a0g_22 a0g_23 a0g_24 a0g_25 a0g_26 a0g_27 a0g_28 a0g_29 a0g_30 a0g_31 a0g_32 a0g_33 a0g_34 a0g_35 a0g_36 a0g_37 a0g_38 a0g_39 a0_1 a0_3 v115na0_4 v115na0_5 v115na0_6 v115na0_7 v115na0_8 v115na0_9 v115na0_10 a0_12 a0_16 ka0_16 fa0_16 ka0_1 fa0_1 ka0_12 v115nfa0_12 ad ba0_3_l ba0_3_u bv115na0_5.1 bv115na0_5.2 bv115na0_8.1 bv115na0_8.2 bfa0_16 (by have h1 := u107f_x104; rw [ex104] at h1; exact h1)) (cwV 0 hts gX8_readLine_X8_seenLine rfl rfl rfl zd_X8_seenLine ⟨Nat.le_of_ble_eq_true rfl, Nat.le_of_ble_eq_true rfl⟩) ⟨ax_blind (fun _ _ _ _ hq => sxc_T_same _ _ _ _ (hq)), zr_8 hKc hPc (q0 := 0) rfl, ax_preE hPc hKc hDc (fun U hU hW => sxc_T_to hE0 hS.2.1 hFc hU hW)⟩ rfl rfl hl.1 rfl (lv_room (Nat.le_of_ble_eq_true rfl)) dX8_readLine_122 ⟨Nat.le_of_ble_eq_true rfl, Nat.le_of_ble_eq_true rfl⟩) hS (fun q _ h => hFc q h) hFc (fun u t H locs ht hvm hw => zx_10 (fun v122na0_4 v122na0_5 v122na0_6 v122na0_7 v122na0_8 v122na0_9 v122na0_10 v122na0_13 v122nfa0_16 v122nfa0_12 => zy_7 (fun bv122na0_5 bv122na0_8 bv122na0_13 bv122nfa0_16 hraw122_0 hraw122_1 hraw122_2 hB hz1 hk1 hS1 => zo hB ht hS1 (fun hP1 hK1 hD1 hS => ?_))))
                  refine zc_backc (w := [(a0, .inr (8, [a0g_0, Value.ref a0_1, a0g_2, Value.int a0_3, Value.int v122na0_4, Value.int v122na0_5, Value.int v122na0_6, Value.int v122na0_7, Value.int v122na0_8, Value.int v122na0_9, Value.int v122na0_10, a0g_11, Value.ref a0_12, Value.int v122na0_13, a0g_14, a0g_15, Value.ref a0_16, a0g_17, a0g_18, a0g_19, a0g_20, a0g_21, a0g_22, a0g_23, a0g_24, a0g_25, a0g_26, a0g_27, a0g_28, a0g_29, a0g_30, a0g_31, a0g_32, a0g_33, a0g_34, a0g_35, a0g_36, a0g_37, a0g_38, a0g_39])), (a0_12, .inl (ka0_12, 8, .inl (v122nfa0_12))), (a0_16, .inl (ka0_16, 156, .inl (v122nfa0_16))), (a0_1, .inl (ka0_1, 900, .inl (fa0_1)))]) hP hD hCc hk1 hFc hP1 hD1 [.inr 0, .inr 3, .inr 1, .inr 2] (by decide +kernel) rfl (fun hP hD => ?_)
                  have hc122 : FfG_X8_seenLine a0_3.toInt v115na0_4.toInt v115na0_5.toInt v115na0_6.toInt v115na0_7.toInt v115na0_8.toInt v115na0_9.toInt v115na0_10.toInt (fl_A fa0_16) (fl_A fa0_1) (fl_A v115nfa0_12) = (v122na0_4.toInt, v122na0_5.toInt, v122na0_6.toInt, v122na0_7.toInt, v122na0_8.toInt, v122na0_9.toInt, v122na0_10.toInt, v122na0_13.toInt, (fl_A v122nfa0_16), (fl_A v122nfa0_12)) := hraw122_2
                  have hF0 := hF0.trans (fl_c10_eq hc122)
                  rcases hraw122_0 with hf122 | hf122
                  · subst hf122
                    have hF0 := hF0.trans (if_pos (by decide))
                    refine lv_goto (tgt := 137) hx hb dX8_readLine_125 (by decide) ?_
                    have hFe : FX = (v122na0_4.toInt, v122na0_5.toInt, v122na0_6.toInt, v122na0_7.toInt, v122na0_8.toInt, v122na0_9.toInt, v122na0_10.toInt, 1, (fl_A v122nfa0_12), (fl_A v122nfa0_16)) := hF0
                    exact W.vret hx hb hr (fun t ht hW => ⟨⟨(), rfl, trivial, v122na0_4, v122na0_5, v122na0_6, v122na0_7, v122na0_8, v122na0_9, v122na0_10, 1, v122nfa0_12, v122nfa0_16, ⟨bv122na0_5.1, bv122na0_5.2⟩, ⟨bv122na0_8.1, bv122na0_8.2⟩, ⟨Int.le_trans (by decide) zq1, zq0⟩, bv122nfa0_16, (Or.inl rfl), (em_t hraw51_1 (em_t hraw82_1 (em_t hraw115_1 hraw122_1))), hFe, by rw [ht]; exact hP, va_K.moved hW.alike hK, hD⟩, hS.F ht⟩) hS.2.2 dX8_readLine_137
                  · subst hf122
                    have hF0 := hF0.trans (if_neg (by decide))
                    refine lv_goto (tgt := 137) hx hb dX8_readLine_125 (by decide) ?_
                    have hFe : FX = (v122na0_4.toInt, v122na0_5.toInt, v122na0_6.toInt, v122na0_7.toInt, v122na0_8.toInt, v122na0_9.toInt, v122na0_10.toInt, 0, (fl_A v122nfa0_12), (fl_A v122nfa0_16)) := hF0
                    exact W.vret hx hb hr (fun t ht hW => ⟨⟨(), rfl, trivial, v122na0_4, v122na0_5, v122na0_6, v122na0_7, v122na0_8, v122na0_9, v122na0_10, 0, v122nfa0_12, v122nfa0_16, ⟨bv122na0_5.1, bv122na0_5.2⟩, ⟨bv122na0_8.1, bv122na0_8.2⟩, ⟨zq5, Int.le_trans zq6 (by decide)⟩, bv122nfa0_16, (Or.inr rfl), (em_t hraw51_1 (em_t hraw82_1 (em_t hraw115_1 hraw122_1))), hFe, by rw [ht]; exact hP, va_K.moved hW.alike hK, hD⟩, hS.F ht⟩) hS.2.2 dX8_readLine_137
            · obtain ⟨hw, huh82⟩ := hw
              subst hw
              subst huh82
              have hF0 := hF0.trans (if_neg (by decide))
              have hF0 := hF0.trans (if_pos (by decide))
              refine lv_if_eq (tgt := 95) hx hb dX8_readLine_85 (by decide) (fun c85 => absurd c85 (by decide +kernel)) (fun _ => ?_)
              refine lv_aload_n hx hb dX8_readLine_88 rfl (lv_at hl 0 rfl) ?_
              refine va_callv (va_runV (As := []) (rest := []) ⟨hx, hb, hml, hown, hts⟩ (fF_X8_watcherLine l dC dI H.size a0 a0g_0 (Value.ref a0_1) a0g_2 (Value.int a0_3) (Value.int v82na0_4) (Value.int v82na0_5) (Value.int v82na0_6) (Value.int v82na0_7) (Value.int v82na0_8) (Value.int v82na0_9) (Value.int v82na0_10) a0g_11 (Value.ref a0_12) a0g_14 a0g_15 (Value.ref a0_16) a0g_17 a0g_18 a0g_19 a0g_20 a0g_21 a0g_22 a0g_23 a0g_24 a0g_25 a0g_26 a0g_27 a0g_28 a0g_29 a0g_30 a0g_31 a0g_32 a0g_33 a0g_34 a0g_35 a0g_36 a0g_37 a0g_38 a0g_39 ) (cwV 0 hts gX8_readLine_X8_watcherLine rfl rfl rfl zd_X8_watcherLine ⟨Nat.le_of_ble_eq_true rfl, Nat.le_of_ble_eq_true rfl⟩) ⟨ax_blind (fun _ _ _ _ _ => trivial), zr_8 (zp_K hK) (zp_P1 hP) (q0 := 0) rfl, ax_pre (zp_P1 hP) (zp_K hK) (zp_D1 hD) (fun _ _ => trivial)⟩ rfl rfl hl.1 rfl (lv_room (Nat.le_of_ble_eq_true rfl)) dX8_readLine_89 ⟨Nat.le_of_ble_eq_true rfl, Nat.le_of_ble_eq_true rfl⟩) hS (fun q _ h => zp_F1 hD hS hA q h) (zp_F1 hD hS hA) (fun u t H locs ht hvm hw hB hz1 hk1 hS1 => zo1 hB ht hP hD hk1 (zp_F1 hD hS hA) hS1 (fun hP hK1 hD hS => ?_))
              refine lv_goto (tgt := 137) hx hb dX8_readLine_92 (by decide) ?_
              have hFe : FX = (v82na0_4.toInt, v82na0_5.toInt, v82na0_6.toInt, v82na0_7.toInt, v82na0_8.toInt, v82na0_9.toInt, v82na0_10.toInt, 1, (fl_A v82nfa0_12), (fl_A fa0_16)) := hF0
              exact W.vret hx hb hr (fun t ht hW => ⟨⟨(), rfl, trivial, v82na0_4, v82na0_5, v82na0_6, v82na0_7, v82na0_8, v82na0_9, v82na0_10, 1, v82nfa0_12, fa0_16, ⟨bv82na0_5.1, bv82na0_5.2⟩, ⟨bv82na0_8.1, bv82na0_8.2⟩, ⟨Int.le_trans (by decide) zq1, zq0⟩, bfa0_16, (Or.inl rfl), (em_t hraw51_1 hraw82_1), hFe, by rw [ht]; exact hP, va_K.moved hW.alike hK, hD⟩, hS.F ht⟩) hS.2.2 dX8_readLine_137
            · obtain ⟨hw, huh82, h82⟩ := hw
              subst hw
              subst huh82
              have hF0 := hF0.trans (if_neg (by decide))
              have hF0 := hF0.trans (if_neg (by decide))
              refine lv_if_eq (tgt := 95) hx hb dX8_readLine_85 (by decide) (fun c85 => absurd c85 (by decide +kernel)) (fun _ => ?_)
              refine lv_aload_n hx hb dX8_readLine_88 rfl (lv_at hl 0 rfl) ?_
              refine zc_cutc (wc := [(a0, .inr (8, [a0g_0, Value.ref a0_1, a0g_2, Value.int a0_3, Value.int v82na0_4, Value.int v82na0_5, Value.int v82na0_6, Value.int v82na0_7, Value.int v82na0_8, Value.int v82na0_9, Value.int v82na0_10, a0g_11, Value.ref a0_12, Value.int 0, a0g_14, a0g_15, Value.ref a0_16, a0g_17, a0g_18, a0g_19, a0g_20, a0g_21, a0g_22, a0g_23, a0g_24, a0g_25, a0g_26, a0g_27, a0g_28, a0g_29, a0g_30, a0g_31, a0g_32, a0g_33, a0g_34, a0g_35, a0g_36, a0g_37, a0g_38, a0g_39])), (a0_16, .inl (ka0_16, 156, .inl (fa0_16))), (a0_12, .inl (ka0_12, 8, .inl (v82nfa0_12))), (a0_1, .inl (ka0_1, 900, .inl (fa0_1)))]) hP hD hS hA [0, 2, 1, 3] (by decide +kernel) rfl (fun hPc hDc hFc hCc => ?_)
              have hKc := hK.sub (tys' := [(ka0_16, .int), (ka0_12, .int), (ka0_1, .int)]) [1, 0, 2] rfl
              refine va_callv (va_runV (As := []) (rest := []) ⟨hx, hb, hml, hown, hts⟩ (fG_X8_watcherLine l dC dI H.size a0 a0g_0 a0g_2 a0g_11 a0g_14 a0g_15 a0g_17 a0g_18 a0g_19 a0g_20 a0g_21 a0g_22 a0g_23 a0g_24 a0g_25 a0g_26 a0g_27 a0g_28 a0g_29 a0g_30 a0g_31 a0g_32 a0g_33 a0g_34 a0g_35 a0g_36 a0g_37 a0g_38 a0g_39 a0_1 a0_3 v82na0_4 v82na0_5 v82na0_6 v82na0_7 v82na0_8 v82na0_9 v82na0_10 a0_12 a0_16 ka0_16 fa0_16 ka0_12 v82nfa0_12 ka0_1 fa0_1 ad ba0_3_l ba0_3_u bv82na0_5.1 bv82na0_5.2 bv82na0_8.1 bv82na0_8.2 bfa0_16 hraw82_0 (by have h1 := u74f_x72; rw [ex72] at h1; exact h1)) (cwV 0 hts gX8_readLine_X8_watcherLine rfl rfl rfl zd_X8_watcherLine ⟨Nat.le_of_ble_eq_true rfl, Nat.le_of_ble_eq_true rfl⟩) ⟨ax_blind (fun _ _ _ _ hq => sxc_T_same _ _ _ _ (hq)), zr_8 hKc hPc (q0 := 0) rfl, ax_preE hPc hKc hDc (fun U hU hW => sxc_T_to hE0 hS.2.1 hFc hU hW)⟩ rfl rfl hl.1 rfl (lv_room (Nat.le_of_ble_eq_true rfl)) dX8_readLine_89 ⟨Nat.le_of_ble_eq_true rfl, Nat.le_of_ble_eq_true rfl⟩) hS (fun q _ h => hFc q h) hFc (fun u t H locs ht hvm hw => zx_10 (fun v89na0_4 v89na0_5 v89na0_6 v89na0_7 v89na0_8 v89na0_9 v89na0_10 v89na0_13 v89nfa0_16 v89nfa0_12 => zy_7 (fun bv89na0_5 bv89na0_8 bv89na0_13 bv89nfa0_16 hraw89_0 hraw89_1 hraw89_2 hB hz1 hk1 hS1 => zo hB ht hS1 (fun hP1 hK1 hD1 hS => ?_))))
              refine zc_backc (w := [(a0, .inr (8, [a0g_0, Value.ref a0_1, a0g_2, Value.int a0_3, Value.int v89na0_4, Value.int v89na0_5, Value.int v89na0_6, Value.int v89na0_7, Value.int v89na0_8, Value.int v89na0_9, Value.int v89na0_10, a0g_11, Value.ref a0_12, Value.int v89na0_13, a0g_14, a0g_15, Value.ref a0_16, a0g_17, a0g_18, a0g_19, a0g_20, a0g_21, a0g_22, a0g_23, a0g_24, a0g_25, a0g_26, a0g_27, a0g_28, a0g_29, a0g_30, a0g_31, a0g_32, a0g_33, a0g_34, a0g_35, a0g_36, a0g_37, a0g_38, a0g_39])), (a0_12, .inl (ka0_12, 8, .inl (v89nfa0_12))), (a0_16, .inl (ka0_16, 156, .inl (v89nfa0_16))), (a0_1, .inl (ka0_1, 900, .inl (fa0_1)))]) hP hD hCc hk1 hFc hP1 hD1 [.inr 0, .inr 2, .inr 1, .inr 3] (by decide +kernel) rfl (fun hP hD => ?_)
              have hc89 : FfG_X8_watcherLine a0_3.toInt v82na0_4.toInt v82na0_5.toInt v82na0_6.toInt v82na0_7.toInt v82na0_8.toInt v82na0_9.toInt v82na0_10.toInt (fl_A fa0_16) (fl_A v82nfa0_12) (fl_A fa0_1) = (v89na0_4.toInt, v89na0_5.toInt, v89na0_6.toInt, v89na0_7.toInt, v89na0_8.toInt, v89na0_9.toInt, v89na0_10.toInt, v89na0_13.toInt, (fl_A v89nfa0_16), (fl_A v89nfa0_12)) := hraw89_2
              have hF0 := hF0.trans (fl_c10_eq hc89)
              rcases hraw89_0 with hf89 | hf89
              · subst hf89
                have hF0 := hF0.trans (if_pos (by decide))
                refine lv_goto (tgt := 137) hx hb dX8_readLine_92 (by decide) ?_
                have hFe : FX = (v89na0_4.toInt, v89na0_5.toInt, v89na0_6.toInt, v89na0_7.toInt, v89na0_8.toInt, v89na0_9.toInt, v89na0_10.toInt, 1, (fl_A v89nfa0_12), (fl_A v89nfa0_16)) := hF0
                exact W.vret hx hb hr (fun t ht hW => ⟨⟨(), rfl, trivial, v89na0_4, v89na0_5, v89na0_6, v89na0_7, v89na0_8, v89na0_9, v89na0_10, 1, v89nfa0_12, v89nfa0_16, ⟨bv89na0_5.1, bv89na0_5.2⟩, ⟨bv89na0_8.1, bv89na0_8.2⟩, ⟨Int.le_trans (by decide) zq1, zq0⟩, bv89nfa0_16, (Or.inl rfl), (em_t hraw51_1 (em_t hraw82_1 hraw89_1)), hFe, by rw [ht]; exact hP, va_K.moved hW.alike hK, hD⟩, hS.F ht⟩) hS.2.2 dX8_readLine_137
              · subst hf89
                have hF0 := hF0.trans (if_neg (by decide))
                refine lv_goto (tgt := 137) hx hb dX8_readLine_92 (by decide) ?_
                have hFe : FX = (v89na0_4.toInt, v89na0_5.toInt, v89na0_6.toInt, v89na0_7.toInt, v89na0_8.toInt, v89na0_9.toInt, v89na0_10.toInt, 0, (fl_A v89nfa0_12), (fl_A v89nfa0_16)) := hF0
                exact W.vret hx hb hr (fun t ht hW => ⟨⟨(), rfl, trivial, v89na0_4, v89na0_5, v89na0_6, v89na0_7, v89na0_8, v89na0_9, v89na0_10, 0, v89nfa0_12, v89nfa0_16, ⟨bv89na0_5.1, bv89na0_5.2⟩, ⟨bv89na0_8.1, bv89na0_8.2⟩, ⟨zq5, Int.le_trans zq6 (by decide)⟩, bv89nfa0_16, (Or.inr rfl), (em_t hraw51_1 (em_t hraw82_1 hraw89_1)), hFe, by rw [ht]; exact hP, va_K.moved hW.alike hK, hD⟩, hS.F ht⟩) hS.2.2 dX8_readLine_137
        · obtain ⟨hw, huh51⟩ := hw
          subst hw
          subst huh51
          have hF0 := hF0.trans (if_neg (by decide))
          have hF0 := hF0.trans (if_pos (by decide))
          refine lv_if_eq (tgt := 64) hx hb dX8_readLine_54 (by decide) (fun c54 => absurd c54 (by decide +kernel)) (fun _ => ?_)
          refine lv_aload_n hx hb dX8_readLine_57 rfl (lv_at hl 0 rfl) ?_
          refine va_callv (va_runV (As := []) (rest := []) ⟨hx, hb, hml, hown, hts⟩ (fF_X8_figureLine l dC dI H.size a0 a0g_0 (Value.ref a0_1) a0g_2 (Value.int a0_3) (Value.int v51na0_4) (Value.int v51na0_5) (Value.int v51na0_6) (Value.int v51na0_7) (Value.int v51na0_8) (Value.int v51na0_9) (Value.int v51na0_10) a0g_11 (Value.ref a0_12) a0g_14 a0g_15 (Value.ref a0_16) a0g_17 a0g_18 a0g_19 a0g_20 a0g_21 a0g_22 a0g_23 a0g_24 a0g_25 a0g_26 a0g_27 a0g_28 a0g_29 a0g_30 a0g_31 a0g_32 a0g_33 a0g_34 a0g_35 a0g_36 a0g_37 a0g_38 a0g_39 ) (cwV 0 hts gX8_readLine_X8_figureLine rfl rfl rfl zd_X8_figureLine ⟨Nat.le_of_ble_eq_true rfl, Nat.le_of_ble_eq_true rfl⟩) ⟨ax_blind (fun _ _ _ _ _ => trivial), zr_8 (zp_K hK) (zp_P1 hP) (q0 := 0) rfl, ax_pre (zp_P1 hP) (zp_K hK) (zp_D1 hD) (fun _ _ => trivial)⟩ rfl rfl hl.1 rfl (lv_room (Nat.le_of_ble_eq_true rfl)) dX8_readLine_58 ⟨Nat.le_of_ble_eq_true rfl, Nat.le_of_ble_eq_true rfl⟩) hS (fun q _ h => zp_F1 hD hS hA q h) (zp_F1 hD hS hA) (fun u t H locs ht hvm hw hB hz1 hk1 hS1 => zo1 hB ht hP hD hk1 (zp_F1 hD hS hA) hS1 (fun hP hK1 hD hS => ?_))
          refine lv_goto (tgt := 137) hx hb dX8_readLine_61 (by decide) ?_
          have hFe : FX = (v51na0_4.toInt, v51na0_5.toInt, v51na0_6.toInt, v51na0_7.toInt, v51na0_8.toInt, v51na0_9.toInt, v51na0_10.toInt, 1, (fl_A v51nfa0_12), (fl_A fa0_16)) := hF0
          exact W.vret hx hb hr (fun t ht hW => ⟨⟨(), rfl, trivial, v51na0_4, v51na0_5, v51na0_6, v51na0_7, v51na0_8, v51na0_9, v51na0_10, 1, v51nfa0_12, fa0_16, ⟨bv51na0_5.1, bv51na0_5.2⟩, ⟨bv51na0_8.1, bv51na0_8.2⟩, ⟨Int.le_trans (by decide) zq1, zq0⟩, bfa0_16, (Or.inl rfl), hraw51_1, hFe, by rw [ht]; exact hP, va_K.moved hW.alike hK, hD⟩, hS.F ht⟩) hS.2.2 dX8_readLine_137
        · obtain ⟨hw, huh51, h51⟩ := hw
          subst hw
          subst huh51
          exact absurd h51.1 (by decide)
      · have gc43 := ai_nle c43
        have u43f_x40 : x40.toInt ≤ (8 : Int) := ai_lthi gc43 zq3
        have hF0 := hF0.trans (if_neg (show ¬ (9 ≤ x40.toInt) from Int.not_le.mpr gc43))
        refine lv_iconst (v := 1) hx hb dX8_readLine_46 zk_iconst_1 ?_
        refine lv_goto (tgt := 51) hx hb dX8_readLine_47 (by decide) ?_
        have hKc := hK.sub (tys' := [(ka0_12, .int), (ka0_16, .int), (ka0_1, .int)]) [0, 1, 2] rfl
        refine va_calli (va_runV (As := [.ref (ad 20), .int 1]) (rest := []) ⟨hx, hb, hml, hown, hts⟩ (fG_X8_begins l dC dI H.size a0 (ad 20) 1 a0g_0 a0g_2 a0g_11 a0g_14 a0g_15 a0g_17 a0g_18 a0g_19 a0g_20 a0g_21 a0g_22 a0g_23 a0g_24 a0g_25 a0g_26 a0g_27 a0g_28 a0g_29 a0g_30 a0g_31 a0g_32 a0g_33 a0g_34 a0g_35 a0g_36 a0g_37 a0g_38 a0g_39 a0_1 a0_3 a0_4 a0_5 a0_6 a0_7 a0_8 a0_9 a0_10 a0_12 a0_16 ka0_12 fa0_12 ka0_16 fa0_16 ka0_1 fa0_1 6 (sxc 20) (Int.le_trans zq4 zq1) zq0 ba0_3_l ba0_3_u ba0_5_l ba0_5_u ba0_8_l ba0_8_u bfa0_16 hR1) (cwV 2 hts gX8_readLine_X8_begins rfl rfl rfl zd_X8_begins ⟨Nat.le_of_ble_eq_true rfl, Nat.le_of_ble_eq_true rfl⟩) ⟨ax_blind (fun _ _ _ _ hq => sxc_W_same _ _ _ _ (hq)), zr_8 hKc (zp_P4 hP) (q0 := 0) rfl, ax_preE (zp_P4 hP) hKc (zp_D4 hD) (fun U hU hW => sxc_W_to (sxc_T_w hE0 (i := 20) (by decide)) hS.2.1 (zp_F4 hD hS hA) hU hW)⟩ rfl rfl hl.1 rfl (lv_room (Nat.le_of_ble_eq_true rfl)) dX8_readLine_51 ⟨Nat.le_of_ble_eq_true rfl, Nat.le_of_ble_eq_true rfl⟩) hS (fun q _ h => zp_F4 hD hS hA q h) (zp_F4 hD hS hA) (fun r51 v51na0_13 t H1 locs ht hvm hw => zx_8 (fun v51na0_4 v51na0_5 v51na0_6 v51na0_7 v51na0_8 v51na0_9 v51na0_10 v51nfa0_12 => zy_6 (fun bv51na0_5 bv51na0_8 bv51na0_13 hraw51_0 hraw51_1 hraw51_2 hB hz1 hk1 hS1 => zo4 hB ht hP hD hk1 (zp_F4 hD hS hA) hS1 (fun hP hK1 hD hS => ?_))))
        generalize H1 = H at hP hS ⊢
        obtain ⟨hw, hfr51⟩ := hw
        rw [show (1 : Int32).toInt = 1 from by decide, show ((6 : Nat) : Int) = 6 from rfl] at hfr51 hraw51_2
        have hc51 : FfG_X8_begins 1 a0_3.toInt a0_4.toInt a0_5.toInt a0_6.toInt a0_7.toInt a0_8.toInt a0_9.toInt a0_10.toInt (fl_A fa0_12) (fl_A fa0_16) (fl_A fa0_1) 6 (fl_A (sxc 20)) = (r51.toInt, v51na0_4.toInt, v51na0_5.toInt, v51na0_6.toInt, v51na0_7.toInt, v51na0_8.toInt, v51na0_9.toInt, v51na0_10.toInt, v51na0_13.toInt, (fl_A v51nfa0_12)) := Prod.ext hfr51.symm hraw51_2
        have hF0 := hF0.trans (fl_c10_eq hc51)
        rcases hw with hw | hw | hw
        · obtain ⟨hw, huh51⟩ := hw
          subst hw
          subst huh51
          have hF0 := hF0.trans (if_pos (by decide))
          refine lv_if_eq (tgt := 64) hx hb dX8_readLine_54 (by decide) (fun _ => ?_) (fun c54 => absurd (by decide +kernel) c54)
          refine lv_aload_n hx hb dX8_readLine_64 rfl (lv_at hl 0 rfl) ?_
          refine va_ldcS hx hb hown (sxc_R21 hE0) dX8_readLine_65 ?_
          refine lv_aload_n hx hb dX8_readLine_67 rfl (lv_at hl 0 rfl) ?_
          refine va_get (D := (dC, dI)) (ci := 8) (v := .ref a0_16) (C := RX8) (T := TX8) (N := 40) hx hb hts zi_X8_readLine_8 hown hK hP 0 rfl rfl 16 (by decide) (hts (.fieldLink RX8 23 "WaxTurnsModel" "fresh" "[I") (zm_X8_readLine_r1 (List.mem_of_getElem? (i := 0) rfl))) (fun _ h9 => h9) rfl dX8_readLine_68 ?_
          refine lv_iconst (v := 5) hx hb dX8_readLine_71 zk_iconst_5 ?_
          refine va_iald hx hb hK hP 2 1 rfl rfl (by unfold vp_in; decide +kernel) dX8_readLine_72 ?_
          refine lv_topi (fun x72 ex72 => ?_)
          have bx72 : (0 : Int) ≤ x72.toInt ∧ x72.toInt ≤ 3 := by rw [ex72]; exact ai_rd bfa0_16.2.2.2.2.2.1 zq112 zq113 (by decide) (by decide) (by decide)
          have fqx72 := congrArg Int32.toInt ex72
          have hF0 := hF0.trans (fl_lt_eq (show x72.toInt = (fl_A fa0_16) (5) from fqx72))
          refine lv_iconst (v := 3) hx hb dX8_readLine_73 zk_iconst_3 ?_
          refine lv_icmp_ge (tgt := 81) hx hb dX8_readLine_74 (by decide) (fun c74 => ?_) (fun c74 => ?_)
          · have gc74 := ai_le c74
            have l74t_x72 : (3 : Int) ≤ x72.toInt := Int.le_trans zq8 gc74
            have hF0 := hF0.trans (if_pos (show 3 ≤ x72.toInt from gc74))
            refine lv_iconst (v := 0) hx hb dX8_readLine_81 zk_iconst_0 ?_
            have hKc := hK.sub (tys' := [(ka0_12, .int), (ka0_16, .int), (ka0_1, .int)]) [0, 1, 2] rfl
            refine va_calli (va_runV (As := [.ref (ad 21), .int 0]) (rest := []) ⟨hx, hb, hml, hown, hts⟩ (fG_X8_begins l dC dI H.size a0 (ad 21) 0 a0g_0 a0g_2 a0g_11 a0g_14 a0g_15 a0g_17 a0g_18 a0g_19 a0g_20 a0g_21 a0g_22 a0g_23 a0g_24 a0g_25 a0g_26 a0g_27 a0g_28 a0g_29 a0g_30 a0g_31 a0g_32 a0g_33 a0g_34 a0g_35 a0g_36 a0g_37 a0g_38 a0g_39 a0_1 a0_3 v51na0_4 v51na0_5 v51na0_6 v51na0_7 v51na0_8 v51na0_9 v51na0_10 a0_12 a0_16 ka0_12 v51nfa0_12 ka0_16 fa0_16 ka0_1 fa0_1 7 (sxc 21) zq5 (Int.le_trans zq6 zq4) ba0_3_l ba0_3_u bv51na0_5.1 bv51na0_5.2 bv51na0_8.1 bv51na0_8.2 bfa0_16 hraw51_0) (cwV 2 hts gX8_readLine_X8_begins rfl rfl rfl zd_X8_begins ⟨Nat.le_of_ble_eq_true rfl, Nat.le_of_ble_eq_true rfl⟩) ⟨ax_blind (fun _ _ _ _ hq => sxc_W_same _ _ _ _ (hq)), zr_8 hKc (zp_P4 hP) (q0 := 0) rfl, ax_preE (zp_P4 hP) hKc (zp_D4 hD) (fun U hU hW => sxc_W_to (sxc_T_w hE0 (i := 21) (by decide)) hS.2.1 (zp_F4 hD hS hA) hU hW)⟩ rfl rfl hl.1 rfl (lv_room (Nat.le_of_ble_eq_true rfl)) dX8_readLine_82 ⟨Nat.le_of_ble_eq_true rfl, Nat.le_of_ble_eq_true rfl⟩) hS (fun q _ h => zp_F4 hD hS hA q h) (zp_F4 hD hS hA) (fun r82 v82na0_13 t H1 locs ht hvm hw => zx_8 (fun v82na0_4 v82na0_5 v82na0_6 v82na0_7 v82na0_8 v82na0_9 v82na0_10 v82nfa0_12 => zy_6 (fun bv82na0_5 bv82na0_8 bv82na0_13 hraw82_0 hraw82_1 hraw82_2 hB hz1 hk1 hS1 => zo4 hB ht hP hD hk1 (zp_F4 hD hS hA) hS1 (fun hP hK1 hD hS => ?_))))
            generalize H1 = H at hP hS ⊢
            obtain ⟨hw, hfr82⟩ := hw
            rw [show (0 : Int32).toInt = 0 from by decide, show ((7 : Nat) : Int) = 7 from rfl] at hfr82 hraw82_2
            have hc82 : FfG_X8_begins 0 a0_3.toInt v51na0_4.toInt v51na0_5.toInt v51na0_6.toInt v51na0_7.toInt v51na0_8.toInt v51na0_9.toInt v51na0_10.toInt (fl_A v51nfa0_12) (fl_A fa0_16) (fl_A fa0_1) 7 (fl_A (sxc 21)) = (r82.toInt, v82na0_4.toInt, v82na0_5.toInt, v82na0_6.toInt, v82na0_7.toInt, v82na0_8.toInt, v82na0_9.toInt, v82na0_10.toInt, v82na0_13.toInt, (fl_A v82nfa0_12)) := Prod.ext hfr82.symm hraw82_2
            have hF0 := hF0.trans (fl_c10_eq hc82)
            rcases hw with hw | hw | hw
            · obtain ⟨hw, huh82⟩ := hw
              subst hw
              subst huh82
              have hF0 := hF0.trans (if_pos (by decide))
              refine lv_if_eq (tgt := 95) hx hb dX8_readLine_85 (by decide) (fun _ => ?_) (fun c85 => absurd (by decide +kernel) c85)
              refine lv_aload_n hx hb dX8_readLine_95 rfl (lv_at hl 0 rfl) ?_
              refine va_ldcS hx hb hown (sxc_R22 hE0) dX8_readLine_96 ?_
              refine lv_aload_n hx hb dX8_readLine_98 rfl (lv_at hl 0 rfl) ?_
              refine va_get (D := (dC, dI)) (ci := 8) (v := .ref a0_16) (C := RX8) (T := TX8) (N := 40) hx hb hts zi_X8_readLine_8 hown hK hP 0 rfl rfl 16 (by decide) (hts (.fieldLink RX8 23 "WaxTurnsModel" "fresh" "[I") (zm_X8_readLine_r1 (List.mem_of_getElem? (i := 0) rfl))) (fun _ h9 => h9) rfl dX8_readLine_99 ?_
              refine lv_bipush (v := 6) hx hb dX8_readLine_102 zk_bipush_6 ?_
              refine va_iald hx hb hK hP 2 1 rfl rfl (by unfold vp_in; decide +kernel) dX8_readLine_104 ?_
              refine lv_topi (fun x104 ex104 => ?_)
              have bx104 : (0 : Int) ≤ x104.toInt ∧ x104.toInt ≤ 6 := by rw [ex104]; exact ai_rd bfa0_16.2.2.2.2.2.2.1 zq15 zq16 (by decide) (by decide) (by decide)
              have fqx104 := congrArg Int32.toInt ex104
              have hF0 := hF0.trans (fl_lt_eq (show x104.toInt = (fl_A fa0_16) (6) from fqx104))
              refine lv_bipush (v := 6) hx hb dX8_readLine_105 zk_bipush_6 ?_
              refine lv_icmp_ge (tgt := 114) hx hb dX8_readLine_107 (by decide) (fun c107 => ?_) (fun c107 => ?_)
              · have gc107 := ai_le c107
                have l107t_x104 : (6 : Int) ≤ x104.toInt := Int.le_trans zq15 gc107
                have hF0 := hF0.trans (if_pos (show 6 ≤ x104.toInt from gc107))
                refine lv_iconst (v := 0) hx hb dX8_readLine_114 zk_iconst_0 ?_
                have hKc := hK.sub (tys' := [(ka0_12, .int), (ka0_16, .int), (ka0_1, .int)]) [0, 1, 2] rfl
                refine va_calli (va_runV (As := [.ref (ad 22), .int 0]) (rest := []) ⟨hx, hb, hml, hown, hts⟩ (fG_X8_begins l dC dI H.size a0 (ad 22) 0 a0g_0 a0g_2 a0g_11 a0g_14 a0g_15 a0g_17 a0g_18 a0g_19 a0g_20 a0g_21 a0g_22 a0g_23 a0g_24 a0g_25 a0g_26 a0g_27 a0g_28 a0g_29 a0g_30 a0g_31 a0g_32 a0g_33 a0g_34 a0g_35 a0g_36 a0g_37 a0g_38 a0g_39 a0_1 a0_3 v82na0_4 v82na0_5 v82na0_6 v82na0_7 v82na0_8 v82na0_9 v82na0_10 a0_12 a0_16 ka0_12 v82nfa0_12 ka0_16 fa0_16 ka0_1 fa0_1 4 (sxc 22) zq5 (Int.le_trans zq6 zq4) ba0_3_l ba0_3_u bv82na0_5.1 bv82na0_5.2 bv82na0_8.1 bv82na0_8.2 bfa0_16 hraw82_0) (cwV 2 hts gX8_readLine_X8_begins rfl rfl rfl zd_X8_begins ⟨Nat.le_of_ble_eq_true rfl, Nat.le_of_ble_eq_true rfl⟩) ⟨ax_blind (fun _ _ _ _ hq => sxc_W_same _ _ _ _ (hq)), zr_8 hKc (zp_P4 hP) (q0 := 0) rfl, ax_preE (zp_P4 hP) hKc (zp_D4 hD) (fun U hU hW => sxc_W_to (sxc_T_w hE0 (i := 22) (by decide)) hS.2.1 (zp_F4 hD hS hA) hU hW)⟩ rfl rfl hl.1 rfl (lv_room (Nat.le_of_ble_eq_true rfl)) dX8_readLine_115 ⟨Nat.le_of_ble_eq_true rfl, Nat.le_of_ble_eq_true rfl⟩) hS (fun q _ h => zp_F4 hD hS hA q h) (zp_F4 hD hS hA) (fun r115 v115na0_13 t H1 locs ht hvm hw => zx_8 (fun v115na0_4 v115na0_5 v115na0_6 v115na0_7 v115na0_8 v115na0_9 v115na0_10 v115nfa0_12 => zy_6 (fun bv115na0_5 bv115na0_8 bv115na0_13 hraw115_0 hraw115_1 hraw115_2 hB hz1 hk1 hS1 => zo4 hB ht hP hD hk1 (zp_F4 hD hS hA) hS1 (fun hP hK1 hD hS => ?_))))
                generalize H1 = H at hP hS ⊢
                obtain ⟨hw, hfr115⟩ := hw
                rw [show (0 : Int32).toInt = 0 from by decide, show ((4 : Nat) : Int) = 4 from rfl] at hfr115 hraw115_2
                have hc115 : FfG_X8_begins 0 a0_3.toInt v82na0_4.toInt v82na0_5.toInt v82na0_6.toInt v82na0_7.toInt v82na0_8.toInt v82na0_9.toInt v82na0_10.toInt (fl_A v82nfa0_12) (fl_A fa0_16) (fl_A fa0_1) 4 (fl_A (sxc 22)) = (r115.toInt, v115na0_4.toInt, v115na0_5.toInt, v115na0_6.toInt, v115na0_7.toInt, v115na0_8.toInt, v115na0_9.toInt, v115na0_10.toInt, v115na0_13.toInt, (fl_A v115nfa0_12)) := Prod.ext hfr115.symm hraw115_2
                have hF0 := hF0.trans (fl_c10_eq hc115)
                rcases hw with hw | hw | hw
                · obtain ⟨hw, huh115⟩ := hw
                  subst hw
                  subst huh115
                  have hF0 := hF0.trans (if_pos (by decide))
                  refine lv_if_eq (tgt := 128) hx hb dX8_readLine_118 (by decide) (fun _ => ?_) (fun c118 => absurd (by decide +kernel) c118)
                  refine lv_aload_n hx hb dX8_readLine_128 rfl (lv_at hl 0 rfl) ?_
                  refine lv_iconst (v := 1) hx hb dX8_readLine_129 zk_iconst_1 ?_
                  refine lv_aload_n hx hb dX8_readLine_130 rfl (lv_at hl 0 rfl) ?_
                  refine va_get (D := (dC, dI)) (ci := 8) (v := .int v115na0_4) (C := RX8) (T := TX8) (N := 40) hx hb hts zi_X8_readLine_8 hown hK hP 0 rfl rfl 4 (by decide) (hts (.fieldLink RX8 78 "WaxTurnsModel" "at" "I") (zm_X8_readLine_r1 (List.mem_of_getElem? (i := 1) rfl))) (fun _ h9 => h9) rfl dX8_readLine_131 ?_
                  refine va_callv (va_runV (As := [.int 1, .int v115na0_4]) (rest := []) ⟨hx, hb, hml, hown, hts⟩ (fG_X8_wrong l dC dI H.size a0 1 v115na0_4 a0g_0 (Value.ref a0_1) a0g_2 (Value.int a0_3) (Value.int v115na0_4) (Value.int v115na0_5) (Value.int v115na0_6) (Value.int v115na0_7) (Value.int v115na0_8) a0g_11 (Value.ref a0_12) a0g_14 a0g_15 (Value.ref a0_16) a0g_17 a0g_18 a0g_19 a0g_20 a0g_21 a0g_22 a0g_23 a0g_24 a0g_25 a0g_26 a0g_27 a0g_28 a0g_29 a0g_30 a0g_31 a0g_32 a0g_33 a0g_34 a0g_35 a0g_36 a0g_37 a0g_38 a0g_39 v115na0_9 v115na0_10 ) (cwV 2 hts gX8_readLine_X8_wrong rfl rfl rfl zd_X8_wrong ⟨Nat.le_of_ble_eq_true rfl, Nat.le_of_ble_eq_true rfl⟩) ⟨ax_blind (fun _ _ _ _ _ => trivial), zr_8 (zp_K hK) (zp_P1 hP) (q0 := 0) rfl, ax_pre (zp_P1 hP) (zp_K hK) (zp_D1 hD) (fun _ _ => trivial)⟩ rfl rfl hl.1 rfl (lv_room (Nat.le_of_ble_eq_true rfl)) dX8_readLine_134 ⟨Nat.le_of_ble_eq_true rfl, Nat.le_of_ble_eq_true rfl⟩) hS (fun q _ h => zp_F1 hD hS hA q h) (zp_F1 hD hS hA) (fun u t H locs ht hvm hw => zx_2 (fun v134na0_9 v134na0_10 => zy_1 (fun hraw134_0 hB hz1 hk1 hS1 => zo1 hB ht hP hD hk1 (zp_F1 hD hS hA) hS1 (fun hP hK1 hD hS => ?_))))
                  rw [show (1 : Int32).toInt = 1 from by decide] at hraw134_0
                  have hc134 : FfG_X8_wrong 1 v115na0_4.toInt = (v134na0_9.toInt, v134na0_10.toInt) := hraw134_0
                  have hF0 := hF0.trans (fl_c2_eq hc134)
                  have hFe : FX = (v115na0_4.toInt, v115na0_5.toInt, v115na0_6.toInt, v115na0_7.toInt, v115na0_8.toInt, v134na0_9.toInt, v134na0_10.toInt, 1, (fl_A v115nfa0_12), (fl_A fa0_16)) := hF0
                  exact W.vret hx hb hr (fun t ht hW => ⟨⟨(), rfl, trivial, v115na0_4, v115na0_5, v115na0_6, v115na0_7, v115na0_8, v134na0_9, v134na0_10, 1, v115nfa0_12, fa0_16, ⟨bv115na0_5.1, bv115na0_5.2⟩, ⟨bv115na0_8.1, bv115na0_8.2⟩, ⟨Int.le_trans (by decide) zq1, zq0⟩, bfa0_16, (Or.inl rfl), (em_t hraw51_1 (em_t hraw82_1 hraw115_1)), hFe, by rw [ht]; exact hP, va_K.moved hW.alike hK, hD⟩, hS.F ht⟩) hS.2.2 dX8_readLine_137
                · obtain ⟨hw, huh115⟩ := hw
                  subst hw
                  subst huh115
                  have hF0 := hF0.trans (if_neg (by decide))
                  have hF0 := hF0.trans (if_pos (by decide))
                  refine lv_if_eq (tgt := 128) hx hb dX8_readLine_118 (by decide) (fun c118 => absurd c118 (by decide +kernel)) (fun _ => ?_)
                  refine lv_aload_n hx hb dX8_readLine_121 rfl (lv_at hl 0 rfl) ?_
                  refine va_callv (va_runV (As := []) (rest := []) ⟨hx, hb, hml, hown, hts⟩ (fF_X8_seenLine l dC dI H.size a0 a0g_0 (Value.ref a0_1) a0g_2 (Value.int a0_3) (Value.int v115na0_4) (Value.int v115na0_5) (Value.int v115na0_6) (Value.int v115na0_7) (Value.int v115na0_8) (Value.int v115na0_9) (Value.int v115na0_10) a0g_11 (Value.ref a0_12) a0g_14 a0g_15 (Value.ref a0_16) a0g_17 a0g_18 a0g_19 a0g_20 a0g_21 a0g_22 a0g_23 a0g_24 a0g_25 a0g_26 a0g_27 a0g_28 a0g_29 a0g_30 a0g_31 a0g_32 a0g_33 a0g_34 a0g_35 a0g_36 a0g_37 a0g_38 a0g_39 ) (cwV 0 hts gX8_readLine_X8_seenLine rfl rfl rfl zd_X8_seenLine ⟨Nat.le_of_ble_eq_true rfl, Nat.le_of_ble_eq_true rfl⟩) ⟨ax_blind (fun _ _ _ _ _ => trivial), zr_8 (zp_K hK) (zp_P1 hP) (q0 := 0) rfl, ax_pre (zp_P1 hP) (zp_K hK) (zp_D1 hD) (fun _ _ => trivial)⟩ rfl rfl hl.1 rfl (lv_room (Nat.le_of_ble_eq_true rfl)) dX8_readLine_122 ⟨Nat.le_of_ble_eq_true rfl, Nat.le_of_ble_eq_true rfl⟩) hS (fun q _ h => zp_F1 hD hS hA q h) (zp_F1 hD hS hA) (fun u t H locs ht hvm hw hB hz1 hk1 hS1 => zo1 hB ht hP hD hk1 (zp_F1 hD hS hA) hS1 (fun hP hK1 hD hS => ?_))
                  refine lv_goto (tgt := 137) hx hb dX8_readLine_125 (by decide) ?_
                  have hFe : FX = (v115na0_4.toInt, v115na0_5.toInt, v115na0_6.toInt, v115na0_7.toInt, v115na0_8.toInt, v115na0_9.toInt, v115na0_10.toInt, 1, (fl_A v115nfa0_12), (fl_A fa0_16)) := hF0
                  exact W.vret hx hb hr (fun t ht hW => ⟨⟨(), rfl, trivial, v115na0_4, v115na0_5, v115na0_6, v115na0_7, v115na0_8, v115na0_9, v115na0_10, 1, v115nfa0_12, fa0_16, ⟨bv115na0_5.1, bv115na0_5.2⟩, ⟨bv115na0_8.1, bv115na0_8.2⟩, ⟨Int.le_trans (by decide) zq1, zq0⟩, bfa0_16, (Or.inl rfl), (em_t hraw51_1 (em_t hraw82_1 hraw115_1)), hFe, by rw [ht]; exact hP, va_K.moved hW.alike hK, hD⟩, hS.F ht⟩) hS.2.2 dX8_readLine_137
                · obtain ⟨hw, huh115, h115⟩ := hw
                  subst hw
                  subst huh115
                  exact absurd h115.1 (by decide)
              · have gc107 := ai_nle c107
                have u107f_x104 : x104.toInt ≤ (5 : Int) := ai_lthi gc107 zq16
                have hF0 := hF0.trans (if_neg (show ¬ (6 ≤ x104.toInt) from Int.not_le.mpr gc107))
                refine lv_iconst (v := 1) hx hb dX8_readLine_110 zk_iconst_1 ?_
                refine lv_goto (tgt := 115) hx hb dX8_readLine_111 (by decide) ?_
                have hKc := hK.sub (tys' := [(ka0_12, .int), (ka0_16, .int), (ka0_1, .int)]) [0, 1, 2] rfl
                refine va_calli (va_runV (As := [.ref (ad 22), .int 1]) (rest := []) ⟨hx, hb, hml, hown, hts⟩ (fG_X8_begins l dC dI H.size a0 (ad 22) 1 a0g_0 a0g_2 a0g_11 a0g_14 a0g_15 a0g_17 a0g_18 a0g_19 a0g_20 a0g_21 a0g_22 a0g_23 a0g_24 a0g_25 a0g_26 a0g_27 a0g_28 a0g_29 a0g_30 a0g_31 a0g_32 a0g_33 a0g_34 a0g_35 a0g_36 a0g_37 a0g_38 a0g_39 a0_1 a0_3 v82na0_4 v82na0_5 v82na0_6 v82na0_7 v82na0_8 v82na0_9 v82na0_10 a0_12 a0_16 ka0_12 v82nfa0_12 ka0_16 fa0_16 ka0_1 fa0_1 4 (sxc 22) (Int.le_trans zq4 zq1) zq0 ba0_3_l ba0_3_u bv82na0_5.1 bv82na0_5.2 bv82na0_8.1 bv82na0_8.2 bfa0_16 hraw82_0) (cwV 2 hts gX8_readLine_X8_begins rfl rfl rfl zd_X8_begins ⟨Nat.le_of_ble_eq_true rfl, Nat.le_of_ble_eq_true rfl⟩) ⟨ax_blind (fun _ _ _ _ hq => sxc_W_same _ _ _ _ (hq)), zr_8 hKc (zp_P4 hP) (q0 := 0) rfl, ax_preE (zp_P4 hP) hKc (zp_D4 hD) (fun U hU hW => sxc_W_to (sxc_T_w hE0 (i := 22) (by decide)) hS.2.1 (zp_F4 hD hS hA) hU hW)⟩ rfl rfl hl.1 rfl (lv_room (Nat.le_of_ble_eq_true rfl)) dX8_readLine_115 ⟨Nat.le_of_ble_eq_true rfl, Nat.le_of_ble_eq_true rfl⟩) hS (fun q _ h => zp_F4 hD hS hA q h) (zp_F4 hD hS hA) (fun r115 v115na0_13 t H1 locs ht hvm hw => zx_8 (fun v115na0_4 v115na0_5 v115na0_6 v115na0_7 v115na0_8 v115na0_9 v115na0_10 v115nfa0_12 => zy_6 (fun bv115na0_5 bv115na0_8 bv115na0_13 hraw115_0 hraw115_1 hraw115_2 hB hz1 hk1 hS1 => zo4 hB ht hP hD hk1 (zp_F4 hD hS hA) hS1 (fun hP hK1 hD hS => ?_))))
                generalize H1 = H at hP hS ⊢
                obtain ⟨hw, hfr115⟩ := hw
                rw [show (1 : Int32).toInt = 1 from by decide, show ((4 : Nat) : Int) = 4 from rfl] at hfr115 hraw115_2
                have hc115 : FfG_X8_begins 1 a0_3.toInt v82na0_4.toInt v82na0_5.toInt v82na0_6.toInt v82na0_7.toInt v82na0_8.toInt v82na0_9.toInt v82na0_10.toInt (fl_A v82nfa0_12) (fl_A fa0_16) (fl_A fa0_1) 4 (fl_A (sxc 22)) = (r115.toInt, v115na0_4.toInt, v115na0_5.toInt, v115na0_6.toInt, v115na0_7.toInt, v115na0_8.toInt, v115na0_9.toInt, v115na0_10.toInt, v115na0_13.toInt, (fl_A v115nfa0_12)) := Prod.ext hfr115.symm hraw115_2
                have hF0 := hF0.trans (fl_c10_eq hc115)
                rcases hw with hw | hw | hw
                · obtain ⟨hw, huh115⟩ := hw
                  subst hw
                  subst huh115
                  have hF0 := hF0.trans (if_pos (by decide))
                  refine lv_if_eq (tgt := 128) hx hb dX8_readLine_118 (by decide) (fun _ => ?_) (fun c118 => absurd (by decide +kernel) c118)
                  refine lv_aload_n hx hb dX8_readLine_128 rfl (lv_at hl 0 rfl) ?_
                  refine lv_iconst (v := 1) hx hb dX8_readLine_129 zk_iconst_1 ?_
                  refine lv_aload_n hx hb dX8_readLine_130 rfl (lv_at hl 0 rfl) ?_
                  refine va_get (D := (dC, dI)) (ci := 8) (v := .int v115na0_4) (C := RX8) (T := TX8) (N := 40) hx hb hts zi_X8_readLine_8 hown hK hP 0 rfl rfl 4 (by decide) (hts (.fieldLink RX8 78 "WaxTurnsModel" "at" "I") (zm_X8_readLine_r1 (List.mem_of_getElem? (i := 1) rfl))) (fun _ h9 => h9) rfl dX8_readLine_131 ?_
                  refine va_callv (va_runV (As := [.int 1, .int v115na0_4]) (rest := []) ⟨hx, hb, hml, hown, hts⟩ (fG_X8_wrong l dC dI H.size a0 1 v115na0_4 a0g_0 (Value.ref a0_1) a0g_2 (Value.int a0_3) (Value.int v115na0_4) (Value.int v115na0_5) (Value.int v115na0_6) (Value.int v115na0_7) (Value.int v115na0_8) a0g_11 (Value.ref a0_12) a0g_14 a0g_15 (Value.ref a0_16) a0g_17 a0g_18 a0g_19 a0g_20 a0g_21 a0g_22 a0g_23 a0g_24 a0g_25 a0g_26 a0g_27 a0g_28 a0g_29 a0g_30 a0g_31 a0g_32 a0g_33 a0g_34 a0g_35 a0g_36 a0g_37 a0g_38 a0g_39 v115na0_9 v115na0_10 ) (cwV 2 hts gX8_readLine_X8_wrong rfl rfl rfl zd_X8_wrong ⟨Nat.le_of_ble_eq_true rfl, Nat.le_of_ble_eq_true rfl⟩) ⟨ax_blind (fun _ _ _ _ _ => trivial), zr_8 (zp_K hK) (zp_P1 hP) (q0 := 0) rfl, ax_pre (zp_P1 hP) (zp_K hK) (zp_D1 hD) (fun _ _ => trivial)⟩ rfl rfl hl.1 rfl (lv_room (Nat.le_of_ble_eq_true rfl)) dX8_readLine_134 ⟨Nat.le_of_ble_eq_true rfl, Nat.le_of_ble_eq_true rfl⟩) hS (fun q _ h => zp_F1 hD hS hA q h) (zp_F1 hD hS hA) (fun u t H locs ht hvm hw => zx_2 (fun v134na0_9 v134na0_10 => zy_1 (fun hraw134_0 hB hz1 hk1 hS1 => zo1 hB ht hP hD hk1 (zp_F1 hD hS hA) hS1 (fun hP hK1 hD hS => ?_))))
                  rw [show (1 : Int32).toInt = 1 from by decide] at hraw134_0
                  have hc134 : FfG_X8_wrong 1 v115na0_4.toInt = (v134na0_9.toInt, v134na0_10.toInt) := hraw134_0
                  have hF0 := hF0.trans (fl_c2_eq hc134)
                  have hFe : FX = (v115na0_4.toInt, v115na0_5.toInt, v115na0_6.toInt, v115na0_7.toInt, v115na0_8.toInt, v134na0_9.toInt, v134na0_10.toInt, 1, (fl_A v115nfa0_12), (fl_A fa0_16)) := hF0
                  exact W.vret hx hb hr (fun t ht hW => ⟨⟨(), rfl, trivial, v115na0_4, v115na0_5, v115na0_6, v115na0_7, v115na0_8, v134na0_9, v134na0_10, 1, v115nfa0_12, fa0_16, ⟨bv115na0_5.1, bv115na0_5.2⟩, ⟨bv115na0_8.1, bv115na0_8.2⟩, ⟨Int.le_trans (by decide) zq1, zq0⟩, bfa0_16, (Or.inl rfl), (em_t hraw51_1 (em_t hraw82_1 hraw115_1)), hFe, by rw [ht]; exact hP, va_K.moved hW.alike hK, hD⟩, hS.F ht⟩) hS.2.2 dX8_readLine_137
                · obtain ⟨hw, huh115⟩ := hw
                  subst hw
                  subst huh115
                  have hF0 := hF0.trans (if_neg (by decide))
                  have hF0 := hF0.trans (if_pos (by decide))
                  refine lv_if_eq (tgt := 128) hx hb dX8_readLine_118 (by decide) (fun c118 => absurd c118 (by decide +kernel)) (fun _ => ?_)
                  refine lv_aload_n hx hb dX8_readLine_121 rfl (lv_at hl 0 rfl) ?_
                  refine va_callv (va_runV (As := []) (rest := []) ⟨hx, hb, hml, hown, hts⟩ (fF_X8_seenLine l dC dI H.size a0 a0g_0 (Value.ref a0_1) a0g_2 (Value.int a0_3) (Value.int v115na0_4) (Value.int v115na0_5) (Value.int v115na0_6) (Value.int v115na0_7) (Value.int v115na0_8) (Value.int v115na0_9) (Value.int v115na0_10) a0g_11 (Value.ref a0_12) a0g_14 a0g_15 (Value.ref a0_16) a0g_17 a0g_18 a0g_19 a0g_20 a0g_21 a0g_22 a0g_23 a0g_24 a0g_25 a0g_26 a0g_27 a0g_28 a0g_29 a0g_30 a0g_31 a0g_32 a0g_33 a0g_34 a0g_35 a0g_36 a0g_37 a0g_38 a0g_39 ) (cwV 0 hts gX8_readLine_X8_seenLine rfl rfl rfl zd_X8_seenLine ⟨Nat.le_of_ble_eq_true rfl, Nat.le_of_ble_eq_true rfl⟩) ⟨ax_blind (fun _ _ _ _ _ => trivial), zr_8 (zp_K hK) (zp_P1 hP) (q0 := 0) rfl, ax_pre (zp_P1 hP) (zp_K hK) (zp_D1 hD) (fun _ _ => trivial)⟩ rfl rfl hl.1 rfl (lv_room (Nat.le_of_ble_eq_true rfl)) dX8_readLine_122 ⟨Nat.le_of_ble_eq_true rfl, Nat.le_of_ble_eq_true rfl⟩) hS (fun q _ h => zp_F1 hD hS hA q h) (zp_F1 hD hS hA) (fun u t H locs ht hvm hw hB hz1 hk1 hS1 => zo1 hB ht hP hD hk1 (zp_F1 hD hS hA) hS1 (fun hP hK1 hD hS => ?_))
                  refine lv_goto (tgt := 137) hx hb dX8_readLine_125 (by decide) ?_
                  have hFe : FX = (v115na0_4.toInt, v115na0_5.toInt, v115na0_6.toInt, v115na0_7.toInt, v115na0_8.toInt, v115na0_9.toInt, v115na0_10.toInt, 1, (fl_A v115nfa0_12), (fl_A fa0_16)) := hF0
                  exact W.vret hx hb hr (fun t ht hW => ⟨⟨(), rfl, trivial, v115na0_4, v115na0_5, v115na0_6, v115na0_7, v115na0_8, v115na0_9, v115na0_10, 1, v115nfa0_12, fa0_16, ⟨bv115na0_5.1, bv115na0_5.2⟩, ⟨bv115na0_8.1, bv115na0_8.2⟩, ⟨Int.le_trans (by decide) zq1, zq0⟩, bfa0_16, (Or.inl rfl), (em_t hraw51_1 (em_t hraw82_1 hraw115_1)), hFe, by rw [ht]; exact hP, va_K.moved hW.alike hK, hD⟩, hS.F ht⟩) hS.2.2 dX8_readLine_137
                · obtain ⟨hw, huh115, h115⟩ := hw
                  subst hw
                  subst huh115
                  have hF0 := hF0.trans (if_neg (by decide))
                  have hF0 := hF0.trans (if_neg (by decide))
                  refine lv_if_eq (tgt := 128) hx hb dX8_readLine_118 (by decide) (fun c118 => absurd c118 (by decide +kernel)) (fun _ => ?_)
                  refine lv_aload_n hx hb dX8_readLine_121 rfl (lv_at hl 0 rfl) ?_
                  refine zc_cutc (wc := [(a0, .inr (8, [a0g_0, Value.ref a0_1, a0g_2, Value.int a0_3, Value.int v115na0_4, Value.int v115na0_5, Value.int v115na0_6, Value.int v115na0_7, Value.int v115na0_8, Value.int v115na0_9, Value.int v115na0_10, a0g_11, Value.ref a0_12, Value.int 0, a0g_14, a0g_15, Value.ref a0_16, a0g_17, a0g_18, a0g_19, a0g_20, a0g_21, a0g_22, a0g_23, a0g_24, a0g_25, a0g_26, a0g_27, a0g_28, a0g_29, a0g_30, a0g_31, a0g_32, a0g_33, a0g_34, a0g_35, a0g_36, a0g_37, a0g_38, a0g_39])), (a0_16, .inl (ka0_16, 156, .inl (fa0_16))), (a0_1, .inl (ka0_1, 900, .inl (fa0_1))), (a0_12, .inl (ka0_12, 8, .inl (v115nfa0_12)))]) hP hD hS hA [0, 2, 3, 1] (by decide +kernel) rfl (fun hPc hDc hFc hCc => ?_)
                  have hKc := hK.sub (tys' := [(ka0_16, .int), (ka0_1, .int), (ka0_12, .int)]) [1, 2, 0] rfl
                  refine va_callv (va_runV (As := []) (rest := []) ⟨hx, hb, hml, hown, hts⟩ (fG_X8_seenLine l dC dI H.size a0 a0g_0 a0g_2 a0g_11 a0g_14 a0g_15 a0g_17 a0g_18 a0g_19 a0g_20 a0g_21 a0g_22 a0g_23 a0g_24 a0g_25 a0g_26 a0g_27 a0g_28 a0g_29 a0g_30 a0g_31 a0g_32 a0g_33 a0g_34 a0g_35 a0g_36 a0g_37 a0g_38 a0g_39 a0_1 a0_3 v115na0_4 v115na0_5 v115na0_6 v115na0_7 v115na0_8 v115na0_9 v115na0_10 a0_12 a0_16 ka0_16 fa0_16 ka0_1 fa0_1 ka0_12 v115nfa0_12 ad ba0_3_l ba0_3_u bv115na0_5.1 bv115na0_5.2 bv115na0_8.1 bv115na0_8.2 bfa0_16 (by have h1 := u107f_x104; rw [ex104] at h1; exact h1)) (cwV 0 hts gX8_readLine_X8_seenLine rfl rfl rfl zd_X8_seenLine ⟨Nat.le_of_ble_eq_true rfl, Nat.le_of_ble_eq_true rfl⟩) ⟨ax_blind (fun _ _ _ _ hq => sxc_T_same _ _ _ _ (hq)), zr_8 hKc hPc (q0 := 0) rfl, ax_preE hPc hKc hDc (fun U hU hW => sxc_T_to hE0 hS.2.1 hFc hU hW)⟩ rfl rfl hl.1 rfl (lv_room (Nat.le_of_ble_eq_true rfl)) dX8_readLine_122 ⟨Nat.le_of_ble_eq_true rfl, Nat.le_of_ble_eq_true rfl⟩) hS (fun q _ h => hFc q h) hFc (fun u t H locs ht hvm hw => zx_10 (fun v122na0_4 v122na0_5 v122na0_6 v122na0_7 v122na0_8 v122na0_9 v122na0_10 v122na0_13 v122nfa0_16 v122nfa0_12 => zy_7 (fun bv122na0_5 bv122na0_8 bv122na0_13 bv122nfa0_16 hraw122_0 hraw122_1 hraw122_2 hB hz1 hk1 hS1 => zo hB ht hS1 (fun hP1 hK1 hD1 hS => ?_))))
                  refine zc_backc (w := [(a0, .inr (8, [a0g_0, Value.ref a0_1, a0g_2, Value.int a0_3, Value.int v122na0_4, Value.int v122na0_5, Value.int v122na0_6, Value.int v122na0_7, Value.int v122na0_8, Value.int v122na0_9, Value.int v122na0_10, a0g_11, Value.ref a0_12, Value.int v122na0_13, a0g_14, a0g_15, Value.ref a0_16, a0g_17, a0g_18, a0g_19, a0g_20, a0g_21, a0g_22, a0g_23, a0g_24, a0g_25, a0g_26, a0g_27, a0g_28, a0g_29, a0g_30, a0g_31, a0g_32, a0g_33, a0g_34, a0g_35, a0g_36, a0g_37, a0g_38, a0g_39])), (a0_12, .inl (ka0_12, 8, .inl (v122nfa0_12))), (a0_16, .inl (ka0_16, 156, .inl (v122nfa0_16))), (a0_1, .inl (ka0_1, 900, .inl (fa0_1)))]) hP hD hCc hk1 hFc hP1 hD1 [.inr 0, .inr 3, .inr 1, .inr 2] (by decide +kernel) rfl (fun hP hD => ?_)
                  have hc122 : FfG_X8_seenLine a0_3.toInt v115na0_4.toInt v115na0_5.toInt v115na0_6.toInt v115na0_7.toInt v115na0_8.toInt v115na0_9.toInt v115na0_10.toInt (fl_A fa0_16) (fl_A fa0_1) (fl_A v115nfa0_12) = (v122na0_4.toInt, v122na0_5.toInt, v122na0_6.toInt, v122na0_7.toInt, v122na0_8.toInt, v122na0_9.toInt, v122na0_10.toInt, v122na0_13.toInt, (fl_A v122nfa0_16), (fl_A v122nfa0_12)) := hraw122_2
                  have hF0 := hF0.trans (fl_c10_eq hc122)
                  rcases hraw122_0 with hf122 | hf122
                  · subst hf122
                    have hF0 := hF0.trans (if_pos (by decide))
                    refine lv_goto (tgt := 137) hx hb dX8_readLine_125 (by decide) ?_
                    have hFe : FX = (v122na0_4.toInt, v122na0_5.toInt, v122na0_6.toInt, v122na0_7.toInt, v122na0_8.toInt, v122na0_9.toInt, v122na0_10.toInt, 1, (fl_A v122nfa0_12), (fl_A v122nfa0_16)) := hF0
                    exact W.vret hx hb hr (fun t ht hW => ⟨⟨(), rfl, trivial, v122na0_4, v122na0_5, v122na0_6, v122na0_7, v122na0_8, v122na0_9, v122na0_10, 1, v122nfa0_12, v122nfa0_16, ⟨bv122na0_5.1, bv122na0_5.2⟩, ⟨bv122na0_8.1, bv122na0_8.2⟩, ⟨Int.le_trans (by decide) zq1, zq0⟩, bv122nfa0_16, (Or.inl rfl), (em_t hraw51_1 (em_t hraw82_1 (em_t hraw115_1 hraw122_1))), hFe, by rw [ht]; exact hP, va_K.moved hW.alike hK, hD⟩, hS.F ht⟩) hS.2.2 dX8_readLine_137
                  · subst hf122
                    have hF0 := hF0.trans (if_neg (by decide))
                    refine lv_goto (tgt := 137) hx hb dX8_readLine_125 (by decide) ?_
                    have hFe : FX = (v122na0_4.toInt, v122na0_5.toInt, v122na0_6.toInt, v122na0_7.toInt, v122na0_8.toInt, v122na0_9.toInt, v122na0_10.toInt, 0, (fl_A v122nfa0_12), (fl_A v122nfa0_16)) := hF0
                    exact W.vret hx hb hr (fun t ht hW => ⟨⟨(), rfl, trivial, v122na0_4, v122na0_5, v122na0_6, v122na0_7, v122na0_8, v122na0_9, v122na0_10, 0, v122nfa0_12, v122nfa0_16, ⟨bv122na0_5.1, bv122na0_5.2⟩, ⟨bv122na0_8.1, bv122na0_8.2⟩, ⟨zq5, Int.le_trans zq6 (by decide)⟩, bv122nfa0_16, (Or.inr rfl), (em_t hraw51_1 (em_t hraw82_1 (em_t hraw115_1 hraw122_1))), hFe, by rw [ht]; exact hP, va_K.moved hW.alike hK, hD⟩, hS.F ht⟩) hS.2.2 dX8_readLine_137
            · obtain ⟨hw, huh82⟩ := hw
              subst hw
              subst huh82
              have hF0 := hF0.trans (if_neg (by decide))
              have hF0 := hF0.trans (if_pos (by decide))
              refine lv_if_eq (tgt := 95) hx hb dX8_readLine_85 (by decide) (fun c85 => absurd c85 (by decide +kernel)) (fun _ => ?_)
              refine lv_aload_n hx hb dX8_readLine_88 rfl (lv_at hl 0 rfl) ?_
              refine va_callv (va_runV (As := []) (rest := []) ⟨hx, hb, hml, hown, hts⟩ (fF_X8_watcherLine l dC dI H.size a0 a0g_0 (Value.ref a0_1) a0g_2 (Value.int a0_3) (Value.int v82na0_4) (Value.int v82na0_5) (Value.int v82na0_6) (Value.int v82na0_7) (Value.int v82na0_8) (Value.int v82na0_9) (Value.int v82na0_10) a0g_11 (Value.ref a0_12) a0g_14 a0g_15 (Value.ref a0_16) a0g_17 a0g_18 a0g_19 a0g_20 a0g_21 a0g_22 a0g_23 a0g_24 a0g_25 a0g_26 a0g_27 a0g_28 a0g_29 a0g_30 a0g_31 a0g_32 a0g_33 a0g_34 a0g_35 a0g_36 a0g_37 a0g_38 a0g_39 ) (cwV 0 hts gX8_readLine_X8_watcherLine rfl rfl rfl zd_X8_watcherLine ⟨Nat.le_of_ble_eq_true rfl, Nat.le_of_ble_eq_true rfl⟩) ⟨ax_blind (fun _ _ _ _ _ => trivial), zr_8 (zp_K hK) (zp_P1 hP) (q0 := 0) rfl, ax_pre (zp_P1 hP) (zp_K hK) (zp_D1 hD) (fun _ _ => trivial)⟩ rfl rfl hl.1 rfl (lv_room (Nat.le_of_ble_eq_true rfl)) dX8_readLine_89 ⟨Nat.le_of_ble_eq_true rfl, Nat.le_of_ble_eq_true rfl⟩) hS (fun q _ h => zp_F1 hD hS hA q h) (zp_F1 hD hS hA) (fun u t H locs ht hvm hw hB hz1 hk1 hS1 => zo1 hB ht hP hD hk1 (zp_F1 hD hS hA) hS1 (fun hP hK1 hD hS => ?_))
              refine lv_goto (tgt := 137) hx hb dX8_readLine_92 (by decide) ?_
              have hFe : FX = (v82na0_4.toInt, v82na0_5.toInt, v82na0_6.toInt, v82na0_7.toInt, v82na0_8.toInt, v82na0_9.toInt, v82na0_10.toInt, 1, (fl_A v82nfa0_12), (fl_A fa0_16)) := hF0
              exact W.vret hx hb hr (fun t ht hW => ⟨⟨(), rfl, trivial, v82na0_4, v82na0_5, v82na0_6, v82na0_7, v82na0_8, v82na0_9, v82na0_10, 1, v82nfa0_12, fa0_16, ⟨bv82na0_5.1, bv82na0_5.2⟩, ⟨bv82na0_8.1, bv82na0_8.2⟩, ⟨Int.le_trans (by decide) zq1, zq0⟩, bfa0_16, (Or.inl rfl), (em_t hraw51_1 hraw82_1), hFe, by rw [ht]; exact hP, va_K.moved hW.alike hK, hD⟩, hS.F ht⟩) hS.2.2 dX8_readLine_137
            · obtain ⟨hw, huh82, h82⟩ := hw
              subst hw
              subst huh82
              exact absurd h82.1 (by decide)
          · have gc74 := ai_nle c74
            have u74f_x72 : x72.toInt ≤ (2 : Int) := ai_lthi gc74 zq9
            have hF0 := hF0.trans (if_neg (show ¬ (3 ≤ x72.toInt) from Int.not_le.mpr gc74))
            refine lv_iconst (v := 1) hx hb dX8_readLine_77 zk_iconst_1 ?_
            refine lv_goto (tgt := 82) hx hb dX8_readLine_78 (by decide) ?_
            have hKc := hK.sub (tys' := [(ka0_12, .int), (ka0_16, .int), (ka0_1, .int)]) [0, 1, 2] rfl
            refine va_calli (va_runV (As := [.ref (ad 21), .int 1]) (rest := []) ⟨hx, hb, hml, hown, hts⟩ (fG_X8_begins l dC dI H.size a0 (ad 21) 1 a0g_0 a0g_2 a0g_11 a0g_14 a0g_15 a0g_17 a0g_18 a0g_19 a0g_20 a0g_21 a0g_22 a0g_23 a0g_24 a0g_25 a0g_26 a0g_27 a0g_28 a0g_29 a0g_30 a0g_31 a0g_32 a0g_33 a0g_34 a0g_35 a0g_36 a0g_37 a0g_38 a0g_39 a0_1 a0_3 v51na0_4 v51na0_5 v51na0_6 v51na0_7 v51na0_8 v51na0_9 v51na0_10 a0_12 a0_16 ka0_12 v51nfa0_12 ka0_16 fa0_16 ka0_1 fa0_1 7 (sxc 21) (Int.le_trans zq4 zq1) zq0 ba0_3_l ba0_3_u bv51na0_5.1 bv51na0_5.2 bv51na0_8.1 bv51na0_8.2 bfa0_16 hraw51_0) (cwV 2 hts gX8_readLine_X8_begins rfl rfl rfl zd_X8_begins ⟨Nat.le_of_ble_eq_true rfl, Nat.le_of_ble_eq_true rfl⟩) ⟨ax_blind (fun _ _ _ _ hq => sxc_W_same _ _ _ _ (hq)), zr_8 hKc (zp_P4 hP) (q0 := 0) rfl, ax_preE (zp_P4 hP) hKc (zp_D4 hD) (fun U hU hW => sxc_W_to (sxc_T_w hE0 (i := 21) (by decide)) hS.2.1 (zp_F4 hD hS hA) hU hW)⟩ rfl rfl hl.1 rfl (lv_room (Nat.le_of_ble_eq_true rfl)) dX8_readLine_82 ⟨Nat.le_of_ble_eq_true rfl, Nat.le_of_ble_eq_true rfl⟩) hS (fun q _ h => zp_F4 hD hS hA q h) (zp_F4 hD hS hA) (fun r82 v82na0_13 t H1 locs ht hvm hw => zx_8 (fun v82na0_4 v82na0_5 v82na0_6 v82na0_7 v82na0_8 v82na0_9 v82na0_10 v82nfa0_12 => zy_6 (fun bv82na0_5 bv82na0_8 bv82na0_13 hraw82_0 hraw82_1 hraw82_2 hB hz1 hk1 hS1 => zo4 hB ht hP hD hk1 (zp_F4 hD hS hA) hS1 (fun hP hK1 hD hS => ?_))))
            generalize H1 = H at hP hS ⊢
            obtain ⟨hw, hfr82⟩ := hw
            rw [show (1 : Int32).toInt = 1 from by decide, show ((7 : Nat) : Int) = 7 from rfl] at hfr82 hraw82_2
            have hc82 : FfG_X8_begins 1 a0_3.toInt v51na0_4.toInt v51na0_5.toInt v51na0_6.toInt v51na0_7.toInt v51na0_8.toInt v51na0_9.toInt v51na0_10.toInt (fl_A v51nfa0_12) (fl_A fa0_16) (fl_A fa0_1) 7 (fl_A (sxc 21)) = (r82.toInt, v82na0_4.toInt, v82na0_5.toInt, v82na0_6.toInt, v82na0_7.toInt, v82na0_8.toInt, v82na0_9.toInt, v82na0_10.toInt, v82na0_13.toInt, (fl_A v82nfa0_12)) := Prod.ext hfr82.symm hraw82_2
            have hF0 := hF0.trans (fl_c10_eq hc82)
            rcases hw with hw | hw | hw
            · obtain ⟨hw, huh82⟩ := hw
              subst hw
              subst huh82
              have hF0 := hF0.trans (if_pos (by decide))
              refine lv_if_eq (tgt := 95) hx hb dX8_readLine_85 (by decide) (fun _ => ?_) (fun c85 => absurd (by decide +kernel) c85)
              refine lv_aload_n hx hb dX8_readLine_95 rfl (lv_at hl 0 rfl) ?_
              refine va_ldcS hx hb hown (sxc_R22 hE0) dX8_readLine_96 ?_
              refine lv_aload_n hx hb dX8_readLine_98 rfl (lv_at hl 0 rfl) ?_
              refine va_get (D := (dC, dI)) (ci := 8) (v := .ref a0_16) (C := RX8) (T := TX8) (N := 40) hx hb hts zi_X8_readLine_8 hown hK hP 0 rfl rfl 16 (by decide) (hts (.fieldLink RX8 23 "WaxTurnsModel" "fresh" "[I") (zm_X8_readLine_r1 (List.mem_of_getElem? (i := 0) rfl))) (fun _ h9 => h9) rfl dX8_readLine_99 ?_
              refine lv_bipush (v := 6) hx hb dX8_readLine_102 zk_bipush_6 ?_
              refine va_iald hx hb hK hP 2 1 rfl rfl (by unfold vp_in; decide +kernel) dX8_readLine_104 ?_
              refine lv_topi (fun x104 ex104 => ?_)
              have bx104 : (0 : Int) ≤ x104.toInt ∧ x104.toInt ≤ 6 := by rw [ex104]; exact ai_rd bfa0_16.2.2.2.2.2.2.1 zq15 zq16 (by decide) (by decide) (by decide)
              have fqx104 := congrArg Int32.toInt ex104
              have hF0 := hF0.trans (fl_lt_eq (show x104.toInt = (fl_A fa0_16) (6) from fqx104))
              refine lv_bipush (v := 6) hx hb dX8_readLine_105 zk_bipush_6 ?_
              refine lv_icmp_ge (tgt := 114) hx hb dX8_readLine_107 (by decide) (fun c107 => ?_) (fun c107 => ?_)
              · have gc107 := ai_le c107
                have l107t_x104 : (6 : Int) ≤ x104.toInt := Int.le_trans zq15 gc107
                have hF0 := hF0.trans (if_pos (show 6 ≤ x104.toInt from gc107))
                refine lv_iconst (v := 0) hx hb dX8_readLine_114 zk_iconst_0 ?_
                have hKc := hK.sub (tys' := [(ka0_12, .int), (ka0_16, .int), (ka0_1, .int)]) [0, 1, 2] rfl
                refine va_calli (va_runV (As := [.ref (ad 22), .int 0]) (rest := []) ⟨hx, hb, hml, hown, hts⟩ (fG_X8_begins l dC dI H.size a0 (ad 22) 0 a0g_0 a0g_2 a0g_11 a0g_14 a0g_15 a0g_17 a0g_18 a0g_19 a0g_20 a0g_21 a0g_22 a0g_23 a0g_24 a0g_25 a0g_26 a0g_27 a0g_28 a0g_29 a0g_30 a0g_31 a0g_32 a0g_33 a0g_34 a0g_35 a0g_36 a0g_37 a0g_38 a0g_39 a0_1 a0_3 v82na0_4 v82na0_5 v82na0_6 v82na0_7 v82na0_8 v82na0_9 v82na0_10 a0_12 a0_16 ka0_12 v82nfa0_12 ka0_16 fa0_16 ka0_1 fa0_1 4 (sxc 22) zq5 (Int.le_trans zq6 zq4) ba0_3_l ba0_3_u bv82na0_5.1 bv82na0_5.2 bv82na0_8.1 bv82na0_8.2 bfa0_16 hraw82_0) (cwV 2 hts gX8_readLine_X8_begins rfl rfl rfl zd_X8_begins ⟨Nat.le_of_ble_eq_true rfl, Nat.le_of_ble_eq_true rfl⟩) ⟨ax_blind (fun _ _ _ _ hq => sxc_W_same _ _ _ _ (hq)), zr_8 hKc (zp_P4 hP) (q0 := 0) rfl, ax_preE (zp_P4 hP) hKc (zp_D4 hD) (fun U hU hW => sxc_W_to (sxc_T_w hE0 (i := 22) (by decide)) hS.2.1 (zp_F4 hD hS hA) hU hW)⟩ rfl rfl hl.1 rfl (lv_room (Nat.le_of_ble_eq_true rfl)) dX8_readLine_115 ⟨Nat.le_of_ble_eq_true rfl, Nat.le_of_ble_eq_true rfl⟩) hS (fun q _ h => zp_F4 hD hS hA q h) (zp_F4 hD hS hA) (fun r115 v115na0_13 t H1 locs ht hvm hw => zx_8 (fun v115na0_4 v115na0_5 v115na0_6 v115na0_7 v115na0_8 v115na0_9 v115na0_10 v115nfa0_12 => zy_6 (fun bv115na0_5 bv115na0_8 bv115na0_13 hraw115_0 hraw115_1 hraw115_2 hB hz1 hk1 hS1 => zo4 hB ht hP hD hk1 (zp_F4 hD hS hA) hS1 (fun hP hK1 hD hS => ?_))))
                generalize H1 = H at hP hS ⊢
                obtain ⟨hw, hfr115⟩ := hw
                rw [show (0 : Int32).toInt = 0 from by decide, show ((4 : Nat) : Int) = 4 from rfl] at hfr115 hraw115_2
                have hc115 : FfG_X8_begins 0 a0_3.toInt v82na0_4.toInt v82na0_5.toInt v82na0_6.toInt v82na0_7.toInt v82na0_8.toInt v82na0_9.toInt v82na0_10.toInt (fl_A v82nfa0_12) (fl_A fa0_16) (fl_A fa0_1) 4 (fl_A (sxc 22)) = (r115.toInt, v115na0_4.toInt, v115na0_5.toInt, v115na0_6.toInt, v115na0_7.toInt, v115na0_8.toInt, v115na0_9.toInt, v115na0_10.toInt, v115na0_13.toInt, (fl_A v115nfa0_12)) := Prod.ext hfr115.symm hraw115_2
                have hF0 := hF0.trans (fl_c10_eq hc115)
                rcases hw with hw | hw | hw
                · obtain ⟨hw, huh115⟩ := hw
                  subst hw
                  subst huh115
                  have hF0 := hF0.trans (if_pos (by decide))
                  refine lv_if_eq (tgt := 128) hx hb dX8_readLine_118 (by decide) (fun _ => ?_) (fun c118 => absurd (by decide +kernel) c118)
                  refine lv_aload_n hx hb dX8_readLine_128 rfl (lv_at hl 0 rfl) ?_
                  refine lv_iconst (v := 1) hx hb dX8_readLine_129 zk_iconst_1 ?_
                  refine lv_aload_n hx hb dX8_readLine_130 rfl (lv_at hl 0 rfl) ?_
                  refine va_get (D := (dC, dI)) (ci := 8) (v := .int v115na0_4) (C := RX8) (T := TX8) (N := 40) hx hb hts zi_X8_readLine_8 hown hK hP 0 rfl rfl 4 (by decide) (hts (.fieldLink RX8 78 "WaxTurnsModel" "at" "I") (zm_X8_readLine_r1 (List.mem_of_getElem? (i := 1) rfl))) (fun _ h9 => h9) rfl dX8_readLine_131 ?_
                  refine va_callv (va_runV (As := [.int 1, .int v115na0_4]) (rest := []) ⟨hx, hb, hml, hown, hts⟩ (fG_X8_wrong l dC dI H.size a0 1 v115na0_4 a0g_0 (Value.ref a0_1) a0g_2 (Value.int a0_3) (Value.int v115na0_4) (Value.int v115na0_5) (Value.int v115na0_6) (Value.int v115na0_7) (Value.int v115na0_8) a0g_11 (Value.ref a0_12) a0g_14 a0g_15 (Value.ref a0_16) a0g_17 a0g_18 a0g_19 a0g_20 a0g_21 a0g_22 a0g_23 a0g_24 a0g_25 a0g_26 a0g_27 a0g_28 a0g_29 a0g_30 a0g_31 a0g_32 a0g_33 a0g_34 a0g_35 a0g_36 a0g_37 a0g_38 a0g_39 v115na0_9 v115na0_10 ) (cwV 2 hts gX8_readLine_X8_wrong rfl rfl rfl zd_X8_wrong ⟨Nat.le_of_ble_eq_true rfl, Nat.le_of_ble_eq_true rfl⟩) ⟨ax_blind (fun _ _ _ _ _ => trivial), zr_8 (zp_K hK) (zp_P1 hP) (q0 := 0) rfl, ax_pre (zp_P1 hP) (zp_K hK) (zp_D1 hD) (fun _ _ => trivial)⟩ rfl rfl hl.1 rfl (lv_room (Nat.le_of_ble_eq_true rfl)) dX8_readLine_134 ⟨Nat.le_of_ble_eq_true rfl, Nat.le_of_ble_eq_true rfl⟩) hS (fun q _ h => zp_F1 hD hS hA q h) (zp_F1 hD hS hA) (fun u t H locs ht hvm hw => zx_2 (fun v134na0_9 v134na0_10 => zy_1 (fun hraw134_0 hB hz1 hk1 hS1 => zo1 hB ht hP hD hk1 (zp_F1 hD hS hA) hS1 (fun hP hK1 hD hS => ?_))))
                  rw [show (1 : Int32).toInt = 1 from by decide] at hraw134_0
                  have hc134 : FfG_X8_wrong 1 v115na0_4.toInt = (v134na0_9.toInt, v134na0_10.toInt) := hraw134_0
                  have hF0 := hF0.trans (fl_c2_eq hc134)
                  have hFe : FX = (v115na0_4.toInt, v115na0_5.toInt, v115na0_6.toInt, v115na0_7.toInt, v115na0_8.toInt, v134na0_9.toInt, v134na0_10.toInt, 1, (fl_A v115nfa0_12), (fl_A fa0_16)) := hF0
                  exact W.vret hx hb hr (fun t ht hW => ⟨⟨(), rfl, trivial, v115na0_4, v115na0_5, v115na0_6, v115na0_7, v115na0_8, v134na0_9, v134na0_10, 1, v115nfa0_12, fa0_16, ⟨bv115na0_5.1, bv115na0_5.2⟩, ⟨bv115na0_8.1, bv115na0_8.2⟩, ⟨Int.le_trans (by decide) zq1, zq0⟩, bfa0_16, (Or.inl rfl), (em_t hraw51_1 (em_t hraw82_1 hraw115_1)), hFe, by rw [ht]; exact hP, va_K.moved hW.alike hK, hD⟩, hS.F ht⟩) hS.2.2 dX8_readLine_137
                · obtain ⟨hw, huh115⟩ := hw
                  subst hw
                  subst huh115
                  have hF0 := hF0.trans (if_neg (by decide))
                  have hF0 := hF0.trans (if_pos (by decide))
                  refine lv_if_eq (tgt := 128) hx hb dX8_readLine_118 (by decide) (fun c118 => absurd c118 (by decide +kernel)) (fun _ => ?_)
                  refine lv_aload_n hx hb dX8_readLine_121 rfl (lv_at hl 0 rfl) ?_
                  refine va_callv (va_runV (As := []) (rest := []) ⟨hx, hb, hml, hown, hts⟩ (fF_X8_seenLine l dC dI H.size a0 a0g_0 (Value.ref a0_1) a0g_2 (Value.int a0_3) (Value.int v115na0_4) (Value.int v115na0_5) (Value.int v115na0_6) (Value.int v115na0_7) (Value.int v115na0_8) (Value.int v115na0_9) (Value.int v115na0_10) a0g_11 (Value.ref a0_12) a0g_14 a0g_15 (Value.ref a0_16) a0g_17 a0g_18 a0g_19 a0g_20 a0g_21 a0g_22 a0g_23 a0g_24 a0g_25 a0g_26 a0g_27 a0g_28 a0g_29 a0g_30 a0g_31 a0g_32 a0g_33 a0g_34 a0g_35 a0g_36 a0g_37 a0g_38 a0g_39 ) (cwV 0 hts gX8_readLine_X8_seenLine rfl rfl rfl zd_X8_seenLine ⟨Nat.le_of_ble_eq_true rfl, Nat.le_of_ble_eq_true rfl⟩) ⟨ax_blind (fun _ _ _ _ _ => trivial), zr_8 (zp_K hK) (zp_P1 hP) (q0 := 0) rfl, ax_pre (zp_P1 hP) (zp_K hK) (zp_D1 hD) (fun _ _ => trivial)⟩ rfl rfl hl.1 rfl (lv_room (Nat.le_of_ble_eq_true rfl)) dX8_readLine_122 ⟨Nat.le_of_ble_eq_true rfl, Nat.le_of_ble_eq_true rfl⟩) hS (fun q _ h => zp_F1 hD hS hA q h) (zp_F1 hD hS hA) (fun u t H locs ht hvm hw hB hz1 hk1 hS1 => zo1 hB ht hP hD hk1 (zp_F1 hD hS hA) hS1 (fun hP hK1 hD hS => ?_))
                  refine lv_goto (tgt := 137) hx hb dX8_readLine_125 (by decide) ?_
                  have hFe : FX = (v115na0_4.toInt, v115na0_5.toInt, v115na0_6.toInt, v115na0_7.toInt, v115na0_8.toInt, v115na0_9.toInt, v115na0_10.toInt, 1, (fl_A v115nfa0_12), (fl_A fa0_16)) := hF0
                  exact W.vret hx hb hr (fun t ht hW => ⟨⟨(), rfl, trivial, v115na0_4, v115na0_5, v115na0_6, v115na0_7, v115na0_8, v115na0_9, v115na0_10, 1, v115nfa0_12, fa0_16, ⟨bv115na0_5.1, bv115na0_5.2⟩, ⟨bv115na0_8.1, bv115na0_8.2⟩, ⟨Int.le_trans (by decide) zq1, zq0⟩, bfa0_16, (Or.inl rfl), (em_t hraw51_1 (em_t hraw82_1 hraw115_1)), hFe, by rw [ht]; exact hP, va_K.moved hW.alike hK, hD⟩, hS.F ht⟩) hS.2.2 dX8_readLine_137
                · obtain ⟨hw, huh115, h115⟩ := hw
                  subst hw
                  subst huh115
                  exact absurd h115.1 (by decide)
              · have gc107 := ai_nle c107
                have u107f_x104 : x104.toInt ≤ (5 : Int) := ai_lthi gc107 zq16
                have hF0 := hF0.trans (if_neg (show ¬ (6 ≤ x104.toInt) from Int.not_le.mpr gc107))
                refine lv_iconst (v := 1) hx hb dX8_readLine_110 zk_iconst_1 ?_
                refine lv_goto (tgt := 115) hx hb dX8_readLine_111 (by decide) ?_
                have hKc := hK.sub (tys' := [(ka0_12, .int), (ka0_16, .int), (ka0_1, .int)]) [0, 1, 2] rfl
                refine va_calli (va_runV (As := [.ref (ad 22), .int 1]) (rest := []) ⟨hx, hb, hml, hown, hts⟩ (fG_X8_begins l dC dI H.size a0 (ad 22) 1 a0g_0 a0g_2 a0g_11 a0g_14 a0g_15 a0g_17 a0g_18 a0g_19 a0g_20 a0g_21 a0g_22 a0g_23 a0g_24 a0g_25 a0g_26 a0g_27 a0g_28 a0g_29 a0g_30 a0g_31 a0g_32 a0g_33 a0g_34 a0g_35 a0g_36 a0g_37 a0g_38 a0g_39 a0_1 a0_3 v82na0_4 v82na0_5 v82na0_6 v82na0_7 v82na0_8 v82na0_9 v82na0_10 a0_12 a0_16 ka0_12 v82nfa0_12 ka0_16 fa0_16 ka0_1 fa0_1 4 (sxc 22) (Int.le_trans zq4 zq1) zq0 ba0_3_l ba0_3_u bv82na0_5.1 bv82na0_5.2 bv82na0_8.1 bv82na0_8.2 bfa0_16 hraw82_0) (cwV 2 hts gX8_readLine_X8_begins rfl rfl rfl zd_X8_begins ⟨Nat.le_of_ble_eq_true rfl, Nat.le_of_ble_eq_true rfl⟩) ⟨ax_blind (fun _ _ _ _ hq => sxc_W_same _ _ _ _ (hq)), zr_8 hKc (zp_P4 hP) (q0 := 0) rfl, ax_preE (zp_P4 hP) hKc (zp_D4 hD) (fun U hU hW => sxc_W_to (sxc_T_w hE0 (i := 22) (by decide)) hS.2.1 (zp_F4 hD hS hA) hU hW)⟩ rfl rfl hl.1 rfl (lv_room (Nat.le_of_ble_eq_true rfl)) dX8_readLine_115 ⟨Nat.le_of_ble_eq_true rfl, Nat.le_of_ble_eq_true rfl⟩) hS (fun q _ h => zp_F4 hD hS hA q h) (zp_F4 hD hS hA) (fun r115 v115na0_13 t H1 locs ht hvm hw => zx_8 (fun v115na0_4 v115na0_5 v115na0_6 v115na0_7 v115na0_8 v115na0_9 v115na0_10 v115nfa0_12 => zy_6 (fun bv115na0_5 bv115na0_8 bv115na0_13 hraw115_0 hraw115_1 hraw115_2 hB hz1 hk1 hS1 => zo4 hB ht hP hD hk1 (zp_F4 hD hS hA) hS1 (fun hP hK1 hD hS => ?_))))
                generalize H1 = H at hP hS ⊢
                obtain ⟨hw, hfr115⟩ := hw
                rw [show (1 : Int32).toInt = 1 from by decide, show ((4 : Nat) : Int) = 4 from rfl] at hfr115 hraw115_2
                have hc115 : FfG_X8_begins 1 a0_3.toInt v82na0_4.toInt v82na0_5.toInt v82na0_6.toInt v82na0_7.toInt v82na0_8.toInt v82na0_9.toInt v82na0_10.toInt (fl_A v82nfa0_12) (fl_A fa0_16) (fl_A fa0_1) 4 (fl_A (sxc 22)) = (r115.toInt, v115na0_4.toInt, v115na0_5.toInt, v115na0_6.toInt, v115na0_7.toInt, v115na0_8.toInt, v115na0_9.toInt, v115na0_10.toInt, v115na0_13.toInt, (fl_A v115nfa0_12)) := Prod.ext hfr115.symm hraw115_2
                have hF0 := hF0.trans (fl_c10_eq hc115)
                rcases hw with hw | hw | hw
                · obtain ⟨hw, huh115⟩ := hw
                  subst hw
                  subst huh115
                  have hF0 := hF0.trans (if_pos (by decide))
                  refine lv_if_eq (tgt := 128) hx hb dX8_readLine_118 (by decide) (fun _ => ?_) (fun c118 => absurd (by decide +kernel) c118)
                  refine lv_aload_n hx hb dX8_readLine_128 rfl (lv_at hl 0 rfl) ?_
                  refine lv_iconst (v := 1) hx hb dX8_readLine_129 zk_iconst_1 ?_
                  refine lv_aload_n hx hb dX8_readLine_130 rfl (lv_at hl 0 rfl) ?_
                  refine va_get (D := (dC, dI)) (ci := 8) (v := .int v115na0_4) (C := RX8) (T := TX8) (N := 40) hx hb hts zi_X8_readLine_8 hown hK hP 0 rfl rfl 4 (by decide) (hts (.fieldLink RX8 78 "WaxTurnsModel" "at" "I") (zm_X8_readLine_r1 (List.mem_of_getElem? (i := 1) rfl))) (fun _ h9 => h9) rfl dX8_readLine_131 ?_
                  refine va_callv (va_runV (As := [.int 1, .int v115na0_4]) (rest := []) ⟨hx, hb, hml, hown, hts⟩ (fG_X8_wrong l dC dI H.size a0 1 v115na0_4 a0g_0 (Value.ref a0_1) a0g_2 (Value.int a0_3) (Value.int v115na0_4) (Value.int v115na0_5) (Value.int v115na0_6) (Value.int v115na0_7) (Value.int v115na0_8) a0g_11 (Value.ref a0_12) a0g_14 a0g_15 (Value.ref a0_16) a0g_17 a0g_18 a0g_19 a0g_20 a0g_21 a0g_22 a0g_23 a0g_24 a0g_25 a0g_26 a0g_27 a0g_28 a0g_29 a0g_30 a0g_31 a0g_32 a0g_33 a0g_34 a0g_35 a0g_36 a0g_37 a0g_38 a0g_39 v115na0_9 v115na0_10 ) (cwV 2 hts gX8_readLine_X8_wrong rfl rfl rfl zd_X8_wrong ⟨Nat.le_of_ble_eq_true rfl, Nat.le_of_ble_eq_true rfl⟩) ⟨ax_blind (fun _ _ _ _ _ => trivial), zr_8 (zp_K hK) (zp_P1 hP) (q0 := 0) rfl, ax_pre (zp_P1 hP) (zp_K hK) (zp_D1 hD) (fun _ _ => trivial)⟩ rfl rfl hl.1 rfl (lv_room (Nat.le_of_ble_eq_true rfl)) dX8_readLine_134 ⟨Nat.le_of_ble_eq_true rfl, Nat.le_of_ble_eq_true rfl⟩) hS (fun q _ h => zp_F1 hD hS hA q h) (zp_F1 hD hS hA) (fun u t H locs ht hvm hw => zx_2 (fun v134na0_9 v134na0_10 => zy_1 (fun hraw134_0 hB hz1 hk1 hS1 => zo1 hB ht hP hD hk1 (zp_F1 hD hS hA) hS1 (fun hP hK1 hD hS => ?_))))
                  rw [show (1 : Int32).toInt = 1 from by decide] at hraw134_0
                  have hc134 : FfG_X8_wrong 1 v115na0_4.toInt = (v134na0_9.toInt, v134na0_10.toInt) := hraw134_0
                  have hF0 := hF0.trans (fl_c2_eq hc134)
                  have hFe : FX = (v115na0_4.toInt, v115na0_5.toInt, v115na0_6.toInt, v115na0_7.toInt, v115na0_8.toInt, v134na0_9.toInt, v134na0_10.toInt, 1, (fl_A v115nfa0_12), (fl_A fa0_16)) := hF0
                  exact W.vret hx hb hr (fun t ht hW => ⟨⟨(), rfl, trivial, v115na0_4, v115na0_5, v115na0_6, v115na0_7, v115na0_8, v134na0_9, v134na0_10, 1, v115nfa0_12, fa0_16, ⟨bv115na0_5.1, bv115na0_5.2⟩, ⟨bv115na0_8.1, bv115na0_8.2⟩, ⟨Int.le_trans (by decide) zq1, zq0⟩, bfa0_16, (Or.inl rfl), (em_t hraw51_1 (em_t hraw82_1 hraw115_1)), hFe, by rw [ht]; exact hP, va_K.moved hW.alike hK, hD⟩, hS.F ht⟩) hS.2.2 dX8_readLine_137
                · obtain ⟨hw, huh115⟩ := hw
                  subst hw
                  subst huh115
                  have hF0 := hF0.trans (if_neg (by decide))
                  have hF0 := hF0.trans (if_pos (by decide))
                  refine lv_if_eq (tgt := 128) hx hb dX8_readLine_118 (by decide) (fun c118 => absurd c118 (by decide +kernel)) (fun _ => ?_)
                  refine lv_aload_n hx hb dX8_readLine_121 rfl (lv_at hl 0 rfl) ?_
                  refine va_callv (va_runV (As := []) (rest := []) ⟨hx, hb, hml, hown, hts⟩ (fF_X8_seenLine l dC dI H.size a0 a0g_0 (Value.ref a0_1) a0g_2 (Value.int a0_3) (Value.int v115na0_4) (Value.int v115na0_5) (Value.int v115na0_6) (Value.int v115na0_7) (Value.int v115na0_8) (Value.int v115na0_9) (Value.int v115na0_10) a0g_11 (Value.ref a0_12) a0g_14 a0g_15 (Value.ref a0_16) a0g_17 a0g_18 a0g_19 a0g_20 a0g_21 a0g_22 a0g_23 a0g_24 a0g_25 a0g_26 a0g_27 a0g_28 a0g_29 a0g_30 a0g_31 a0g_32 a0g_33 a0g_34 a0g_35 a0g_36 a0g_37 a0g_38 a0g_39 ) (cwV 0 hts gX8_readLine_X8_seenLine rfl rfl rfl zd_X8_seenLine ⟨Nat.le_of_ble_eq_true rfl, Nat.le_of_ble_eq_true rfl⟩) ⟨ax_blind (fun _ _ _ _ _ => trivial), zr_8 (zp_K hK) (zp_P1 hP) (q0 := 0) rfl, ax_pre (zp_P1 hP) (zp_K hK) (zp_D1 hD) (fun _ _ => trivial)⟩ rfl rfl hl.1 rfl (lv_room (Nat.le_of_ble_eq_true rfl)) dX8_readLine_122 ⟨Nat.le_of_ble_eq_true rfl, Nat.le_of_ble_eq_true rfl⟩) hS (fun q _ h => zp_F1 hD hS hA q h) (zp_F1 hD hS hA) (fun u t H locs ht hvm hw hB hz1 hk1 hS1 => zo1 hB ht hP hD hk1 (zp_F1 hD hS hA) hS1 (fun hP hK1 hD hS => ?_))
                  refine lv_goto (tgt := 137) hx hb dX8_readLine_125 (by decide) ?_
                  have hFe : FX = (v115na0_4.toInt, v115na0_5.toInt, v115na0_6.toInt, v115na0_7.toInt, v115na0_8.toInt, v115na0_9.toInt, v115na0_10.toInt, 1, (fl_A v115nfa0_12), (fl_A fa0_16)) := hF0
                  exact W.vret hx hb hr (fun t ht hW => ⟨⟨(), rfl, trivial, v115na0_4, v115na0_5, v115na0_6, v115na0_7, v115na0_8, v115na0_9, v115na0_10, 1, v115nfa0_12, fa0_16, ⟨bv115na0_5.1, bv115na0_5.2⟩, ⟨bv115na0_8.1, bv115na0_8.2⟩, ⟨Int.le_trans (by decide) zq1, zq0⟩, bfa0_16, (Or.inl rfl), (em_t hraw51_1 (em_t hraw82_1 hraw115_1)), hFe, by rw [ht]; exact hP, va_K.moved hW.alike hK, hD⟩, hS.F ht⟩) hS.2.2 dX8_readLine_137
                · obtain ⟨hw, huh115, h115⟩ := hw
                  subst hw
                  subst huh115
                  have hF0 := hF0.trans (if_neg (by decide))
                  have hF0 := hF0.trans (if_neg (by decide))
                  refine lv_if_eq (tgt := 128) hx hb dX8_readLine_118 (by decide) (fun c118 => absurd c118 (by decide +kernel)) (fun _ => ?_)
                  refine lv_aload_n hx hb dX8_readLine_121 rfl (lv_at hl 0 rfl) ?_
                  refine zc_cutc (wc := [(a0, .inr (8, [a0g_0, Value.ref a0_1, a0g_2, Value.int a0_3, Value.int v115na0_4, Value.int v115na0_5, Value.int v115na0_6, Value.int v115na0_7, Value.int v115na0_8, Value.int v115na0_9, Value.int v115na0_10, a0g_11, Value.ref a0_12, Value.int 0, a0g_14, a0g_15, Value.ref a0_16, a0g_17, a0g_18, a0g_19, a0g_20, a0g_21, a0g_22, a0g_23, a0g_24, a0g_25, a0g_26, a0g_27, a0g_28, a0g_29, a0g_30, a0g_31, a0g_32, a0g_33, a0g_34, a0g_35, a0g_36, a0g_37, a0g_38, a0g_39])), (a0_16, .inl (ka0_16, 156, .inl (fa0_16))), (a0_1, .inl (ka0_1, 900, .inl (fa0_1))), (a0_12, .inl (ka0_12, 8, .inl (v115nfa0_12)))]) hP hD hS hA [0, 2, 3, 1] (by decide +kernel) rfl (fun hPc hDc hFc hCc => ?_)
                  have hKc := hK.sub (tys' := [(ka0_16, .int), (ka0_1, .int), (ka0_12, .int)]) [1, 2, 0] rfl
                  refine va_callv (va_runV (As := []) (rest := []) ⟨hx, hb, hml, hown, hts⟩ (fG_X8_seenLine l dC dI H.size a0 a0g_0 a0g_2 a0g_11 a0g_14 a0g_15 a0g_17 a0g_18 a0g_19 a0g_20 a0g_21 a0g_22 a0g_23 a0g_24 a0g_25 a0g_26 a0g_27 a0g_28 a0g_29 a0g_30 a0g_31 a0g_32 a0g_33 a0g_34 a0g_35 a0g_36 a0g_37 a0g_38 a0g_39 a0_1 a0_3 v115na0_4 v115na0_5 v115na0_6 v115na0_7 v115na0_8 v115na0_9 v115na0_10 a0_12 a0_16 ka0_16 fa0_16 ka0_1 fa0_1 ka0_12 v115nfa0_12 ad ba0_3_l ba0_3_u bv115na0_5.1 bv115na0_5.2 bv115na0_8.1 bv115na0_8.2 bfa0_16 (by have h1 := u107f_x104; rw [ex104] at h1; exact h1)) (cwV 0 hts gX8_readLine_X8_seenLine rfl rfl rfl zd_X8_seenLine ⟨Nat.le_of_ble_eq_true rfl, Nat.le_of_ble_eq_true rfl⟩) ⟨ax_blind (fun _ _ _ _ hq => sxc_T_same _ _ _ _ (hq)), zr_8 hKc hPc (q0 := 0) rfl, ax_preE hPc hKc hDc (fun U hU hW => sxc_T_to hE0 hS.2.1 hFc hU hW)⟩ rfl rfl hl.1 rfl (lv_room (Nat.le_of_ble_eq_true rfl)) dX8_readLine_122 ⟨Nat.le_of_ble_eq_true rfl, Nat.le_of_ble_eq_true rfl⟩) hS (fun q _ h => hFc q h) hFc (fun u t H locs ht hvm hw => zx_10 (fun v122na0_4 v122na0_5 v122na0_6 v122na0_7 v122na0_8 v122na0_9 v122na0_10 v122na0_13 v122nfa0_16 v122nfa0_12 => zy_7 (fun bv122na0_5 bv122na0_8 bv122na0_13 bv122nfa0_16 hraw122_0 hraw122_1 hraw122_2 hB hz1 hk1 hS1 => zo hB ht hS1 (fun hP1 hK1 hD1 hS => ?_))))
                  refine zc_backc (w := [(a0, .inr (8, [a0g_0, Value.ref a0_1, a0g_2, Value.int a0_3, Value.int v122na0_4, Value.int v122na0_5, Value.int v122na0_6, Value.int v122na0_7, Value.int v122na0_8, Value.int v122na0_9, Value.int v122na0_10, a0g_11, Value.ref a0_12, Value.int v122na0_13, a0g_14, a0g_15, Value.ref a0_16, a0g_17, a0g_18, a0g_19, a0g_20, a0g_21, a0g_22, a0g_23, a0g_24, a0g_25, a0g_26, a0g_27, a0g_28, a0g_29, a0g_30, a0g_31, a0g_32, a0g_33, a0g_34, a0g_35, a0g_36, a0g_37, a0g_38, a0g_39])), (a0_12, .inl (ka0_12, 8, .inl (v122nfa0_12))), (a0_16, .inl (ka0_16, 156, .inl (v122nfa0_16))), (a0_1, .inl (ka0_1, 900, .inl (fa0_1)))]) hP hD hCc hk1 hFc hP1 hD1 [.inr 0, .inr 3, .inr 1, .inr 2] (by decide +kernel) rfl (fun hP hD => ?_)
                  have hc122 : FfG_X8_seenLine a0_3.toInt v115na0_4.toInt v115na0_5.toInt v115na0_6.toInt v115na0_7.toInt v115na0_8.toInt v115na0_9.toInt v115na0_10.toInt (fl_A fa0_16) (fl_A fa0_1) (fl_A v115nfa0_12) = (v122na0_4.toInt, v122na0_5.toInt, v122na0_6.toInt, v122na0_7.toInt, v122na0_8.toInt, v122na0_9.toInt, v122na0_10.toInt, v122na0_13.toInt, (fl_A v122nfa0_16), (fl_A v122nfa0_12)) := hraw122_2
                  have hF0 := hF0.trans (fl_c10_eq hc122)
                  rcases hraw122_0 with hf122 | hf122
                  · subst hf122
                    have hF0 := hF0.trans (if_pos (by decide))
                    refine lv_goto (tgt := 137) hx hb dX8_readLine_125 (by decide) ?_
                    have hFe : FX = (v122na0_4.toInt, v122na0_5.toInt, v122na0_6.toInt, v122na0_7.toInt, v122na0_8.toInt, v122na0_9.toInt, v122na0_10.toInt, 1, (fl_A v122nfa0_12), (fl_A v122nfa0_16)) := hF0
                    exact W.vret hx hb hr (fun t ht hW => ⟨⟨(), rfl, trivial, v122na0_4, v122na0_5, v122na0_6, v122na0_7, v122na0_8, v122na0_9, v122na0_10, 1, v122nfa0_12, v122nfa0_16, ⟨bv122na0_5.1, bv122na0_5.2⟩, ⟨bv122na0_8.1, bv122na0_8.2⟩, ⟨Int.le_trans (by decide) zq1, zq0⟩, bv122nfa0_16, (Or.inl rfl), (em_t hraw51_1 (em_t hraw82_1 (em_t hraw115_1 hraw122_1))), hFe, by rw [ht]; exact hP, va_K.moved hW.alike hK, hD⟩, hS.F ht⟩) hS.2.2 dX8_readLine_137
                  · subst hf122
                    have hF0 := hF0.trans (if_neg (by decide))
                    refine lv_goto (tgt := 137) hx hb dX8_readLine_125 (by decide) ?_
                    have hFe : FX = (v122na0_4.toInt, v122na0_5.toInt, v122na0_6.toInt, v122na0_7.toInt, v122na0_8.toInt, v122na0_9.toInt, v122na0_10.toInt, 0, (fl_A v122nfa0_12), (fl_A v122nfa0_16)) := hF0
                    exact W.vret hx hb hr (fun t ht hW => ⟨⟨(), rfl, trivial, v122na0_4, v122na0_5, v122na0_6, v122na0_7, v122na0_8, v122na0_9, v122na0_10, 0, v122nfa0_12, v122nfa0_16, ⟨bv122na0_5.1, bv122na0_5.2⟩, ⟨bv122na0_8.1, bv122na0_8.2⟩, ⟨zq5, Int.le_trans zq6 (by decide)⟩, bv122nfa0_16, (Or.inr rfl), (em_t hraw51_1 (em_t hraw82_1 (em_t hraw115_1 hraw122_1))), hFe, by rw [ht]; exact hP, va_K.moved hW.alike hK, hD⟩, hS.F ht⟩) hS.2.2 dX8_readLine_137
            · obtain ⟨hw, huh82⟩ := hw
              subst hw
              subst huh82
              have hF0 := hF0.trans (if_neg (by decide))
              have hF0 := hF0.trans (if_pos (by decide))
              refine lv_if_eq (tgt := 95) hx hb dX8_readLine_85 (by decide) (fun c85 => absurd c85 (by decide +kernel)) (fun _ => ?_)
              refine lv_aload_n hx hb dX8_readLine_88 rfl (lv_at hl 0 rfl) ?_
              refine va_callv (va_runV (As := []) (rest := []) ⟨hx, hb, hml, hown, hts⟩ (fF_X8_watcherLine l dC dI H.size a0 a0g_0 (Value.ref a0_1) a0g_2 (Value.int a0_3) (Value.int v82na0_4) (Value.int v82na0_5) (Value.int v82na0_6) (Value.int v82na0_7) (Value.int v82na0_8) (Value.int v82na0_9) (Value.int v82na0_10) a0g_11 (Value.ref a0_12) a0g_14 a0g_15 (Value.ref a0_16) a0g_17 a0g_18 a0g_19 a0g_20 a0g_21 a0g_22 a0g_23 a0g_24 a0g_25 a0g_26 a0g_27 a0g_28 a0g_29 a0g_30 a0g_31 a0g_32 a0g_33 a0g_34 a0g_35 a0g_36 a0g_37 a0g_38 a0g_39 ) (cwV 0 hts gX8_readLine_X8_watcherLine rfl rfl rfl zd_X8_watcherLine ⟨Nat.le_of_ble_eq_true rfl, Nat.le_of_ble_eq_true rfl⟩) ⟨ax_blind (fun _ _ _ _ _ => trivial), zr_8 (zp_K hK) (zp_P1 hP) (q0 := 0) rfl, ax_pre (zp_P1 hP) (zp_K hK) (zp_D1 hD) (fun _ _ => trivial)⟩ rfl rfl hl.1 rfl (lv_room (Nat.le_of_ble_eq_true rfl)) dX8_readLine_89 ⟨Nat.le_of_ble_eq_true rfl, Nat.le_of_ble_eq_true rfl⟩) hS (fun q _ h => zp_F1 hD hS hA q h) (zp_F1 hD hS hA) (fun u t H locs ht hvm hw hB hz1 hk1 hS1 => zo1 hB ht hP hD hk1 (zp_F1 hD hS hA) hS1 (fun hP hK1 hD hS => ?_))
              refine lv_goto (tgt := 137) hx hb dX8_readLine_92 (by decide) ?_
              have hFe : FX = (v82na0_4.toInt, v82na0_5.toInt, v82na0_6.toInt, v82na0_7.toInt, v82na0_8.toInt, v82na0_9.toInt, v82na0_10.toInt, 1, (fl_A v82nfa0_12), (fl_A fa0_16)) := hF0
              exact W.vret hx hb hr (fun t ht hW => ⟨⟨(), rfl, trivial, v82na0_4, v82na0_5, v82na0_6, v82na0_7, v82na0_8, v82na0_9, v82na0_10, 1, v82nfa0_12, fa0_16, ⟨bv82na0_5.1, bv82na0_5.2⟩, ⟨bv82na0_8.1, bv82na0_8.2⟩, ⟨Int.le_trans (by decide) zq1, zq0⟩, bfa0_16, (Or.inl rfl), (em_t hraw51_1 hraw82_1), hFe, by rw [ht]; exact hP, va_K.moved hW.alike hK, hD⟩, hS.F ht⟩) hS.2.2 dX8_readLine_137
            · obtain ⟨hw, huh82, h82⟩ := hw
              subst hw
              subst huh82
              have hF0 := hF0.trans (if_neg (by decide))
              have hF0 := hF0.trans (if_neg (by decide))
              refine lv_if_eq (tgt := 95) hx hb dX8_readLine_85 (by decide) (fun c85 => absurd c85 (by decide +kernel)) (fun _ => ?_)
              refine lv_aload_n hx hb dX8_readLine_88 rfl (lv_at hl 0 rfl) ?_
              refine zc_cutc (wc := [(a0, .inr (8, [a0g_0, Value.ref a0_1, a0g_2, Value.int a0_3, Value.int v82na0_4, Value.int v82na0_5, Value.int v82na0_6, Value.int v82na0_7, Value.int v82na0_8, Value.int v82na0_9, Value.int v82na0_10, a0g_11, Value.ref a0_12, Value.int 0, a0g_14, a0g_15, Value.ref a0_16, a0g_17, a0g_18, a0g_19, a0g_20, a0g_21, a0g_22, a0g_23, a0g_24, a0g_25, a0g_26, a0g_27, a0g_28, a0g_29, a0g_30, a0g_31, a0g_32, a0g_33, a0g_34, a0g_35, a0g_36, a0g_37, a0g_38, a0g_39])), (a0_16, .inl (ka0_16, 156, .inl (fa0_16))), (a0_12, .inl (ka0_12, 8, .inl (v82nfa0_12))), (a0_1, .inl (ka0_1, 900, .inl (fa0_1)))]) hP hD hS hA [0, 2, 1, 3] (by decide +kernel) rfl (fun hPc hDc hFc hCc => ?_)
              have hKc := hK.sub (tys' := [(ka0_16, .int), (ka0_12, .int), (ka0_1, .int)]) [1, 0, 2] rfl
              refine va_callv (va_runV (As := []) (rest := []) ⟨hx, hb, hml, hown, hts⟩ (fG_X8_watcherLine l dC dI H.size a0 a0g_0 a0g_2 a0g_11 a0g_14 a0g_15 a0g_17 a0g_18 a0g_19 a0g_20 a0g_21 a0g_22 a0g_23 a0g_24 a0g_25 a0g_26 a0g_27 a0g_28 a0g_29 a0g_30 a0g_31 a0g_32 a0g_33 a0g_34 a0g_35 a0g_36 a0g_37 a0g_38 a0g_39 a0_1 a0_3 v82na0_4 v82na0_5 v82na0_6 v82na0_7 v82na0_8 v82na0_9 v82na0_10 a0_12 a0_16 ka0_16 fa0_16 ka0_12 v82nfa0_12 ka0_1 fa0_1 ad ba0_3_l ba0_3_u bv82na0_5.1 bv82na0_5.2 bv82na0_8.1 bv82na0_8.2 bfa0_16 hraw82_0 (by have h1 := u74f_x72; rw [ex72] at h1; exact h1)) (cwV 0 hts gX8_readLine_X8_watcherLine rfl rfl rfl zd_X8_watcherLine ⟨Nat.le_of_ble_eq_true rfl, Nat.le_of_ble_eq_true rfl⟩) ⟨ax_blind (fun _ _ _ _ hq => sxc_T_same _ _ _ _ (hq)), zr_8 hKc hPc (q0 := 0) rfl, ax_preE hPc hKc hDc (fun U hU hW => sxc_T_to hE0 hS.2.1 hFc hU hW)⟩ rfl rfl hl.1 rfl (lv_room (Nat.le_of_ble_eq_true rfl)) dX8_readLine_89 ⟨Nat.le_of_ble_eq_true rfl, Nat.le_of_ble_eq_true rfl⟩) hS (fun q _ h => hFc q h) hFc (fun u t H locs ht hvm hw => zx_10 (fun v89na0_4 v89na0_5 v89na0_6 v89na0_7 v89na0_8 v89na0_9 v89na0_10 v89na0_13 v89nfa0_16 v89nfa0_12 => zy_7 (fun bv89na0_5 bv89na0_8 bv89na0_13 bv89nfa0_16 hraw89_0 hraw89_1 hraw89_2 hB hz1 hk1 hS1 => zo hB ht hS1 (fun hP1 hK1 hD1 hS => ?_))))
              refine zc_backc (w := [(a0, .inr (8, [a0g_0, Value.ref a0_1, a0g_2, Value.int a0_3, Value.int v89na0_4, Value.int v89na0_5, Value.int v89na0_6, Value.int v89na0_7, Value.int v89na0_8, Value.int v89na0_9, Value.int v89na0_10, a0g_11, Value.ref a0_12, Value.int v89na0_13, a0g_14, a0g_15, Value.ref a0_16, a0g_17, a0g_18, a0g_19, a0g_20, a0g_21, a0g_22, a0g_23, a0g_24, a0g_25, a0g_26, a0g_27, a0g_28, a0g_29, a0g_30, a0g_31, a0g_32, a0g_33, a0g_34, a0g_35, a0g_36, a0g_37, a0g_38, a0g_39])), (a0_12, .inl (ka0_12, 8, .inl (v89nfa0_12))), (a0_16, .inl (ka0_16, 156, .inl (v89nfa0_16))), (a0_1, .inl (ka0_1, 900, .inl (fa0_1)))]) hP hD hCc hk1 hFc hP1 hD1 [.inr 0, .inr 2, .inr 1, .inr 3] (by decide +kernel) rfl (fun hP hD => ?_)
              have hc89 : FfG_X8_watcherLine a0_3.toInt v82na0_4.toInt v82na0_5.toInt v82na0_6.toInt v82na0_7.toInt v82na0_8.toInt v82na0_9.toInt v82na0_10.toInt (fl_A fa0_16) (fl_A v82nfa0_12) (fl_A fa0_1) = (v89na0_4.toInt, v89na0_5.toInt, v89na0_6.toInt, v89na0_7.toInt, v89na0_8.toInt, v89na0_9.toInt, v89na0_10.toInt, v89na0_13.toInt, (fl_A v89nfa0_16), (fl_A v89nfa0_12)) := hraw89_2
              have hF0 := hF0.trans (fl_c10_eq hc89)
              rcases hraw89_0 with hf89 | hf89
              · subst hf89
                have hF0 := hF0.trans (if_pos (by decide))
                refine lv_goto (tgt := 137) hx hb dX8_readLine_92 (by decide) ?_
                have hFe : FX = (v89na0_4.toInt, v89na0_5.toInt, v89na0_6.toInt, v89na0_7.toInt, v89na0_8.toInt, v89na0_9.toInt, v89na0_10.toInt, 1, (fl_A v89nfa0_12), (fl_A v89nfa0_16)) := hF0
                exact W.vret hx hb hr (fun t ht hW => ⟨⟨(), rfl, trivial, v89na0_4, v89na0_5, v89na0_6, v89na0_7, v89na0_8, v89na0_9, v89na0_10, 1, v89nfa0_12, v89nfa0_16, ⟨bv89na0_5.1, bv89na0_5.2⟩, ⟨bv89na0_8.1, bv89na0_8.2⟩, ⟨Int.le_trans (by decide) zq1, zq0⟩, bv89nfa0_16, (Or.inl rfl), (em_t hraw51_1 (em_t hraw82_1 hraw89_1)), hFe, by rw [ht]; exact hP, va_K.moved hW.alike hK, hD⟩, hS.F ht⟩) hS.2.2 dX8_readLine_137
              · subst hf89
                have hF0 := hF0.trans (if_neg (by decide))
                refine lv_goto (tgt := 137) hx hb dX8_readLine_92 (by decide) ?_
                have hFe : FX = (v89na0_4.toInt, v89na0_5.toInt, v89na0_6.toInt, v89na0_7.toInt, v89na0_8.toInt, v89na0_9.toInt, v89na0_10.toInt, 0, (fl_A v89nfa0_12), (fl_A v89nfa0_16)) := hF0
                exact W.vret hx hb hr (fun t ht hW => ⟨⟨(), rfl, trivial, v89na0_4, v89na0_5, v89na0_6, v89na0_7, v89na0_8, v89na0_9, v89na0_10, 0, v89nfa0_12, v89nfa0_16, ⟨bv89na0_5.1, bv89na0_5.2⟩, ⟨bv89na0_8.1, bv89na0_8.2⟩, ⟨zq5, Int.le_trans zq6 (by decide)⟩, bv89nfa0_16, (Or.inr rfl), (em_t hraw51_1 (em_t hraw82_1 hraw89_1)), hFe, by rw [ht]; exact hP, va_K.moved hW.alike hK, hD⟩, hS.F ht⟩) hS.2.2 dX8_readLine_137
        · obtain ⟨hw, huh51⟩ := hw
          subst hw
          subst huh51
          have hF0 := hF0.trans (if_neg (by decide))
          have hF0 := hF0.trans (if_pos (by decide))
          refine lv_if_eq (tgt := 64) hx hb dX8_readLine_54 (by decide) (fun c54 => absurd c54 (by decide +kernel)) (fun _ => ?_)
          refine lv_aload_n hx hb dX8_readLine_57 rfl (lv_at hl 0 rfl) ?_
          refine va_callv (va_runV (As := []) (rest := []) ⟨hx, hb, hml, hown, hts⟩ (fF_X8_figureLine l dC dI H.size a0 a0g_0 (Value.ref a0_1) a0g_2 (Value.int a0_3) (Value.int v51na0_4) (Value.int v51na0_5) (Value.int v51na0_6) (Value.int v51na0_7) (Value.int v51na0_8) (Value.int v51na0_9) (Value.int v51na0_10) a0g_11 (Value.ref a0_12) a0g_14 a0g_15 (Value.ref a0_16) a0g_17 a0g_18 a0g_19 a0g_20 a0g_21 a0g_22 a0g_23 a0g_24 a0g_25 a0g_26 a0g_27 a0g_28 a0g_29 a0g_30 a0g_31 a0g_32 a0g_33 a0g_34 a0g_35 a0g_36 a0g_37 a0g_38 a0g_39 ) (cwV 0 hts gX8_readLine_X8_figureLine rfl rfl rfl zd_X8_figureLine ⟨Nat.le_of_ble_eq_true rfl, Nat.le_of_ble_eq_true rfl⟩) ⟨ax_blind (fun _ _ _ _ _ => trivial), zr_8 (zp_K hK) (zp_P1 hP) (q0 := 0) rfl, ax_pre (zp_P1 hP) (zp_K hK) (zp_D1 hD) (fun _ _ => trivial)⟩ rfl rfl hl.1 rfl (lv_room (Nat.le_of_ble_eq_true rfl)) dX8_readLine_58 ⟨Nat.le_of_ble_eq_true rfl, Nat.le_of_ble_eq_true rfl⟩) hS (fun q _ h => zp_F1 hD hS hA q h) (zp_F1 hD hS hA) (fun u t H locs ht hvm hw hB hz1 hk1 hS1 => zo1 hB ht hP hD hk1 (zp_F1 hD hS hA) hS1 (fun hP hK1 hD hS => ?_))
          refine lv_goto (tgt := 137) hx hb dX8_readLine_61 (by decide) ?_
          have hFe : FX = (v51na0_4.toInt, v51na0_5.toInt, v51na0_6.toInt, v51na0_7.toInt, v51na0_8.toInt, v51na0_9.toInt, v51na0_10.toInt, 1, (fl_A v51nfa0_12), (fl_A fa0_16)) := hF0
          exact W.vret hx hb hr (fun t ht hW => ⟨⟨(), rfl, trivial, v51na0_4, v51na0_5, v51na0_6, v51na0_7, v51na0_8, v51na0_9, v51na0_10, 1, v51nfa0_12, fa0_16, ⟨bv51na0_5.1, bv51na0_5.2⟩, ⟨bv51na0_8.1, bv51na0_8.2⟩, ⟨Int.le_trans (by decide) zq1, zq0⟩, bfa0_16, (Or.inl rfl), hraw51_1, hFe, by rw [ht]; exact hP, va_K.moved hW.alike hK, hD⟩, hS.F ht⟩) hS.2.2 dX8_readLine_137
        · obtain ⟨hw, huh51, h51⟩ := hw
          subst hw
          subst huh51
          have hF0 := hF0.trans (if_neg (by decide))
          have hF0 := hF0.trans (if_neg (by decide))
          refine lv_if_eq (tgt := 64) hx hb dX8_readLine_54 (by decide) (fun c54 => absurd c54 (by decide +kernel)) (fun _ => ?_)
          refine lv_aload_n hx hb dX8_readLine_57 rfl (lv_at hl 0 rfl) ?_
          refine zc_cutc (wc := [(a0, .inr (8, [a0g_0, Value.ref a0_1, a0g_2, Value.int a0_3, Value.int v51na0_4, Value.int v51na0_5, Value.int v51na0_6, Value.int v51na0_7, Value.int v51na0_8, Value.int v51na0_9, Value.int v51na0_10, a0g_11, Value.ref a0_12, Value.int 0, a0g_14, a0g_15, Value.ref a0_16, a0g_17, a0g_18, a0g_19, a0g_20, a0g_21, a0g_22, a0g_23, a0g_24, a0g_25, a0g_26, a0g_27, a0g_28, a0g_29, a0g_30, a0g_31, a0g_32, a0g_33, a0g_34, a0g_35, a0g_36, a0g_37, a0g_38, a0g_39])), (a0_16, .inl (ka0_16, 156, .inl (fa0_16))), (a0_12, .inl (ka0_12, 8, .inl (v51nfa0_12))), (a0_1, .inl (ka0_1, 900, .inl (fa0_1)))]) hP hD hS hA [0, 2, 1, 3] (by decide +kernel) rfl (fun hPc hDc hFc hCc => ?_)
          have hKc := hK.sub (tys' := [(ka0_16, .int), (ka0_12, .int), (ka0_1, .int)]) [1, 0, 2] rfl
          refine va_callv (va_runV (As := []) (rest := []) ⟨hx, hb, hml, hown, hts⟩ (fG_X8_figureLine l dC dI H.size a0 a0g_0 a0g_2 a0g_11 a0g_14 a0g_15 a0g_17 a0g_18 a0g_19 a0g_20 a0g_21 a0g_22 a0g_23 a0g_24 a0g_25 a0g_26 a0g_27 a0g_28 a0g_29 a0g_30 a0g_31 a0g_32 a0g_33 a0g_34 a0g_35 a0g_36 a0g_37 a0g_38 a0g_39 a0_1 a0_3 v51na0_4 v51na0_5 v51na0_6 v51na0_7 v51na0_8 v51na0_9 v51na0_10 a0_12 a0_16 ka0_16 fa0_16 ka0_12 v51nfa0_12 ka0_1 fa0_1 ad ba0_3_l ba0_3_u bv51na0_5.1 bv51na0_5.2 bv51na0_8.1 bv51na0_8.2 bfa0_16 hraw51_0 (by have h1 := u43f_x40; rw [ex40] at h1; exact h1)) (cwV 0 hts gX8_readLine_X8_figureLine rfl rfl rfl zd_X8_figureLine ⟨Nat.le_of_ble_eq_true rfl, Nat.le_of_ble_eq_true rfl⟩) ⟨ax_blind (fun _ _ _ _ hq => sxc_T_same _ _ _ _ (hq)), zr_8 hKc hPc (q0 := 0) rfl, ax_preE hPc hKc hDc (fun U hU hW => sxc_T_to hE0 hS.2.1 hFc hU hW)⟩ rfl rfl hl.1 rfl (lv_room (Nat.le_of_ble_eq_true rfl)) dX8_readLine_58 ⟨Nat.le_of_ble_eq_true rfl, Nat.le_of_ble_eq_true rfl⟩) hS (fun q _ h => hFc q h) hFc (fun u t H locs ht hvm hw => zx_10 (fun v58na0_4 v58na0_5 v58na0_6 v58na0_7 v58na0_8 v58na0_9 v58na0_10 v58na0_13 v58nfa0_16 v58nfa0_12 => zy_7 (fun bv58na0_5 bv58na0_8 bv58na0_13 bv58nfa0_16 hraw58_0 hraw58_1 hraw58_2 hB hz1 hk1 hS1 => zo hB ht hS1 (fun hP1 hK1 hD1 hS => ?_))))
          refine zc_backc (w := [(a0, .inr (8, [a0g_0, Value.ref a0_1, a0g_2, Value.int a0_3, Value.int v58na0_4, Value.int v58na0_5, Value.int v58na0_6, Value.int v58na0_7, Value.int v58na0_8, Value.int v58na0_9, Value.int v58na0_10, a0g_11, Value.ref a0_12, Value.int v58na0_13, a0g_14, a0g_15, Value.ref a0_16, a0g_17, a0g_18, a0g_19, a0g_20, a0g_21, a0g_22, a0g_23, a0g_24, a0g_25, a0g_26, a0g_27, a0g_28, a0g_29, a0g_30, a0g_31, a0g_32, a0g_33, a0g_34, a0g_35, a0g_36, a0g_37, a0g_38, a0g_39])), (a0_12, .inl (ka0_12, 8, .inl (v58nfa0_12))), (a0_16, .inl (ka0_16, 156, .inl (v58nfa0_16))), (a0_1, .inl (ka0_1, 900, .inl (fa0_1)))]) hP hD hCc hk1 hFc hP1 hD1 [.inr 0, .inr 2, .inr 1, .inr 3] (by decide +kernel) rfl (fun hP hD => ?_)
          have hc58 : FfG_X8_figureLine a0_3.toInt v51na0_4.toInt v51na0_5.toInt v51na0_6.toInt v51na0_7.toInt v51na0_8.toInt v51na0_9.toInt v51na0_10.toInt (fl_A fa0_16) (fl_A v51nfa0_12) (fl_A fa0_1) = (v58na0_4.toInt, v58na0_5.toInt, v58na0_6.toInt, v58na0_7.toInt, v58na0_8.toInt, v58na0_9.toInt, v58na0_10.toInt, v58na0_13.toInt, (fl_A v58nfa0_16), (fl_A v58nfa0_12)) := hraw58_2
          have hF0 := hF0.trans (fl_c10_eq hc58)
          rcases hraw58_0 with hf58 | hf58
          · subst hf58
            have hF0 := hF0.trans (if_pos (by decide))
            refine lv_goto (tgt := 137) hx hb dX8_readLine_61 (by decide) ?_
            have hFe : FX = (v58na0_4.toInt, v58na0_5.toInt, v58na0_6.toInt, v58na0_7.toInt, v58na0_8.toInt, v58na0_9.toInt, v58na0_10.toInt, 1, (fl_A v58nfa0_12), (fl_A v58nfa0_16)) := hF0
            exact W.vret hx hb hr (fun t ht hW => ⟨⟨(), rfl, trivial, v58na0_4, v58na0_5, v58na0_6, v58na0_7, v58na0_8, v58na0_9, v58na0_10, 1, v58nfa0_12, v58nfa0_16, ⟨bv58na0_5.1, bv58na0_5.2⟩, ⟨bv58na0_8.1, bv58na0_8.2⟩, ⟨Int.le_trans (by decide) zq1, zq0⟩, bv58nfa0_16, (Or.inl rfl), (em_t hraw51_1 hraw58_1), hFe, by rw [ht]; exact hP, va_K.moved hW.alike hK, hD⟩, hS.F ht⟩) hS.2.2 dX8_readLine_137
          · subst hf58
            have hF0 := hF0.trans (if_neg (by decide))
            refine lv_goto (tgt := 137) hx hb dX8_readLine_61 (by decide) ?_
            have hFe : FX = (v58na0_4.toInt, v58na0_5.toInt, v58na0_6.toInt, v58na0_7.toInt, v58na0_8.toInt, v58na0_9.toInt, v58na0_10.toInt, 0, (fl_A v58nfa0_12), (fl_A v58nfa0_16)) := hF0
            exact W.vret hx hb hr (fun t ht hW => ⟨⟨(), rfl, trivial, v58na0_4, v58na0_5, v58na0_6, v58na0_7, v58na0_8, v58na0_9, v58na0_10, 0, v58nfa0_12, v58nfa0_16, ⟨bv58na0_5.1, bv58na0_5.2⟩, ⟨bv58na0_8.1, bv58na0_8.2⟩, ⟨zq5, Int.le_trans zq6 (by decide)⟩, bv58nfa0_16, (Or.inr rfl), (em_t hraw51_1 hraw58_1), hFe, by rw [ht]; exact hP, va_K.moved hW.alike hK, hD⟩, hS.F ht⟩) hS.2.2 dX8_readLine_137
    · have gc22 := ai_ne c22
      have l22f_r19 : (1 : Int) ≤ r19.toInt := (by first | exact zg_l h19_0 gc22 (by decide) (by decide) | (have h1 := h19_0; have h2 : (0 : Int32).toInt = 0 := (by decide); rw [h2] at gc22; omega))
      have hF0 := hF0.trans (if_neg (show ¬ (r19.toInt = 0) from  gc22))
      refine lv_aload_n hx hb dX8_readLine_25 rfl (lv_at hl 0 rfl) ?_
      refine zc_cutc (wc := [(a0, .inr (8, [a0g_0, Value.ref a0_1, a0g_2, Value.int a0_3, Value.int a0_4, Value.int a0_5, Value.int a0_6, Value.int a0_7, Value.int a0_8, Value.int a0_9, Value.int a0_10, a0g_11, Value.ref a0_12, Value.int 0, a0g_14, a0g_15, Value.ref a0_16, a0g_17, a0g_18, a0g_19, a0g_20, a0g_21, a0g_22, a0g_23, a0g_24, a0g_25, a0g_26, a0g_27, a0g_28, a0g_29, a0g_30, a0g_31, a0g_32, a0g_33, a0g_34, a0g_35, a0g_36, a0g_37, a0g_38, a0g_39])), (a0_16, .inl (ka0_16, 156, .inl (fa0_16))), (a0_1, .inl (ka0_1, 900, .inl (fa0_1))), (a0_12, .inl (ka0_12, 8, .inl (fa0_12)))]) hP hD hS hA [0, 2, 3, 1] (by decide +kernel) rfl (fun hPc hDc hFc hCc => ?_)
      have hKc := hK.sub (tys' := [(ka0_16, .int), (ka0_1, .int), (ka0_12, .int)]) [1, 2, 0] rfl
      refine va_callv (va_runV (As := []) (rest := []) ⟨hx, hb, hml, hown, hts⟩ (fG_X8_lawLine l dC dI H.size a0 a0g_0 a0g_2 a0g_11 a0g_14 a0g_15 a0g_17 a0g_18 a0g_19 a0g_20 a0g_21 a0g_22 a0g_23 a0g_24 a0g_25 a0g_26 a0g_27 a0g_28 a0g_29 a0g_30 a0g_31 a0g_32 a0g_33 a0g_34 a0g_35 a0g_36 a0g_37 a0g_38 a0g_39 a0_1 a0_3 a0_4 a0_5 a0_6 a0_7 a0_8 a0_9 a0_10 a0_12 a0_16 ka0_16 fa0_16 ka0_1 fa0_1 ka0_12 fa0_12 ad ba0_3_l ba0_3_u ba0_5_l ba0_5_u ba0_8_l ba0_8_u bfa0_16) (cwV 0 hts gX8_readLine_X8_lawLine rfl rfl rfl zd_X8_lawLine ⟨Nat.le_of_ble_eq_true rfl, Nat.le_of_ble_eq_true rfl⟩) ⟨ax_blind (fun _ _ _ _ hq => sxc_T_same _ _ _ _ (hq)), zr_8 hKc hPc (q0 := 0) rfl, ax_preE hPc hKc hDc (fun U hU hW => sxc_T_to hE0 hS.2.1 hFc hU hW)⟩ rfl rfl hl.1 rfl (lv_room (Nat.le_of_ble_eq_true rfl)) dX8_readLine_26 ⟨Nat.le_of_ble_eq_true rfl, Nat.le_of_ble_eq_true rfl⟩) hS (fun q _ h => hFc q h) hFc (fun u t H locs ht hvm hw => zx_10 (fun v26na0_4 v26na0_5 v26na0_6 v26na0_7 v26na0_8 v26na0_9 v26na0_10 v26na0_13 v26nfa0_16 v26nfa0_12 => zy_7 (fun bv26na0_5 bv26na0_8 bv26na0_13 bv26nfa0_16 hraw26_0 hraw26_1 hraw26_2 hB hz1 hk1 hS1 => zo hB ht hS1 (fun hP1 hK1 hD1 hS => ?_))))
      refine zc_backc (w := [(a0, .inr (8, [a0g_0, Value.ref a0_1, a0g_2, Value.int a0_3, Value.int v26na0_4, Value.int v26na0_5, Value.int v26na0_6, Value.int v26na0_7, Value.int v26na0_8, Value.int v26na0_9, Value.int v26na0_10, a0g_11, Value.ref a0_12, Value.int v26na0_13, a0g_14, a0g_15, Value.ref a0_16, a0g_17, a0g_18, a0g_19, a0g_20, a0g_21, a0g_22, a0g_23, a0g_24, a0g_25, a0g_26, a0g_27, a0g_28, a0g_29, a0g_30, a0g_31, a0g_32, a0g_33, a0g_34, a0g_35, a0g_36, a0g_37, a0g_38, a0g_39])), (a0_12, .inl (ka0_12, 8, .inl (v26nfa0_12))), (a0_16, .inl (ka0_16, 156, .inl (v26nfa0_16))), (a0_1, .inl (ka0_1, 900, .inl (fa0_1)))]) hP hD hCc hk1 hFc hP1 hD1 [.inr 0, .inr 3, .inr 1, .inr 2] (by decide +kernel) rfl (fun hP hD => ?_)
      have hc26 : FfG_X8_lawLine a0_3.toInt a0_4.toInt a0_5.toInt a0_6.toInt a0_7.toInt a0_8.toInt a0_9.toInt a0_10.toInt (fl_A fa0_16) (fl_A fa0_1) (fl_A fa0_12) = (v26na0_4.toInt, v26na0_5.toInt, v26na0_6.toInt, v26na0_7.toInt, v26na0_8.toInt, v26na0_9.toInt, v26na0_10.toInt, v26na0_13.toInt, (fl_A v26nfa0_16), (fl_A v26nfa0_12)) := hraw26_2
      have hF0 := hF0.trans (fl_c10_eq hc26)
      rcases hraw26_0 with hf26 | hf26
      · subst hf26
        have hF0 := hF0.trans (if_pos (by decide))
        refine lv_goto (tgt := 137) hx hb dX8_readLine_29 (by decide) ?_
        have hFe : FX = (v26na0_4.toInt, v26na0_5.toInt, v26na0_6.toInt, v26na0_7.toInt, v26na0_8.toInt, v26na0_9.toInt, v26na0_10.toInt, 1, (fl_A v26nfa0_12), (fl_A v26nfa0_16)) := hF0
        exact W.vret hx hb hr (fun t ht hW => ⟨⟨(), rfl, trivial, v26na0_4, v26na0_5, v26na0_6, v26na0_7, v26na0_8, v26na0_9, v26na0_10, 1, v26nfa0_12, v26nfa0_16, ⟨bv26na0_5.1, bv26na0_5.2⟩, ⟨bv26na0_8.1, bv26na0_8.2⟩, ⟨Int.le_trans (by decide) zq1, zq0⟩, bv26nfa0_16, (Or.inl rfl), hraw26_1, hFe, by rw [ht]; exact hP, va_K.moved hW.alike hK, hD⟩, hS.F ht⟩) hS.2.2 dX8_readLine_137
      · subst hf26
        have hF0 := hF0.trans (if_neg (by decide))
        refine lv_goto (tgt := 137) hx hb dX8_readLine_29 (by decide) ?_
        have hFe : FX = (v26na0_4.toInt, v26na0_5.toInt, v26na0_6.toInt, v26na0_7.toInt, v26na0_8.toInt, v26na0_9.toInt, v26na0_10.toInt, 0, (fl_A v26nfa0_12), (fl_A v26nfa0_16)) := hF0
        exact W.vret hx hb hr (fun t ht hW => ⟨⟨(), rfl, trivial, v26na0_4, v26na0_5, v26na0_6, v26na0_7, v26na0_8, v26na0_9, v26na0_10, 0, v26nfa0_12, v26nfa0_16, ⟨bv26na0_5.1, bv26na0_5.2⟩, ⟨bv26na0_8.1, bv26na0_8.2⟩, ⟨zq5, Int.le_trans zq6 (by decide)⟩, bv26nfa0_16, (Or.inr rfl), hraw26_1, hFe, by rw [ht]; exact hP, va_K.moved hW.alike hK, hD⟩, hS.F ht⟩) hS.2.2 dX8_readLine_137
  · have gc6 := ai_ne c6
    have l6f_r3 : (1 : Int) ≤ r3.toInt := (by first | exact zg_l h3_0 gc6 (by decide) (by decide) | (have h1 := h3_0; have h2 : (0 : Int32).toInt = 0 := (by decide); rw [h2] at gc6; omega))
    have hF0 := hF0.trans (if_neg (show ¬ (r3.toInt = 0) from  gc6))
    refine lv_aload_n hx hb dX8_readLine_9 rfl (lv_at hl 0 rfl) ?_
    refine zc_cutc (wc := [(a0, .inr (8, [a0g_0, Value.ref a0_1, a0g_2, Value.int a0_3, Value.int a0_4, Value.int a0_5, Value.int a0_6, Value.int a0_7, Value.int a0_8, Value.int a0_9, Value.int a0_10, a0g_11, Value.ref a0_12, Value.int 0, a0g_14, a0g_15, Value.ref a0_16, a0g_17, a0g_18, a0g_19, a0g_20, a0g_21, a0g_22, a0g_23, a0g_24, a0g_25, a0g_26, a0g_27, a0g_28, a0g_29, a0g_30, a0g_31, a0g_32, a0g_33, a0g_34, a0g_35, a0g_36, a0g_37, a0g_38, a0g_39])), (a0_16, .inl (ka0_16, 156, .inl (fa0_16))), (a0_1, .inl (ka0_1, 900, .inl (fa0_1))), (a0_12, .inl (ka0_12, 8, .inl (fa0_12)))]) hP hD hS hA [0, 2, 3, 1] (by decide +kernel) rfl (fun hPc hDc hFc hCc => ?_)
    have hKc := hK.sub (tys' := [(ka0_16, .int), (ka0_1, .int), (ka0_12, .int)]) [1, 2, 0] rfl
    refine va_callv (va_runV (As := []) (rest := []) ⟨hx, hb, hml, hown, hts⟩ (fG_X8_galleryLine l dC dI H.size a0 a0g_0 a0g_2 a0g_11 a0g_14 a0g_15 a0g_17 a0g_18 a0g_19 a0g_20 a0g_21 a0g_22 a0g_23 a0g_24 a0g_25 a0g_26 a0g_27 a0g_28 a0g_29 a0g_30 a0g_31 a0g_32 a0g_33 a0g_34 a0g_35 a0g_36 a0g_37 a0g_38 a0g_39 a0_1 a0_3 a0_4 a0_5 a0_6 a0_7 a0_8 a0_9 a0_10 a0_12 a0_16 ka0_16 fa0_16 ka0_1 fa0_1 ka0_12 fa0_12 ad ba0_3_l ba0_3_u ba0_5_l ba0_5_u ba0_8_l ba0_8_u bfa0_16) (cwV 0 hts gX8_readLine_X8_galleryLine rfl rfl rfl zd_X8_galleryLine ⟨Nat.le_of_ble_eq_true rfl, Nat.le_of_ble_eq_true rfl⟩) ⟨ax_blind (fun _ _ _ _ hq => sxc_T_same _ _ _ _ (hq)), zr_8 hKc hPc (q0 := 0) rfl, ax_preE hPc hKc hDc (fun U hU hW => sxc_T_to hE0 hS.2.1 hFc hU hW)⟩ rfl rfl hl.1 rfl (lv_room (Nat.le_of_ble_eq_true rfl)) dX8_readLine_10 ⟨Nat.le_of_ble_eq_true rfl, Nat.le_of_ble_eq_true rfl⟩) hS (fun q _ h => hFc q h) hFc (fun u t H locs ht hvm hw => zx_10 (fun v10na0_4 v10na0_5 v10na0_6 v10na0_7 v10na0_8 v10na0_9 v10na0_10 v10na0_13 v10nfa0_16 v10nfa0_12 => zy_7 (fun bv10na0_5 bv10na0_8 bv10na0_13 bv10nfa0_16 hraw10_0 hraw10_1 hraw10_2 hB hz1 hk1 hS1 => zo hB ht hS1 (fun hP1 hK1 hD1 hS => ?_))))
    refine zc_backc (w := [(a0, .inr (8, [a0g_0, Value.ref a0_1, a0g_2, Value.int a0_3, Value.int v10na0_4, Value.int v10na0_5, Value.int v10na0_6, Value.int v10na0_7, Value.int v10na0_8, Value.int v10na0_9, Value.int v10na0_10, a0g_11, Value.ref a0_12, Value.int v10na0_13, a0g_14, a0g_15, Value.ref a0_16, a0g_17, a0g_18, a0g_19, a0g_20, a0g_21, a0g_22, a0g_23, a0g_24, a0g_25, a0g_26, a0g_27, a0g_28, a0g_29, a0g_30, a0g_31, a0g_32, a0g_33, a0g_34, a0g_35, a0g_36, a0g_37, a0g_38, a0g_39])), (a0_12, .inl (ka0_12, 8, .inl (v10nfa0_12))), (a0_16, .inl (ka0_16, 156, .inl (v10nfa0_16))), (a0_1, .inl (ka0_1, 900, .inl (fa0_1)))]) hP hD hCc hk1 hFc hP1 hD1 [.inr 0, .inr 3, .inr 1, .inr 2] (by decide +kernel) rfl (fun hP hD => ?_)
    have hc10 : FfG_X8_galleryLine a0_3.toInt a0_4.toInt a0_5.toInt a0_6.toInt a0_7.toInt a0_8.toInt a0_9.toInt a0_10.toInt (fl_A fa0_16) (fl_A fa0_1) (fl_A fa0_12) = (v10na0_4.toInt, v10na0_5.toInt, v10na0_6.toInt, v10na0_7.toInt, v10na0_8.toInt, v10na0_9.toInt, v10na0_10.toInt, v10na0_13.toInt, (fl_A v10nfa0_16), (fl_A v10nfa0_12)) := hraw10_2
    have hF0 := hF0.trans (fl_c10_eq hc10)
    rcases hraw10_0 with hf10 | hf10
    · subst hf10
      have hF0 := hF0.trans (if_pos (by decide))
      refine lv_goto (tgt := 137) hx hb dX8_readLine_13 (by decide) ?_
      have hFe : FX = (v10na0_4.toInt, v10na0_5.toInt, v10na0_6.toInt, v10na0_7.toInt, v10na0_8.toInt, v10na0_9.toInt, v10na0_10.toInt, 1, (fl_A v10nfa0_12), (fl_A v10nfa0_16)) := hF0
      exact W.vret hx hb hr (fun t ht hW => ⟨⟨(), rfl, trivial, v10na0_4, v10na0_5, v10na0_6, v10na0_7, v10na0_8, v10na0_9, v10na0_10, 1, v10nfa0_12, v10nfa0_16, ⟨bv10na0_5.1, bv10na0_5.2⟩, ⟨bv10na0_8.1, bv10na0_8.2⟩, ⟨Int.le_trans (by decide) zq1, zq0⟩, bv10nfa0_16, (Or.inl rfl), hraw10_1, hFe, by rw [ht]; exact hP, va_K.moved hW.alike hK, hD⟩, hS.F ht⟩) hS.2.2 dX8_readLine_137
    · subst hf10
      have hF0 := hF0.trans (if_neg (by decide))
      refine lv_goto (tgt := 137) hx hb dX8_readLine_13 (by decide) ?_
      have hFe : FX = (v10na0_4.toInt, v10na0_5.toInt, v10na0_6.toInt, v10na0_7.toInt, v10na0_8.toInt, v10na0_9.toInt, v10na0_10.toInt, 0, (fl_A v10nfa0_12), (fl_A v10nfa0_16)) := hF0
      exact W.vret hx hb hr (fun t ht hW => ⟨⟨(), rfl, trivial, v10na0_4, v10na0_5, v10na0_6, v10na0_7, v10na0_8, v10na0_9, v10na0_10, 0, v10nfa0_12, v10nfa0_16, ⟨bv10na0_5.1, bv10na0_5.2⟩, ⟨bv10na0_8.1, bv10na0_8.2⟩, ⟨zq5, Int.le_trans zq6 (by decide)⟩, bv10nfa0_16, (Or.inr rfl), hraw10_1, hFe, by rw [ht]; exact hP, va_K.moved hW.alike hK, hD⟩, hS.F ht⟩) hS.2.2 dX8_readLine_137
