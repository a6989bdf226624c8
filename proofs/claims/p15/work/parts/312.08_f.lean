set_option maxHeartbeats 4000000 in
set_option maxRecDepth 100000 in
theorem fG_X8_seenLine (l : Launch) (dC : Nat → ClassId) (dI : Nat → Nat → Nat) (sz : Nat) (a0 : Nat) (a0g_0 a0g_2 a0g_11 a0g_14 a0g_15 a0g_17 a0g_18 a0g_19 a0g_20 a0g_21 a0g_22 a0g_23 a0g_24 a0g_25 a0g_26 a0g_27 a0g_28 a0g_29 a0g_30 a0g_31 a0g_32 a0g_33 a0g_34 a0g_35 a0g_36 a0g_37 a0g_38 a0g_39 : Value) (a0_1 : Nat) (a0_3 : Int32) (a0_4 : Int32) (a0_5 : Int32) (a0_6 : Int32) (a0_7 : Int32) (a0_8 : Int32) (a0_9 : Int32) (a0_10 : Int32) (a0_12 : Nat) (a0_16 : Nat) (ka0_16 : ClassId) (fa0_16 : Nat → Int32) (ka0_1 : ClassId) (fa0_1 : Nat → Int32) (ka0_12 : ClassId) (fa0_12 : Nat → Int32) (ad : Nat → Nat) (ba0_3_l : (0 : Int) ≤ a0_3.toInt) (ba0_3_u : a0_3.toInt ≤ (900 : Int)) (ba0_5_l : (0 : Int) ≤ a0_5.toInt) (ba0_5_u : a0_5.toInt ≤ (900 : Int)) (ba0_8_l : (0 : Int) ≤ a0_8.toInt) (ba0_8_u : a0_8.toInt ≤ (900 : Int)) (bfa0_16 : ((∀ k : Nat, 0 ≤ k → k ≤ 0 → (0 : Int) ≤ (fa0_16 k).toInt ∧ (fa0_16 k).toInt ≤ 9) ∧ (∀ k : Nat, 1 ≤ k → k ≤ 1 → (0 : Int) ≤ (fa0_16 k).toInt ∧ (fa0_16 k).toInt ≤ 20) ∧ (∀ k : Nat, 2 ≤ k → k ≤ 2 → (0 : Int) ≤ (fa0_16 k).toInt ∧ (fa0_16 k).toInt ≤ 8) ∧ (∀ k : Nat, 3 ≤ k → k ≤ 3 → (0 : Int) ≤ (fa0_16 k).toInt ∧ (fa0_16 k).toInt ≤ 100) ∧ (∀ k : Nat, 4 ≤ k → k ≤ 4 → (0 : Int) ≤ (fa0_16 k).toInt ∧ (fa0_16 k).toInt ≤ 9) ∧ (∀ k : Nat, 5 ≤ k → k ≤ 5 → (0 : Int) ≤ (fa0_16 k).toInt ∧ (fa0_16 k).toInt ≤ 3) ∧ (∀ k : Nat, 6 ≤ k → k ≤ 6 → (0 : Int) ≤ (fa0_16 k).toInt ∧ (fa0_16 k).toInt ≤ 6) ∧ (∀ k : Nat, 7 ≤ k → k ≤ 9 → (0 : Int) ≤ (fa0_16 k).toInt ∧ (fa0_16 k).toInt ≤ 8) ∧ (∀ k : Nat, 10 ≤ k → k ≤ 11 → (0 : Int) ≤ (fa0_16 k).toInt ∧ (fa0_16 k).toInt ≤ 1) ∧ (∀ k : Nat, 12 ≤ k → k ≤ 29 → (0 : Int) ≤ (fa0_16 k).toInt ∧ (fa0_16 k).toInt ≤ 20) ∧ (∀ k : Nat, 30 ≤ k → k ≤ 35 → (0 : Int) ≤ (fa0_16 k).toInt ∧ (fa0_16 k).toInt ≤ 8) ∧ (∀ k : Nat, 36 ≤ k → k ≤ 47 → (0 : Int) ≤ (fa0_16 k).toInt ∧ (fa0_16 k).toInt ≤ 999) ∧ (∀ k : Nat, 48 ≤ k → k ≤ 59 → (0 : Int) ≤ (fa0_16 k).toInt ∧ (fa0_16 k).toInt ≤ 8) ∧ ((1 : Int) ≤ (fa0_16 11).toInt → (2 : Int) ≤ (fa0_16 0).toInt ∧ (1 : Int) ≤ (fa0_16 1).toInt) ∧ (∀ (j i0 i : Int32), (0 : Int) ≤ j.toInt → j.toInt ≤ 8 → i0.toInt = 12 + 2 * j.toInt → i.toInt = 13 + 2 * j.toInt → (fa0_16 i0.toNatClampNeg).toInt = (1 : Int32).toInt → (1 : Int) ≤ (fa0_16 i.toNatClampNeg).toInt))) (h6 : (fa0_16 6).toInt ≤ (5 : Int)) : zm l yX8_seenLine wsX8_seenLine ({ frames := 7, cells := 0, slots := 0, locals := 150 }) [.ref a0] dC dI sz [(a0, .inr (8, [a0g_0, Value.ref a0_1, a0g_2, Value.int a0_3, Value.int a0_4, Value.int a0_5, Value.int a0_6, Value.int a0_7, Value.int a0_8, Value.int a0_9, Value.int a0_10, a0g_11, Value.ref a0_12, Value.int 0, a0g_14, a0g_15, Value.ref a0_16, a0g_17, a0g_18, a0g_19, a0g_20, a0g_21, a0g_22, a0g_23, a0g_24, a0g_25, a0g_26, a0g_27, a0g_28, a0g_29, a0g_30, a0g_31, a0g_32, a0g_33, a0g_34, a0g_35, a0g_36, a0g_37, a0g_38, a0g_39])), (a0_16, .inl (ka0_16, 156, .inl (fa0_16))), (a0_1, .inl (ka0_1, 900, .inl (fa0_1))), (a0_12, .inl (ka0_12, 8, .inl (fa0_12)))] [(ka0_16, .int), (ka0_1, .int), (ka0_12, .int)] (fun A U => sxc_T ad A U) (fun A => va_Qv (fun (_ : Unit) => True) (fun (_ : Unit) (t : State) => ∃ na0_4 : Int32, ∃ na0_5 : Int32, ∃ na0_6 : Int32, ∃ na0_7 : Int32, ∃ na0_8 : Int32, ∃ na0_9 : Int32, ∃ na0_10 : Int32, ∃ na0_13 : Int32, ∃ nfa0_16 : Nat → Int32, ∃ nfa0_12 : Nat → Int32, ((0 : Int) ≤ na0_5.toInt ∧ na0_5.toInt ≤ 900) ∧ ((0 : Int) ≤ na0_8.toInt ∧ na0_8.toInt ≤ 900) ∧ ((0 : Int) ≤ na0_13.toInt ∧ na0_13.toInt ≤ 1) ∧ ((∀ k : Nat, 0 ≤ k → k ≤ 0 → (0 : Int) ≤ (nfa0_16 k).toInt ∧ (nfa0_16 k).toInt ≤ 9) ∧ (∀ k : Nat, 1 ≤ k → k ≤ 1 → (0 : Int) ≤ (nfa0_16 k).toInt ∧ (nfa0_16 k).toInt ≤ 20) ∧ (∀ k : Nat, 2 ≤ k → k ≤ 2 → (0 : Int) ≤ (nfa0_16 k).toInt ∧ (nfa0_16 k).toInt ≤ 8) ∧ (∀ k : Nat, 3 ≤ k → k ≤ 3 → (0 : Int) ≤ (nfa0_16 k).toInt ∧ (nfa0_16 k).toInt ≤ 100) ∧ (∀ k : Nat, 4 ≤ k → k ≤ 4 → (0 : Int) ≤ (nfa0_16 k).toInt ∧ (nfa0_16 k).toInt ≤ 9) ∧ (∀ k : Nat, 5 ≤ k → k ≤ 5 → (0 : Int) ≤ (nfa0_16 k).toInt ∧ (nfa0_16 k).toInt ≤ 3) ∧ (∀ k : Nat, 6 ≤ k → k ≤ 6 → (0 : Int) ≤ (nfa0_16 k).toInt ∧ (nfa0_16 k).toInt ≤ 6) ∧ (∀ k : Nat, 7 ≤ k → k ≤ 9 → (0 : Int) ≤ (nfa0_16 k).toInt ∧ (nfa0_16 k).toInt ≤ 8) ∧ (∀ k : Nat, 10 ≤ k → k ≤ 11 → (0 : Int) ≤ (nfa0_16 k).toInt ∧ (nfa0_16 k).toInt ≤ 1) ∧ (∀ k : Nat, 12 ≤ k → k ≤ 29 → (0 : Int) ≤ (nfa0_16 k).toInt ∧ (nfa0_16 k).toInt ≤ 20) ∧ (∀ k : Nat, 30 ≤ k → k ≤ 35 → (0 : Int) ≤ (nfa0_16 k).toInt ∧ (nfa0_16 k).toInt ≤ 8) ∧ (∀ k : Nat, 36 ≤ k → k ≤ 47 → (0 : Int) ≤ (nfa0_16 k).toInt ∧ (nfa0_16 k).toInt ≤ 999) ∧ (∀ k : Nat, 48 ≤ k → k ≤ 59 → (0 : Int) ≤ (nfa0_16 k).toInt ∧ (nfa0_16 k).toInt ≤ 8) ∧ ((1 : Int) ≤ (nfa0_16 11).toInt → (2 : Int) ≤ (nfa0_16 0).toInt ∧ (1 : Int) ≤ (nfa0_16 1).toInt) ∧ (∀ (j i0 i : Int32), (0 : Int) ≤ j.toInt → j.toInt ≤ 8 → i0.toInt = 12 + 2 * j.toInt → i.toInt = 13 + 2 * j.toInt → (nfa0_16 i0.toNatClampNeg).toInt = (1 : Int32).toInt → (1 : Int) ≤ (nfa0_16 i.toNatClampNeg).toInt)) ∧ (na0_13 = 1 ∨ na0_13 = 0) ∧ (a0_5.toInt ≤ na0_5.toInt ∧ ((na0_5.toInt = a0_5.toInt ∧ na0_6.toInt = a0_6.toInt) ∨ na0_6.toInt ≠ 59 ∨ a0_5.toInt < na0_5.toInt)) ∧ (FfG_X8_seenLine a0_3.toInt a0_4.toInt a0_5.toInt a0_6.toInt a0_7.toInt a0_8.toInt a0_9.toInt a0_10.toInt (fl_A fa0_16) (fl_A fa0_1) (fl_A fa0_12) = (na0_4.toInt, na0_5.toInt, na0_6.toInt, na0_7.toInt, na0_8.toInt, na0_9.toInt, na0_10.toInt, na0_13.toInt, (fl_A nfa0_16), (fl_A nfa0_12))) ∧ ax_B dC dI A [(a0, .inr (8, [a0g_0, Value.ref a0_1, a0g_2, Value.int a0_3, Value.int na0_4, Value.int na0_5, Value.int na0_6, Value.int na0_7, Value.int na0_8, Value.int na0_9, Value.int na0_10, a0g_11, Value.ref a0_12, Value.int na0_13, a0g_14, a0g_15, Value.ref a0_16, a0g_17, a0g_18, a0g_19, a0g_20, a0g_21, a0g_22, a0g_23, a0g_24, a0g_25, a0g_26, a0g_27, a0g_28, a0g_29, a0g_30, a0g_31, a0g_32, a0g_33, a0g_34, a0g_35, a0g_36, a0g_37, a0g_38, a0g_39])), (a0_16, .inl (ka0_16, 156, .inl (nfa0_16))), (a0_1, .inl (ka0_1, 900, .inl (fa0_1))), (a0_12, .inl (ka0_12, 8, .inl (nfa0_12)))] [(ka0_16, .int), (ka0_1, .int), (ka0_12, .int)] t) A) := by
  refine zh (cc := cX8_seenLine) (maxL := 5) (ret := none) zn_RX8 rfl (Nat.le_of_ble_eq_true rfl) (fun p e s m below meth c A ls hx hb hml hr hts (hown : s.vm.findClass RX8 = some m.cls) hlocks hA hS hP hK hD hE (hl : lv_has ls 5 [(0, .ref a0)]) => ?_)
  have hE0 := hE
  generalize hFX : FfG_X8_seenLine a0_3.toInt a0_4.toInt a0_5.toInt a0_6.toInt a0_7.toInt a0_8.toInt a0_9.toInt a0_10.toInt (fl_A fa0_16) (fl_A fa0_1) (fl_A fa0_12) = FX at ⊢
  have hF0 := hFX.symm.trans (FfG_X8_seenLine.eq_1 a0_3.toInt a0_4.toInt a0_5.toInt a0_6.toInt a0_7.toInt a0_8.toInt a0_9.toInt a0_10.toInt (fl_A fa0_16) (fl_A fa0_1) (fl_A fa0_12))
  refine ai_open (fun K hK0 => ?_)
  refine (hK0 _ _ _).mpr ?_
  refine lv_aload_n hx hb dX8_seenLine_0 rfl (lv_at hl 0 rfl) ?_
  refine va_get (D := (dC, dI)) (ci := 8) (v := .int 0) (C := RX8) (T := TX8) (N := 40) hx hb hts zi_X8_seenLine_8 hown hK hP 0 rfl rfl 13 (by decide) (hts (.fieldLink RX8 97 "WaxTurnsModel" "failed" "Z") (zm_X8_seenLine_r1 (List.mem_of_getElem? (i := 0) rfl))) (fun _ h9 => h9) rfl dX8_seenLine_1 ?_
  refine lv_if_eq (tgt := 8) hx hb dX8_seenLine_4 (by decide) (fun _ => ?_) (fun c4 => absurd (by decide +kernel) c4)
  refine lv_bipush (v := 36) hx hb dX8_seenLine_8 zk_bipush_36 ?_
  refine lv_iconst (v := 2) hx hb dX8_seenLine_10 zk_iconst_2 ?_
  refine lv_aload_n hx hb dX8_seenLine_11 rfl (lv_at hl 0 rfl) ?_
  refine va_get (D := (dC, dI)) (ci := 8) (v := .ref a0_16) (C := RX8) (T := TX8) (N := 40) hx hb hts zi_X8_seenLine_8 hown hK hP 0 rfl rfl 16 (by decide) (hts (.fieldLink RX8 23 "WaxTurnsModel" "fresh" "[I") (zm_X8_seenLine_r1 (List.mem_of_getElem? (i := 1) rfl))) (fun _ h9 => h9) rfl dX8_seenLine_12 ?_
  refine lv_bipush (v := 6) hx hb dX8_seenLine_15 zk_bipush_6 ?_
  refine va_iald hx hb hK hP 1 0 rfl rfl (by unfold vp_in; decide +kernel) dX8_seenLine_17 ?_
  refine lv_topi (fun x17 ex17 => ?_)
  have bx17 : (0 : Int) ≤ x17.toInt ∧ x17.toInt ≤ 6 := by rw [ex17]; exact ai_rd bfa0_16.2.2.2.2.2.2.1 zq15 zq16 (by decide) (by decide) (by decide)
  have fqx17 := congrArg Int32.toInt ex17
  have hF0 := hF0.trans (fl_lt_eq (show x17.toInt = (fl_A fa0_16) (6) from fqx17))
  have u17z_x17 : x17.toInt ≤ (5 : Int) := fg_le (m := 6) ex17 h6
  refine lv_imul hx hb dX8_seenLine_18 ?_
  refine lv_topi (fun x18 ex18 => ?_)
  have qx18 : x18.toInt = (2 : Int32).toInt * x17.toInt ∧ (0 : Int) ≤ x18.toInt ∧ x18.toInt ≤ 10 := ai_mul ex18 ⟨zq12, zq13⟩ ⟨bx17.1, u17z_x17⟩ (by decide) (by decide) zq181
  have wx18 : x18.toInt = 2 * x17.toInt := qx18.1
  have hF0 := hF0.trans (fl_lt_eq (show x18.toInt = 2 * x17.toInt from qx18.1))
  refine lv_iadd hx hb dX8_seenLine_19 ?_
  refine lv_topi (fun x19 ex19 => ?_)
  have qx19 : x19.toInt = (36 : Int32).toInt + x18.toInt := ai_add ex19 ⟨zq182, zq183⟩ ⟨qx18.2.1, qx18.2.2⟩ (by decide) (by decide)
  have bx19 : (36 : Int) ≤ x19.toInt ∧ x19.toInt ≤ 46 := ⟨by rw [qx19]; exact Int.add_le_add zq182 qx18.2.1, by rw [qx19]; exact Int.add_le_add zq183 qx18.2.2⟩
  have wx19 : x19.toInt = 36 + x18.toInt := qx19
  have hF0 := hF0.trans (fl_lt_eq (show x19.toInt = 36 + x18.toInt from qx19))
  refine lv_istore_n (lv' := [(1, .int x19), (0, .ref a0)]) hx hb dX8_seenLine_20 rfl hl (by decide) rfl (fun ls hl => ?_)
  refine lv_aload_n hx hb dX8_seenLine_21 rfl (lv_at hl 1 rfl) ?_
  refine lv_iconst (v := 0) hx hb dX8_seenLine_22 zk_iconst_0 ?_
  refine lv_aload_n hx hb dX8_seenLine_23 rfl (lv_at hl 1 rfl) ?_
  have hKc := hK.sub (tys' := [(ka0_16, .int)]) [0] rfl
  refine va_calli (va_runV (As := []) (rest := [.int 0, .ref a0]) ⟨hx, hb, hml, hown, hts⟩ (f_X8_last l dC dI s.heap.size a0 a0g_0 (Value.ref a0_1) a0g_2 (Value.int a0_3) (Value.int a0_4) (Value.int a0_5) (Value.int a0_6) (Value.int a0_7) (Value.int a0_8) (Value.int a0_9) (Value.int a0_10) a0g_11 (Value.ref a0_12) (Value.int 0) a0g_14 a0g_15 a0g_17 a0g_18 a0g_19 a0g_20 a0g_21 a0g_22 a0g_23 a0g_24 a0g_25 a0g_26 a0g_27 a0g_28 a0g_29 a0g_30 a0g_31 a0g_32 a0g_33 a0g_34 a0g_35 a0g_36 a0g_37 a0g_38 a0g_39 a0_16 ka0_16 fa0_16 bfa0_16) (cwV 0 hts gX8_seenLine_X8_last rfl rfl rfl zd_X8_last ⟨Nat.le_of_ble_eq_true rfl, Nat.le_of_ble_eq_true rfl⟩) ⟨ax_blind (fun _ _ _ _ _ => trivial), zr_8 hKc (zp_P2 hP) (q0 := 0) rfl, ax_pre (zp_P2 hP) hKc (zp_D2 hD) (fun _ _ => trivial)⟩ rfl rfl hl.1 rfl (lv_room (Nat.le_of_ble_eq_true rfl)) dX8_seenLine_24 ⟨Nat.le_of_ble_eq_true rfl, Nat.le_of_ble_eq_true rfl⟩) hS (fun q _ h => zp_F2 hD hS hA q h) (zp_F2 hD hS hA) (fun r24 u t H locs ht hvm hw hB hz1 hk1 hS1 => zo2 hB ht hP hD hk1 (zp_F2 hD hS hA) hS1 (fun hP hK1 hD hS => ?_))
  obtain ⟨hw, hfr24⟩ := hw
  have hc24 : Ff_X8_last (fl_A fa0_16) = r24.toInt := hfr24.symm
  have hF0 := hF0.trans (fl_lt_eq hc24.symm)
  have hw : (-1 : Int) ≤ r24.toInt ∧ r24.toInt ≤ (8 : Int) := hw
  obtain ⟨h24_0, h24_1⟩ := hw
  refine zc_cutc (wc := [(a0, .inr (8, [a0g_0, Value.ref a0_1, a0g_2, Value.int a0_3, Value.int a0_4, Value.int a0_5, Value.int a0_6, Value.int a0_7, Value.int a0_8, Value.int a0_9, Value.int a0_10, a0g_11, Value.ref a0_12, Value.int 0, a0g_14, a0g_15, Value.ref a0_16, a0g_17, a0g_18, a0g_19, a0g_20, a0g_21, a0g_22, a0g_23, a0g_24, a0g_25, a0g_26, a0g_27, a0g_28, a0g_29, a0g_30, a0g_31, a0g_32, a0g_33, a0g_34, a0g_35, a0g_36, a0g_37, a0g_38, a0g_39])), (a0_1, .inl (ka0_1, 900, .inl (fa0_1))), (a0_12, .inl (ka0_12, 8, .inl (fa0_12)))]) hP hD hS hA [0, 2, 3] (by decide +kernel) rfl (fun hPc hDc hFc hCc => ?_)
  have hKc := hK.sub (tys' := [(ka0_1, .int), (ka0_12, .int)]) [1, 2] rfl
  refine va_calli (va_runV (As := [.int 0, .int r24]) (rest := []) ⟨hx, hb, hml, hown, hts⟩ (fG_X8_number l dC dI H.size a0 0 r24 a0g_0 a0g_2 a0g_11 a0g_14 a0g_15 (Value.ref a0_16) a0g_17 a0g_18 a0g_19 a0g_20 a0g_21 a0g_22 a0g_23 a0g_24 a0g_25 a0g_26 a0g_27 a0g_28 a0g_29 a0g_30 a0g_31 a0g_32 a0g_33 a0g_34 a0g_35 a0g_36 a0g_37 a0g_38 a0g_39 a0_1 a0_3 a0_4 a0_5 a0_6 a0_7 a0_8 a0_9 a0_10 a0_12 ka0_1 fa0_1 ka0_12 fa0_12 ba0_3_l ba0_3_u ba0_5_l ba0_5_u ba0_8_l ba0_8_u) (cwV 2 hts gX8_seenLine_X8_number rfl rfl rfl zd_X8_number ⟨Nat.le_of_ble_eq_true rfl, Nat.le_of_ble_eq_true rfl⟩) ⟨ax_blind (fun _ _ _ _ _ => trivial), zr_8 hKc hPc (q0 := 0) rfl, ax_pre hPc hKc hDc (fun _ _ => trivial)⟩ rfl rfl hl.1 rfl (lv_room (Nat.le_of_ble_eq_true rfl)) dX8_seenLine_27 ⟨Nat.le_of_ble_eq_true rfl, Nat.le_of_ble_eq_true rfl⟩) hS (fun q _ h => hFc q h) hFc (fun r27 v27na0_13 t H1 locs ht hvm hw => zx_8 (fun v27na0_4 v27na0_5 v27na0_6 v27na0_7 v27na0_8 v27na0_9 v27na0_10 v27nfa0_12 => zy_5 (fun bv27na0_5 bv27na0_8 bv27na0_13 hraw27_0 hraw27_1 hB hz1 hk1 hS1 => zo hB ht hS1 (fun hP1 hK1 hD1 hS => ?_))))
  refine zc_backc (w := [(a0, .inr (8, [a0g_0, Value.ref a0_1, a0g_2, Value.int a0_3, Value.int v27na0_4, Value.int v27na0_5, Value.int v27na0_6, Value.int v27na0_7, Value.int v27na0_8, Value.int v27na0_9, Value.int v27na0_10, a0g_11, Value.ref a0_12, Value.int v27na0_13, a0g_14, a0g_15, Value.ref a0_16, a0g_17, a0g_18, a0g_19, a0g_20, a0g_21, a0g_22, a0g_23, a0g_24, a0g_25, a0g_26, a0g_27, a0g_28, a0g_29, a0g_30, a0g_31, a0g_32, a0g_33, a0g_34, a0g_35, a0g_36, a0g_37, a0g_38, a0g_39])), (a0_16, .inl (ka0_16, 156, .inl (fa0_16))), (a0_1, .inl (ka0_1, 900, .inl (fa0_1))), (a0_12, .inl (ka0_12, 8, .inl (v27nfa0_12)))]) hP hD hCc hk1 hFc hP1 hD1 [.inr 0, .inl 1, .inr 1, .inr 2] (by decide +kernel) rfl (fun hP hD => ?_)
  generalize H1 = H at hP hS ⊢
  obtain ⟨hw, hfr27⟩ := hw
  rw [show (0 : Int32).toInt = 0 from by decide] at hfr27 hraw27_1
  have hc27 : FfG_X8_number 0 r24.toInt a0_3.toInt a0_4.toInt a0_5.toInt a0_6.toInt a0_7.toInt a0_8.toInt a0_9.toInt a0_10.toInt (fl_A fa0_1) (fl_A fa0_12) = (r27.toInt, v27na0_4.toInt, v27na0_5.toInt, v27na0_6.toInt, v27na0_7.toInt, v27na0_8.toInt, v27na0_9.toInt, v27na0_10.toInt, v27na0_13.toInt, (fl_A v27nfa0_12)) := Prod.ext hfr27.symm hraw27_1
  have hF0 := hF0.trans (fl_c10_eq hc27)
  rcases hw with hw | hw
  · obtain ⟨hw, h27⟩ := hw
    subst hw
    have hF0 := hF0.trans (if_pos (by decide))
    refine lv_istore_n (lv' := [(2, .int r27), (1, .int x19), (0, .ref a0)]) hx hb dX8_seenLine_30 rfl hl (by decide) rfl (fun ls hl => ?_)
    refine lv_aload_n hx hb dX8_seenLine_31 rfl (lv_at hl 2 rfl) ?_
    refine va_ldcS hx hb hown (sxc_R35 hE0) dX8_seenLine_32 ?_
    refine va_callv (va_runV (As := [.ref (ad 35)]) (rest := []) ⟨hx, hb, hml, hown, hts⟩ (fF_X8_must l dC dI H.size a0 (ad 35) a0g_0 (Value.ref a0_1) a0g_2 (Value.int a0_3) (Value.int v27na0_4) (Value.int v27na0_5) (Value.int v27na0_6) (Value.int v27na0_7) (Value.int v27na0_8) (Value.int v27na0_9) (Value.int v27na0_10) a0g_11 (Value.ref a0_12) a0g_14 a0g_15 (Value.ref a0_16) a0g_17 a0g_18 a0g_19 a0g_20 a0g_21 a0g_22 a0g_23 a0g_24 a0g_25 a0g_26 a0g_27 a0g_28 a0g_29 a0g_30 a0g_31 a0g_32 a0g_33 a0g_34 a0g_35 a0g_36 a0g_37 a0g_38 a0g_39 2 (sxc 35) ) (cwV 1 hts gX8_seenLine_X8_must rfl rfl rfl zd_X8_must ⟨Nat.le_of_ble_eq_true rfl, Nat.le_of_ble_eq_true rfl⟩) ⟨ax_blind (fun _ _ _ _ hq => sxc_W_same _ _ _ _ (hq)), zr_8 (zp_K hK) (zp_P1 hP) (q0 := 0) rfl, ax_preE (zp_P1 hP) (zp_K hK) (zp_D1 hD) (fun U hU hW => sxc_W_to (sxc_T_w hE0 (i := 35) (by decide)) hS.2.1 (zp_F1 hD hS hA) hU hW)⟩ rfl rfl hl.1 rfl (lv_room (Nat.le_of_ble_eq_true rfl)) dX8_seenLine_34 ⟨Nat.le_of_ble_eq_true rfl, Nat.le_of_ble_eq_true rfl⟩) hS (fun q _ h => zp_F1 hD hS hA q h) (zp_F1 hD hS hA) (fun u t H locs ht hvm hw hB hz1 hk1 hS1 => zo1 hB ht hP hD hk1 (zp_F1 hD hS hA) hS1 (fun hP hK1 hD hS => ?_))
    refine lv_aload_n hx hb dX8_seenLine_37 rfl (lv_at hl 2 rfl) ?_
    refine lv_iconst (v := 0) hx hb dX8_seenLine_38 zk_iconst_0 ?_
    refine lv_sipush (v := 999) hx hb dX8_seenLine_39 zk_sipush_999 ?_
    refine va_calli (va_runV (As := [.int 0, .int 999]) (rest := []) ⟨hx, hb, hml, hown, hts⟩ (fF_X8_numberHere l dC dI H.size a0 0 999 a0g_0 (Value.ref a0_1) a0g_2 (Value.int a0_3) (Value.int v27na0_4) (Value.int v27na0_5) (Value.int v27na0_6) (Value.int v27na0_7) (Value.int v27na0_8) (Value.int v27na0_9) (Value.int v27na0_10) a0g_11 (Value.ref a0_12) a0g_14 a0g_15 (Value.ref a0_16) a0g_17 a0g_18 a0g_19 a0g_20 a0g_21 a0g_22 a0g_23 a0g_24 a0g_25 a0g_26 a0g_27 a0g_28 a0g_29 a0g_30 a0g_31 a0g_32 a0g_33 a0g_34 a0g_35 a0g_36 a0g_37 a0g_38 a0g_39 ) (cwV 2 hts gX8_seenLine_X8_numberHere rfl rfl rfl zd_X8_numberHere ⟨Nat.le_of_ble_eq_true rfl, Nat.le_of_ble_eq_true rfl⟩) ⟨ax_blind (fun _ _ _ _ _ => trivial), zr_8 (zp_K hK) (zp_P1 hP) (q0 := 0) rfl, ax_pre (zp_P1 hP) (zp_K hK) (zp_D1 hD) (fun _ _ => trivial)⟩ rfl rfl hl.1 rfl (lv_room (Nat.le_of_ble_eq_true rfl)) dX8_seenLine_42 ⟨Nat.le_of_ble_eq_true rfl, Nat.le_of_ble_eq_true rfl⟩) hS (fun q _ h => zp_F1 hD hS hA q h) (zp_F1 hD hS hA) (fun r42 u t H locs ht hvm hw hB hz1 hk1 hS1 => zo1 hB ht hP hD hk1 (zp_F1 hD hS hA) hS1 (fun hP hK1 hD hS => ?_))
    obtain ⟨hw, hfr42⟩ := hw
    rw [show (0 : Int32).toInt = 0 from by decide] at hfr42
    have hc42 : FfF_X8_numberHere 0 = r42.toInt := hfr42.symm
    have hF0 := hF0.trans (fl_lt_eq hc42.symm)
    have hw : r42 = 0 := hw
    have hw := hw.symm
    subst hw
    refine lv_istore_n (lv' := [(3, .int 0), (2, .int r27), (1, .int x19), (0, .ref a0)]) hx hb dX8_seenLine_45 rfl hl (by decide) rfl (fun ls hl => ?_)
    refine lv_iconst (v := 0) hx hb dX8_seenLine_46 zk_iconst_0 ?_
    refine lv_istore (lv' := [(4, .int 0), (3, .int 0), (2, .int r27), (1, .int x19), (0, .ref a0)]) hx hb dX8_seenLine_47 hl (by decide) rfl (fun ls hl => ?_)
    have J49 : ∀ (n : Nat) (j49l4 : Int32) (j49l3 : Int32) (j49a0_4 : Int32) (j49a0_5 : Int32) (j49a0_6 : Int32) (j49a0_7 : Int32) (j49a0_8 : Int32) (j49a0_9 : Int32) (j49a0_10 : Int32) (j49a0_13 : Int32) (j49a0_12_a : Nat → Int32) (H : Heap) (locs : List Loc) (ls : Array Slot), (6 : Int) - j49l4.toInt ≤ (n : Int) → (0 : Int) ≤ j49l4.toInt → j49l4.toInt ≤ (5 : Int) → (0 : Int) ≤ j49l3.toInt → j49l3.toInt ≤ (999 : Int) → (0 : Int) ≤ j49a0_5.toInt → j49a0_5.toInt ≤ (900 : Int) → (0 : Int) ≤ j49a0_8.toInt → j49a0_8.toInt ≤ (900 : Int) → (0 : Int) ≤ j49a0_13.toInt → j49a0_13.toInt ≤ (1 : Int) → (a0_5.toInt ≤ j49a0_5.toInt ∧ ((j49a0_5.toInt = a0_5.toInt ∧ j49a0_6.toInt = a0_6.toInt) ∨ j49a0_6.toInt ≠ 59 ∨ a0_5.toInt < j49a0_5.toInt)) → ((0 : Int) ≤ r27.toInt ∧ r27.toInt ≤ 8) → ((0 : Int) ≤ j49l3.toInt ∧ j49l3.toInt ≤ 999) → (FX = fl_wh (fun t9 => SfG_X8_seenLine_49_1 a0_3.toInt (fl_A fa0_16) (fl_A fa0_1) x19.toInt r27.toInt t9.1 t9.2.1 t9.2.2.1 t9.2.2.2.1 t9.2.2.2.2.1 t9.2.2.2.2.2.1 t9.2.2.2.2.2.2.1 t9.2.2.2.2.2.2.2.1 t9.2.2.2.2.2.2.2.2.1 t9.2.2.2.2.2.2.2.2.2.1 t9.2.2.2.2.2.2.2.2.2.2) (0, 0, 0, 0, 0, 0, 0, 0, (fun _ => 0), (fun _ => 0)) n (j49l4.toInt, j49l3.toInt, j49a0_4.toInt, j49a0_5.toInt, j49a0_6.toInt, j49a0_7.toInt, j49a0_8.toInt, j49a0_9.toInt, j49a0_10.toInt, j49a0_13.toInt, (fl_A j49a0_12_a))) → va_P (dC, dI) vwCl [(a0, .inr (8, [a0g_0, Value.ref a0_1, a0g_2, Value.int a0_3, Value.int j49a0_4, Value.int j49a0_5, Value.int j49a0_6, Value.int j49a0_7, Value.int j49a0_8, Value.int j49a0_9, Value.int j49a0_10, a0g_11, Value.ref a0_12, Value.int j49a0_13, a0g_14, a0g_15, Value.ref a0_16, a0g_17, a0g_18, a0g_19, a0g_20, a0g_21, a0g_22, a0g_23, a0g_24, a0g_25, a0g_26, a0g_27, a0g_28, a0g_29, a0g_30, a0g_31, a0g_32, a0g_33, a0g_34, a0g_35, a0g_36, a0g_37, a0g_38, a0g_39])), (a0_16, .inl (ka0_16, 156, .inl (fa0_16))), (a0_1, .inl (ka0_1, 900, .inl (fa0_1))), (a0_12, .inl (ka0_12, 8, .inl (j49a0_12_a)))] H → va_D A [(a0, .inr (8, [a0g_0, Value.ref a0_1, a0g_2, Value.int a0_3, Value.int j49a0_4, Value.int j49a0_5, Value.int j49a0_6, Value.int j49a0_7, Value.int j49a0_8, Value.int j49a0_9, Value.int j49a0_10, a0g_11, Value.ref a0_12, Value.int j49a0_13, a0g_14, a0g_15, Value.ref a0_16, a0g_17, a0g_18, a0g_19, a0g_20, a0g_21, a0g_22, a0g_23, a0g_24, a0g_25, a0g_26, a0g_27, a0g_28, a0g_29, a0g_30, a0g_31, a0g_32, a0g_33, a0g_34, a0g_35, a0g_36, a0g_37, a0g_38, a0g_39])), (a0_16, .inl (ka0_16, 156, .inl (fa0_16))), (a0_1, .inl (ka0_1, 900, .inl (fa0_1))), (a0_12, .inl (ka0_12, 8, .inl (j49a0_12_a)))] → va_S A s.heap H locs → lv_has ls 5 [(0, .ref a0), (1, .int x19), (2, .int r27), (3, .int j49l3), (4, .int j49l4)] → K H locs (F0 m 49 ls []) := by
      intro n
      induction n with
      | zero =>
        intro j49l4 j49l3 j49a0_4 j49a0_5 j49a0_6 j49a0_7 j49a0_8 j49a0_9 j49a0_10 j49a0_13 j49a0_12_a H locs ls hm bj49l4_l bj49l4_u bj49l3_l bj49l3_u bj49a0_5_l bj49a0_5_u bj49a0_8_l bj49a0_8_u bj49a0_13_l bj49a0_13_u em49 wa49 wb49 hF0 hP hD hS hl
        first | exact zg_0 hm bj49l4_u (by decide) | (have h8 := ai_min j49l4; have h9 := ai_max j49l4; exact absurd hm (by omega))
      | succ n ih49 =>
        intro j49l4 j49l3 j49a0_4 j49a0_5 j49a0_6 j49a0_7 j49a0_8 j49a0_9 j49a0_10 j49a0_13 j49a0_12_a H locs ls hm bj49l4_l bj49l4_u bj49l3_l bj49l3_u bj49a0_5_l bj49a0_5_u bj49a0_8_l bj49a0_8_u bj49a0_13_l bj49a0_13_u em49 wa49 wb49 hF0 hP hD hS hl
        refine (hK0 _ _ _).mpr ?_
        have hm49 := hm
        obtain ⟨SX49, hSX49⟩ : ∃ q9, SfG_X8_seenLine_49_1 a0_3.toInt (fl_A fa0_16) (fl_A fa0_1) x19.toInt r27.toInt j49l4.toInt j49l3.toInt j49a0_4.toInt j49a0_5.toInt j49a0_6.toInt j49a0_7.toInt j49a0_8.toInt j49a0_9.toInt j49a0_10.toInt j49a0_13.toInt (fl_A j49a0_12_a) = q9 := ⟨_, rfl⟩
        have hF1 := hSX49.symm.trans (SfG_X8_seenLine_49_1.eq_1 a0_3.toInt (fl_A fa0_16) (fl_A fa0_1) x19.toInt r27.toInt j49l4.toInt j49l3.toInt j49a0_4.toInt j49a0_5.toInt j49a0_6.toInt j49a0_7.toInt j49a0_8.toInt j49a0_9.toInt j49a0_10.toInt j49a0_13.toInt (fl_A j49a0_12_a))
        have hv49 : j49a0_13 = 0 ∨ j49a0_13 = 1 := by
          have h1 : (0 : Int) ≤ j49a0_13.toInt := bj49a0_13_l
          have h2 : j49a0_13.toInt ≤ (1 : Int) := bj49a0_13_u
          rcases (show j49a0_13.toInt = 0 ∨ j49a0_13.toInt = 1 by omega) with h | h
          · exact Or.inl (Int32.toInt_inj.mp (h.trans (by decide)))
          · exact Or.inr (Int32.toInt_inj.mp (h.trans (by decide)))
        rcases hv49 with hv49 | hv49
        · subst hv49
          have hF1 := hF1.trans (if_pos (by decide))
          refine lv_iload hx hb dX8_seenLine_49 (lv_at hl 4 rfl) ?_
          refine lv_aload_n hx hb dX8_seenLine_51 rfl (lv_at hl 0 rfl) ?_
          refine va_get (D := (dC, dI)) (ci := 8) (v := .ref a0_16) (C := RX8) (T := TX8) (N := 40) hx hb hts zi_X8_seenLine_8 hown hK hP 0 rfl rfl 16 (by decide) (hts (.fieldLink RX8 23 "WaxTurnsModel" "fresh" "[I") (zm_X8_seenLine_r1 (List.mem_of_getElem? (i := 1) rfl))) (fun _ h9 => h9) rfl dX8_seenLine_52 ?_
          refine lv_bipush (v := 6) hx hb dX8_seenLine_55 zk_bipush_6 ?_
          refine va_iald hx hb hK hP 1 0 rfl rfl (by unfold vp_in; decide +kernel) dX8_seenLine_57 ?_
          refine lv_topi (fun x57 ex57 => ?_)
          have bx57 : (0 : Int) ≤ x57.toInt ∧ x57.toInt ≤ 6 := by rw [ex57]; exact ai_rd bfa0_16.2.2.2.2.2.2.1 zq15 zq16 (by decide) (by decide) (by decide)
          have fqx57 := congrArg Int32.toInt ex57
          have hF1 := hF1.trans (fl_lt_eq (show x57.toInt = (fl_A fa0_16) (6) from fqx57))
          have u57z_x57 : x57.toInt ≤ (5 : Int) := fg_le (m := 6) ex57 h6
          refine lv_icmp_ge (tgt := 101) hx hb dX8_seenLine_58 (by decide) (fun c58 => ?_) (fun c58 => ?_)
          · have gc58 := ai_le c58
            have u58t_x57 : x57.toInt ≤ (5 : Int) := u57z_x57
            have l58t_j49l4 : (0 : Int) ≤ j49l4.toInt := bj49l4_l
            have hF1 := hF1.trans (if_pos (show x57.toInt ≤ j49l4.toInt from gc58))
            have hF0 := hF0.trans (fl_wh_r (hSX49.trans hF1))
            refine lv_aload_n hx hb dX8_seenLine_101 rfl (lv_at hl 0 rfl) ?_
            refine zc_cutc (wc := [(a0, .inr (8, [a0g_0, Value.ref a0_1, a0g_2, Value.int a0_3, Value.int j49a0_4, Value.int j49a0_5, Value.int j49a0_6, Value.int j49a0_7, Value.int j49a0_8, Value.int j49a0_9, Value.int j49a0_10, a0g_11, Value.ref a0_12, Value.int 0, a0g_14, a0g_15, Value.ref a0_16, a0g_17, a0g_18, a0g_19, a0g_20, a0g_21, a0g_22, a0g_23, a0g_24, a0g_25, a0g_26, a0g_27, a0g_28, a0g_29, a0g_30, a0g_31, a0g_32, a0g_33, a0g_34, a0g_35, a0g_36, a0g_37, a0g_38, a0g_39])), (a0_1, .inl (ka0_1, 900, .inl (fa0_1))), (a0_12, .inl (ka0_12, 8, .inl (j49a0_12_a)))]) hP hD hS hA [0, 2, 3] (by decide +kernel) rfl (fun hPc hDc hFc hCc => ?_)
            have hKc := hK.sub (tys' := [(ka0_1, .int), (ka0_12, .int)]) [1, 2] rfl
            refine va_callv (va_runV (As := []) (rest := []) ⟨hx, hb, hml, hown, hts⟩ (fG_X8_pass l dC dI H.size a0 a0g_0 a0g_2 (Value.int j49a0_9) (Value.int j49a0_10) a0g_11 a0g_14 a0g_15 (Value.ref a0_16) a0g_17 a0g_18 a0g_19 a0g_20 a0g_21 a0g_22 a0g_23 a0g_24 a0g_25 a0g_26 a0g_27 a0g_28 a0g_29 a0g_30 a0g_31 a0g_32 a0g_33 a0g_34 a0g_35 a0g_36 a0g_37 a0g_38 a0g_39 a0_1 a0_3 j49a0_4 j49a0_5 j49a0_6 j49a0_7 j49a0_8 a0_12 ka0_1 fa0_1 ka0_12 j49a0_12_a ba0_3_l ba0_3_u bj49a0_5_l bj49a0_5_u bj49a0_8_l bj49a0_8_u) (cwV 0 hts gX8_seenLine_X8_pass rfl rfl rfl zd_X8_pass ⟨Nat.le_of_ble_eq_true rfl, Nat.le_of_ble_eq_true rfl⟩) ⟨ax_blind (fun _ _ _ _ _ => trivial), zr_8 hKc hPc (q0 := 0) rfl, ax_pre hPc hKc hDc (fun _ _ => trivial)⟩ rfl rfl hl.1 rfl (lv_room (Nat.le_of_ble_eq_true rfl)) dX8_seenLine_102 ⟨Nat.le_of_ble_eq_true rfl, Nat.le_of_ble_eq_true rfl⟩) hS (fun q _ h => hFc q h) hFc (fun u t H locs ht hvm hw => zx_6 (fun v102na0_4 v102na0_5 v102na0_6 v102na0_7 v102na0_8 v102nfa0_12 => zy_5 (fun bv102na0_5 bv102na0_8 hraw102_0 hraw102_1 hraw102_2 hB hz1 hk1 hS1 => zo hB ht hS1 (fun hP1 hK1 hD1 hS => ?_))))
            refine zc_backc (w := [(a0, .inr (8, [a0g_0, Value.ref a0_1, a0g_2, Value.int a0_3, Value.int v102na0_4, Value.int v102na0_5, Value.int v102na0_6, Value.int v102na0_7, Value.int v102na0_8, Value.int j49a0_9, Value.int j49a0_10, a0g_11, Value.ref a0_12, Value.int 0, a0g_14, a0g_15, Value.ref a0_16, a0g_17, a0g_18, a0g_19, a0g_20, a0g_21, a0g_22, a0g_23, a0g_24, a0g_25, a0g_26, a0g_27, a0g_28, a0g_29, a0g_30, a0g_31, a0g_32, a0g_33, a0g_34, a0g_35, a0g_36, a0g_37, a0g_38, a0g_39])), (a0_16, .inl (ka0_16, 156, .inl (fa0_16))), (a0_1, .inl (ka0_1, 900, .inl (fa0_1))), (a0_12, .inl (ka0_12, 8, .inl (v102nfa0_12)))]) hP hD hCc hk1 hFc hP1 hD1 [.inr 0, .inl 1, .inr 1, .inr 2] (by decide +kernel) rfl (fun hP hD => ?_)
            have hc102 : FfG_X8_pass a0_3.toInt j49a0_5.toInt (fl_A fa0_1) (fl_A j49a0_12_a) = (v102na0_4.toInt, v102na0_5.toInt, v102na0_6.toInt, v102na0_7.toInt, v102na0_8.toInt, (fl_A v102nfa0_12)) := hraw102_2
            have hF0 := hF0.trans (fl_c6_eq hc102)
            refine lv_aload_n hx hb dX8_seenLine_105 rfl (lv_at hl 0 rfl) ?_
            refine va_get (D := (dC, dI)) (ci := 8) (v := .int 0) (C := RX8) (T := TX8) (N := 40) hx hb hts zi_X8_seenLine_8 hown hK hP 0 rfl rfl 13 (by decide) (hts (.fieldLink RX8 97 "WaxTurnsModel" "failed" "Z") (zm_X8_seenLine_r1 (List.mem_of_getElem? (i := 0) rfl))) (fun _ h9 => h9) rfl dX8_seenLine_106 ?_
            refine lv_if_eq (tgt := 113) hx hb dX8_seenLine_109 (by decide) (fun _ => ?_) (fun c109 => absurd (by decide +kernel) c109)
            refine lv_aload_n hx hb dX8_seenLine_113 rfl (lv_at hl 0 rfl) ?_
            refine va_get (D := (dC, dI)) (ci := 8) (v := .ref a0_16) (C := RX8) (T := TX8) (N := 40) hx hb hts zi_X8_seenLine_8 hown hK hP 0 rfl rfl 16 (by decide) (hts (.fieldLink RX8 23 "WaxTurnsModel" "fresh" "[I") (zm_X8_seenLine_r1 (List.mem_of_getElem? (i := 1) rfl))) (fun _ h9 => h9) rfl dX8_seenLine_114 ?_
            refine lv_iload_n hx hb dX8_seenLine_117 rfl (lv_at hl 1 rfl) ?_
            refine lv_iload_n hx hb dX8_seenLine_118 rfl (lv_at hl 2 rfl) ?_
            refine va_iast hx hb hK hP hD hS 1 0 rfl rfl (ai_in bx19.1 bx19.2 (by decide) (by decide)) dX8_seenLine_119 (fun H locs hP hD hS => ?_)
            obtain ⟨f119, ef119⟩ : ∃ g9 : Nat → Int32, g9 = upd fa0_16 (x19 : Int32).toNatClampNeg r27 := ⟨_, rfl⟩
            refine zs_1 (y := (a0_16, .inl (ka0_16, 156, .inl (f119)))) hP hD (by rw [ef119]) (fun hP hD => ?_)
            have bf119 : ((∀ k : Nat, 0 ≤ k → k ≤ 0 → (0 : Int) ≤ (f119 k).toInt ∧ (f119 k).toInt ≤ 9) ∧ (∀ k : Nat, 1 ≤ k → k ≤ 1 → (0 : Int) ≤ (f119 k).toInt ∧ (f119 k).toInt ≤ 20) ∧ (∀ k : Nat, 2 ≤ k → k ≤ 2 → (0 : Int) ≤ (f119 k).toInt ∧ (f119 k).toInt ≤ 8) ∧ (∀ k : Nat, 3 ≤ k → k ≤ 3 → (0 : Int) ≤ (f119 k).toInt ∧ (f119 k).toInt ≤ 100) ∧ (∀ k : Nat, 4 ≤ k → k ≤ 4 → (0 : Int) ≤ (f119 k).toInt ∧ (f119 k).toInt ≤ 9) ∧ (∀ k : Nat, 5 ≤ k → k ≤ 5 → (0 : Int) ≤ (f119 k).toInt ∧ (f119 k).toInt ≤ 3) ∧ (∀ k : Nat, 6 ≤ k → k ≤ 6 → (0 : Int) ≤ (f119 k).toInt ∧ (f119 k).toInt ≤ 6) ∧ (∀ k : Nat, 7 ≤ k → k ≤ 9 → (0 : Int) ≤ (f119 k).toInt ∧ (f119 k).toInt ≤ 8) ∧ (∀ k : Nat, 10 ≤ k → k ≤ 11 → (0 : Int) ≤ (f119 k).toInt ∧ (f119 k).toInt ≤ 1) ∧ (∀ k : Nat, 12 ≤ k → k ≤ 29 → (0 : Int) ≤ (f119 k).toInt ∧ (f119 k).toInt ≤ 20) ∧ (∀ k : Nat, 30 ≤ k → k ≤ 35 → (0 : Int) ≤ (f119 k).toInt ∧ (f119 k).toInt ≤ 8) ∧ (∀ k : Nat, 36 ≤ k → k ≤ 47 → (0 : Int) ≤ (f119 k).toInt ∧ (f119 k).toInt ≤ 999) ∧ (∀ k : Nat, 48 ≤ k → k ≤ 59 → (0 : Int) ≤ (f119 k).toInt ∧ (f119 k).toInt ≤ 8) ∧ ((1 : Int) ≤ (f119 11).toInt → (2 : Int) ≤ (f119 0).toInt ∧ (1 : Int) ≤ (f119 1).toInt) ∧ (∀ (j i0 i : Int32), (0 : Int) ≤ j.toInt → j.toInt ≤ 8 → i0.toInt = 12 + 2 * j.toInt → i.toInt = 13 + 2 * j.toInt → (f119 i0.toNatClampNeg).toInt = (1 : Int32).toInt → (1 : Int) ≤ (f119 i.toNatClampNeg).toInt)) := by rw [ef119]; exact ⟨ai_updO bfa0_16.1 _ (Or.inr (ai_ngt_of bx19.1 (by decide) (by decide))), ai_updO bfa0_16.2.1 _ (Or.inr (ai_ngt_of bx19.1 (by decide) (by decide))), ai_updO bfa0_16.2.2.1 _ (Or.inr (ai_ngt_of bx19.1 (by decide) (by decide))), ai_updO bfa0_16.2.2.2.1 _ (Or.inr (ai_ngt_of bx19.1 (by decide) (by decide))), ai_updO bfa0_16.2.2.2.2.1 _ (Or.inr (ai_ngt_of bx19.1 (by decide) (by decide))), ai_updO bfa0_16.2.2.2.2.2.1 _ (Or.inr (ai_ngt_of bx19.1 (by decide) (by decide))), ai_updO bfa0_16.2.2.2.2.2.2.1 _ (Or.inr (ai_ngt_of bx19.1 (by decide) (by decide))), ai_updO bfa0_16.2.2.2.2.2.2.2.1 _ (Or.inr (ai_ngt_of bx19.1 (by decide) (by decide))), ai_updO bfa0_16.2.2.2.2.2.2.2.2.1 _ (Or.inr (ai_ngt_of bx19.1 (by decide) (by decide))), ai_updO bfa0_16.2.2.2.2.2.2.2.2.2.1 _ (Or.inr (ai_ngt_of bx19.1 (by decide) (by decide))), ai_updO bfa0_16.2.2.2.2.2.2.2.2.2.2.1 _ (Or.inr (ai_ngt_of bx19.1 (by decide) (by decide))), ai_updS bfa0_16.2.2.2.2.2.2.2.2.2.2.2.1 _ ⟨wa49.1, (Int.le_trans wa49.2 zq189)⟩, ai_updO bfa0_16.2.2.2.2.2.2.2.2.2.2.2.2.1 _ (Or.inl (ai_nlt_of bx19.1 bx19.2 (by decide) (by decide))), fg_o bfa0_16.2.2.2.2.2.2.2.2.2.2.2.2.2.1 (by have h1 := ai_natge (n := 36) bx19.1 (by decide); have h2 := ai_natle (n := 46) bx19.2 (by decide); omega), fg_ko bfa0_16.2.2.2.2.2.2.2.2.2.2.2.2.2.2 (by have h1 := ai_natge (n := 36) bx19.1 (by decide); have h2 := ai_natle (n := 46) bx19.2 (by decide); omega)⟩
            have fqf119 := fl_up_eq ef119
            have hF0 := hF0.trans (fl_lt_eq (show (fl_A f119) = fl_up (fl_A fa0_16) (x19.toInt.toNat) r27.toInt from fqf119))
            refine lv_aload_n hx hb dX8_seenLine_120 rfl (lv_at hl 0 rfl) ?_
            refine va_get (D := (dC, dI)) (ci := 8) (v := .ref a0_16) (C := RX8) (T := TX8) (N := 40) hx hb hts zi_X8_seenLine_8 hown hK hP 0 rfl rfl 16 (by decide) (hts (.fieldLink RX8 23 "WaxTurnsModel" "fresh" "[I") (zm_X8_seenLine_r1 (List.mem_of_getElem? (i := 1) rfl))) (fun _ h9 => h9) rfl dX8_seenLine_121 ?_
            refine lv_iload_n hx hb dX8_seenLine_124 rfl (lv_at hl 1 rfl) ?_
            refine lv_iconst (v := 1) hx hb dX8_seenLine_125 zk_iconst_1 ?_
            refine lv_iadd hx hb dX8_seenLine_126 ?_
            refine lv_topi (fun x126 ex126 => ?_)
            have qx126 : x126.toInt = x19.toInt + (1 : Int32).toInt := ai_add ex126 ⟨bx19.1, bx19.2⟩ ⟨zq1, zq0⟩ (by decide) (by decide)
            have bx126 : (37 : Int) ≤ x126.toInt ∧ x126.toInt ≤ 47 := ⟨by rw [qx126]; exact Int.add_le_add bx19.1 zq1, by rw [qx126]; exact Int.add_le_add bx19.2 zq0⟩
            have wx126 : x126.toInt = x19.toInt + 1 := qx126
            have hF0 := hF0.trans (fl_lt_eq (show x126.toInt = x19.toInt + 1 from qx126))
            refine lv_iload_n hx hb dX8_seenLine_127 rfl (lv_at hl 3 rfl) ?_
            refine va_iast hx hb hK hP hD hS 1 0 rfl rfl (ai_in bx126.1 bx126.2 (by decide) (by decide)) dX8_seenLine_128 (fun H locs hP hD hS => ?_)
            obtain ⟨f128, ef128⟩ : ∃ g9 : Nat → Int32, g9 = upd f119 (x126 : Int32).toNatClampNeg j49l3 := ⟨_, rfl⟩
            refine zs_1 (y := (a0_16, .inl (ka0_16, 156, .inl (f128)))) hP hD (by rw [ef128]) (fun hP hD => ?_)
            have bf128 : ((∀ k : Nat, 0 ≤ k → k ≤ 0 → (0 : Int) ≤ (f128 k).toInt ∧ (f128 k).toInt ≤ 9) ∧ (∀ k : Nat, 1 ≤ k → k ≤ 1 → (0 : Int) ≤ (f128 k).toInt ∧ (f128 k).toInt ≤ 20) ∧ (∀ k : Nat, 2 ≤ k → k ≤ 2 → (0 : Int) ≤ (f128 k).toInt ∧ (f128 k).toInt ≤ 8) ∧ (∀ k : Nat, 3 ≤ k → k ≤ 3 → (0 : Int) ≤ (f128 k).toInt ∧ (f128 k).toInt ≤ 100) ∧ (∀ k : Nat, 4 ≤ k → k ≤ 4 → (0 : Int) ≤ (f128 k).toInt ∧ (f128 k).toInt ≤ 9) ∧ (∀ k : Nat, 5 ≤ k → k ≤ 5 → (0 : Int) ≤ (f128 k).toInt ∧ (f128 k).toInt ≤ 3) ∧ (∀ k : Nat, 6 ≤ k → k ≤ 6 → (0 : Int) ≤ (f128 k).toInt ∧ (f128 k).toInt ≤ 6) ∧ (∀ k : Nat, 7 ≤ k → k ≤ 9 → (0 : Int) ≤ (f128 k).toInt ∧ (f128 k).toInt ≤ 8) ∧ (∀ k : Nat, 10 ≤ k → k ≤ 11 → (0 : Int) ≤ (f128 k).toInt ∧ (f128 k).toInt ≤ 1) ∧ (∀ k : Nat, 12 ≤ k → k ≤ 29 → (0 : Int) ≤ (f128 k).toInt ∧ (f128 k).toInt ≤ 20) ∧ (∀ k : Nat, 30 ≤ k → k ≤ 35 → (0 : Int) ≤ (f128 k).toInt ∧ (f128 k).toInt ≤ 8) ∧ (∀ k : Nat, 36 ≤ k → k ≤ 47 → (0 : Int) ≤ (f128 k).toInt ∧ (f128 k).toInt ≤ 999) ∧ (∀ k : Nat, 48 ≤ k → k ≤ 59 → (0 : Int) ≤ (f128 k).toInt ∧ (f128 k).toInt ≤ 8) ∧ ((1 : Int) ≤ (f128 11).toInt → (2 : Int) ≤ (f128 0).toInt ∧ (1 : Int) ≤ (f128 1).toInt) ∧ (∀ (j i0 i : Int32), (0 : Int) ≤ j.toInt → j.toInt ≤ 8 → i0.toInt = 12 + 2 * j.toInt → i.toInt = 13 + 2 * j.toInt → (f128 i0.toNatClampNeg).toInt = (1 : Int32).toInt → (1 : Int) ≤ (f128 i.toNatClampNeg).toInt)) := by rw [ef128]; exact ⟨ai_updO bf119.1 _ (Or.inr (ai_ngt_of bx126.1 (by decide) (by decide))), ai_updO bf119.2.1 _ (Or.inr (ai_ngt_of bx126.1 (by decide) (by decide))), ai_updO bf119.2.2.1 _ (Or.inr (ai_ngt_of bx126.1 (by decide) (by decide))), ai_updO bf119.2.2.2.1 _ (Or.inr (ai_ngt_of bx126.1 (by decide) (by decide))), ai_updO bf119.2.2.2.2.1 _ (Or.inr (ai_ngt_of bx126.1 (by decide) (by decide))), ai_updO bf119.2.2.2.2.2.1 _ (Or.inr (ai_ngt_of bx126.1 (by decide) (by decide))), ai_updO bf119.2.2.2.2.2.2.1 _ (Or.inr (ai_ngt_of bx126.1 (by decide) (by decide))), ai_updO bf119.2.2.2.2.2.2.2.1 _ (Or.inr (ai_ngt_of bx126.1 (by decide) (by decide))), ai_updO bf119.2.2.2.2.2.2.2.2.1 _ (Or.inr (ai_ngt_of bx126.1 (by decide) (by decide))), ai_updO bf119.2.2.2.2.2.2.2.2.2.1 _ (Or.inr (ai_ngt_of bx126.1 (by decide) (by decide))), ai_updO bf119.2.2.2.2.2.2.2.2.2.2.1 _ (Or.inr (ai_ngt_of bx126.1 (by decide) (by decide))), ai_updS bf119.2.2.2.2.2.2.2.2.2.2.2.1 _ ⟨wb49.1, wb49.2⟩, ai_updO bf119.2.2.2.2.2.2.2.2.2.2.2.2.1 _ (Or.inl (ai_nlt_of bx126.1 bx126.2 (by decide) (by decide))), fg_o bf119.2.2.2.2.2.2.2.2.2.2.2.2.2.1 (by have h1 := ai_natge (n := 37) bx126.1 (by decide); have h2 := ai_natle (n := 47) bx126.2 (by decide); omega), fg_ko bf119.2.2.2.2.2.2.2.2.2.2.2.2.2.2 (by have h1 := ai_natge (n := 37) bx126.1 (by decide); have h2 := ai_natle (n := 47) bx126.2 (by decide); omega)⟩
            have fqf128 := fl_up_eq ef128
            have hF0 := hF0.trans (fl_lt_eq (show (fl_A f128) = fl_up (fl_A f119) (x126.toInt.toNat) j49l3.toInt from fqf128))
            refine lv_aload_n hx hb dX8_seenLine_129 rfl (lv_at hl 0 rfl) ?_
            refine va_get (D := (dC, dI)) (ci := 8) (v := .ref a0_16) (C := RX8) (T := TX8) (N := 40) hx hb hts zi_X8_seenLine_8 hown hK hP 0 rfl rfl 16 (by decide) (hts (.fieldLink RX8 23 "WaxTurnsModel" "fresh" "[I") (zm_X8_seenLine_r1 (List.mem_of_getElem? (i := 1) rfl))) (fun _ h9 => h9) rfl dX8_seenLine_130 ?_
            refine lv_bipush (v := 6) hx hb dX8_seenLine_133 zk_bipush_6 ?_
            refine lv_dup2_11 hx hb dX8_seenLine_135 rfl rfl ?_
            refine va_iald hx hb hK hP 1 0 rfl rfl (by unfold vp_in; decide +kernel) dX8_seenLine_136 ?_
            refine lv_topi (fun x136 ex136 => ?_)
            have bx136 : (0 : Int) ≤ x136.toInt ∧ x136.toInt ≤ 6 := by rw [ex136]; exact ai_rd bf128.2.2.2.2.2.2.1 zq15 zq16 (by decide) (by decide) (by decide)
            have fqx136 := congrArg Int32.toInt ex136
            have hF0 := hF0.trans (fl_lt_eq (show x136.toInt = (fl_A f128) (6) from fqx136))
            have u136z_x136 : x136.toInt ≤ (5 : Int) := fg_le (m := 6) ex136 (by have uef128 := fg_u ef128 (by omega) (m := 6) (by omega); rw [uef128]; have uef119 := fg_u ef119 (by omega) (m := 6) (by omega); rw [uef119]; exact h6)
            refine lv_iconst (v := 1) hx hb dX8_seenLine_137 zk_iconst_1 ?_
            refine lv_iadd hx hb dX8_seenLine_138 ?_
            refine lv_topi (fun x138 ex138 => ?_)
            have qx138 : x138.toInt = x136.toInt + (1 : Int32).toInt := ai_add ex138 ⟨bx136.1, u136z_x136⟩ ⟨zq1, zq0⟩ (by decide) (by decide)
            have bx138 : (1 : Int) ≤ x138.toInt ∧ x138.toInt ≤ 6 := ⟨by rw [qx138]; exact Int.add_le_add bx136.1 zq1, by rw [qx138]; exact Int.add_le_add u136z_x136 zq0⟩
            have wx138 : x138.toInt = x136.toInt + 1 := qx138
            have hF0 := hF0.trans (fl_lt_eq (show x138.toInt = x136.toInt + 1 from qx138))
            refine va_iast hx hb hK hP hD hS 1 0 rfl rfl (by unfold vp_in; decide +kernel) dX8_seenLine_139 (fun H locs hP hD hS => ?_)
            obtain ⟨f139, ef139⟩ : ∃ g9 : Nat → Int32, g9 = upd f128 (6 : Int32).toNatClampNeg x138 := ⟨_, rfl⟩
            refine zs_1 (y := (a0_16, .inl (ka0_16, 156, .inl (f139)))) hP hD (by rw [ef139]) (fun hP hD => ?_)
            have bf139 : ((∀ k : Nat, 0 ≤ k → k ≤ 0 → (0 : Int) ≤ (f139 k).toInt ∧ (f139 k).toInt ≤ 9) ∧ (∀ k : Nat, 1 ≤ k → k ≤ 1 → (0 : Int) ≤ (f139 k).toInt ∧ (f139 k).toInt ≤ 20) ∧ (∀ k : Nat, 2 ≤ k → k ≤ 2 → (0 : Int) ≤ (f139 k).toInt ∧ (f139 k).toInt ≤ 8) ∧ (∀ k : Nat, 3 ≤ k → k ≤ 3 → (0 : Int) ≤ (f139 k).toInt ∧ (f139 k).toInt ≤ 100) ∧ (∀ k : Nat, 4 ≤ k → k ≤ 4 → (0 : Int) ≤ (f139 k).toInt ∧ (f139 k).toInt ≤ 9) ∧ (∀ k : Nat, 5 ≤ k → k ≤ 5 → (0 : Int) ≤ (f139 k).toInt ∧ (f139 k).toInt ≤ 3) ∧ (∀ k : Nat, 6 ≤ k → k ≤ 6 → (0 : Int) ≤ (f139 k).toInt ∧ (f139 k).toInt ≤ 6) ∧ (∀ k : Nat, 7 ≤ k → k ≤ 9 → (0 : Int) ≤ (f139 k).toInt ∧ (f139 k).toInt ≤ 8) ∧ (∀ k : Nat, 10 ≤ k → k ≤ 11 → (0 : Int) ≤ (f139 k).toInt ∧ (f139 k).toInt ≤ 1) ∧ (∀ k : Nat, 12 ≤ k → k ≤ 29 → (0 : Int) ≤ (f139 k).toInt ∧ (f139 k).toInt ≤ 20) ∧ (∀ k : Nat, 30 ≤ k → k ≤ 35 → (0 : Int) ≤ (f139 k).toInt ∧ (f139 k).toInt ≤ 8) ∧ (∀ k : Nat, 36 ≤ k → k ≤ 47 → (0 : Int) ≤ (f139 k).toInt ∧ (f139 k).toInt ≤ 999) ∧ (∀ k : Nat, 48 ≤ k → k ≤ 59 → (0 : Int) ≤ (f139 k).toInt ∧ (f139 k).toInt ≤ 8) ∧ ((1 : Int) ≤ (f139 11).toInt → (2 : Int) ≤ (f139 0).toInt ∧ (1 : Int) ≤ (f139 1).toInt) ∧ (∀ (j i0 i : Int32), (0 : Int) ≤ j.toInt → j.toInt ≤ 8 → i0.toInt = 12 + 2 * j.toInt → i.toInt = 13 + 2 * j.toInt → (f139 i0.toNatClampNeg).toInt = (1 : Int32).toInt → (1 : Int) ≤ (f139 i.toNatClampNeg).toInt)) := by rw [ef139]; exact ⟨ai_updO bf128.1 _ (Or.inr (ai_ngt_of zq15 (by decide) (by decide))), ai_updO bf128.2.1 _ (Or.inr (ai_ngt_of zq15 (by decide) (by decide))), ai_updO bf128.2.2.1 _ (Or.inr (ai_ngt_of zq15 (by decide) (by decide))), ai_updO bf128.2.2.2.1 _ (Or.inr (ai_ngt_of zq15 (by decide) (by decide))), ai_updO bf128.2.2.2.2.1 _ (Or.inr (ai_ngt_of zq15 (by decide) (by decide))), ai_updO bf128.2.2.2.2.2.1 _ (Or.inr (ai_ngt_of zq15 (by decide) (by decide))), ai_updS bf128.2.2.2.2.2.2.1 _ ⟨(Int.le_trans zq4 bx138.1), bx138.2⟩, ai_updO bf128.2.2.2.2.2.2.2.1 _ (Or.inl (ai_nlt_of zq15 zq16 (by decide) (by decide))), ai_updO bf128.2.2.2.2.2.2.2.2.1 _ (Or.inl (ai_nlt_of zq15 zq16 (by decide) (by decide))), ai_updO bf128.2.2.2.2.2.2.2.2.2.1 _ (Or.inl (ai_nlt_of zq15 zq16 (by decide) (by decide))), ai_updO bf128.2.2.2.2.2.2.2.2.2.2.1 _ (Or.inl (ai_nlt_of zq15 zq16 (by decide) (by decide))), ai_updO bf128.2.2.2.2.2.2.2.2.2.2.2.1 _ (Or.inl (ai_nlt_of zq15 zq16 (by decide) (by decide))), ai_updO bf128.2.2.2.2.2.2.2.2.2.2.2.2.1 _ (Or.inl (ai_nlt_of zq15 zq16 (by decide) (by decide))), fg_o bf128.2.2.2.2.2.2.2.2.2.2.2.2.2.1 (by decide +kernel), fg_ko bf128.2.2.2.2.2.2.2.2.2.2.2.2.2.2 (by decide +kernel)⟩
            have kf139_6 : f139 6 = x138 := by rw [ef139]; exact ai_k1 (by decide +kernel)
            have fqf139 := fl_up_eq ef139
            have hF0 := hF0.trans (fl_lt_eq (show (fl_A f139) = fl_up (fl_A f128) (6) x138.toInt from fqf139))
            have hFe : FX = (v102na0_4.toInt, v102na0_5.toInt, v102na0_6.toInt, v102na0_7.toInt, v102na0_8.toInt, j49a0_9.toInt, j49a0_10.toInt, 0, (fl_A f139), (fl_A v102nfa0_12)) := hF0
            exact W.vret hx hb hr (fun t ht hW => ⟨⟨(), rfl, trivial, v102na0_4, v102na0_5, v102na0_6, v102na0_7, v102na0_8, j49a0_9, j49a0_10, 0, f139, v102nfa0_12, ⟨bv102na0_5.1, bv102na0_5.2⟩, ⟨bv102na0_8.1, bv102na0_8.2⟩, ⟨zq5, Int.le_trans zq6 (by decide)⟩, bf139, (Or.inr rfl), (em_t em49 hraw102_1), hFe, by rw [ht]; exact hP, va_K.moved hW.alike hK, hD⟩, hS.F ht⟩) hS.2.2 dX8_seenLine_140
          · have gc58 := ai_nle c58
            have u58f_j49l4 : j49l4.toInt ≤ (4 : Int) := ai_lthi gc58 u57z_x57
            have l58f_x57 : (1 : Int) ≤ x57.toInt := ai_ltlo gc58 bj49l4_l
            have hF1 := hF1.trans (if_neg (show ¬ (x57.toInt ≤ j49l4.toInt) from Int.not_le.mpr gc58))
            refine lv_aload_n hx hb dX8_seenLine_61 rfl (lv_at hl 0 rfl) ?_
            refine va_get (D := (dC, dI)) (ci := 8) (v := .int 0) (C := RX8) (T := TX8) (N := 40) hx hb hts zi_X8_seenLine_8 hown hK hP 0 rfl rfl 13 (by decide) (hts (.fieldLink RX8 97 "WaxTurnsModel" "failed" "Z") (zm_X8_seenLine_r1 (List.mem_of_getElem? (i := 0) rfl))) (fun _ h9 => h9) rfl dX8_seenLine_62 ?_
            refine lv_if_ne (tgt := 95) hx hb dX8_seenLine_65 (by decide) (fun c65 => absurd (by decide +kernel) c65) (fun _ => ?_)
            refine lv_aload_n hx hb dX8_seenLine_68 rfl (lv_at hl 0 rfl) ?_
            refine va_get (D := (dC, dI)) (ci := 8) (v := .ref a0_16) (C := RX8) (T := TX8) (N := 40) hx hb hts zi_X8_seenLine_8 hown hK hP 0 rfl rfl 16 (by decide) (hts (.fieldLink RX8 23 "WaxTurnsModel" "fresh" "[I") (zm_X8_seenLine_r1 (List.mem_of_getElem? (i := 1) rfl))) (fun _ h9 => h9) rfl dX8_seenLine_69 ?_
            refine lv_bipush (v := 36) hx hb dX8_seenLine_72 zk_bipush_36 ?_
            refine lv_iconst (v := 2) hx hb dX8_seenLine_74 zk_iconst_2 ?_
            refine lv_iload hx hb dX8_seenLine_75 (lv_at hl 4 rfl) ?_
            refine lv_imul hx hb dX8_seenLine_77 ?_
            refine lv_topi (fun x77 ex77 => ?_)
            have qx77 : x77.toInt = (2 : Int32).toInt * j49l4.toInt ∧ (0 : Int) ≤ x77.toInt ∧ x77.toInt ≤ 8 := ai_mul ex77 ⟨zq12, zq13⟩ ⟨bj49l4_l, u58f_j49l4⟩ (by decide) (by decide) zq238
            have wx77 : x77.toInt = 2 * j49l4.toInt := qx77.1
            have hF1 := hF1.trans (fl_lt_eq (show x77.toInt = 2 * j49l4.toInt from qx77.1))
            refine lv_iadd hx hb dX8_seenLine_78 ?_
            refine lv_topi (fun x78 ex78 => ?_)
            have qx78 : x78.toInt = (36 : Int32).toInt + x77.toInt := ai_add ex78 ⟨zq182, zq183⟩ ⟨qx77.2.1, qx77.2.2⟩ (by decide) (by decide)
            have bx78 : (36 : Int) ≤ x78.toInt ∧ x78.toInt ≤ 44 := ⟨by rw [qx78]; exact Int.add_le_add zq182 qx77.2.1, by rw [qx78]; exact Int.add_le_add zq183 qx77.2.2⟩
            have wx78 : x78.toInt = 36 + x77.toInt := qx78
            have hF1 := hF1.trans (fl_lt_eq (show x78.toInt = 36 + x77.toInt from qx78))
            refine lv_iconst (v := 1) hx hb dX8_seenLine_79 zk_iconst_1 ?_
            refine lv_iadd hx hb dX8_seenLine_80 ?_
            refine lv_topi (fun x80 ex80 => ?_)
            have qx80 : x80.toInt = x78.toInt + (1 : Int32).toInt := ai_add ex80 ⟨bx78.1, bx78.2⟩ ⟨zq1, zq0⟩ (by decide) (by decide)
            have bx80 : (37 : Int) ≤ x80.toInt ∧ x80.toInt ≤ 45 := ⟨by rw [qx80]; exact Int.add_le_add bx78.1 zq1, by rw [qx80]; exact Int.add_le_add bx78.2 zq0⟩
            have wx80 : x80.toInt = x78.toInt + 1 := qx80
            have hF1 := hF1.trans (fl_lt_eq (show x80.toInt = x78.toInt + 1 from qx80))
            refine va_iald hx hb hK hP 1 0 rfl rfl (ai_in bx80.1 bx80.2 (by decide) (by decide)) dX8_seenLine_81 ?_
            refine lv_topi (fun x81 ex81 => ?_)
            have bx81 : (0 : Int) ≤ x81.toInt ∧ x81.toInt ≤ 999 := by rw [ex81]; exact ai_rd bfa0_16.2.2.2.2.2.2.2.2.2.2.2.1 bx80.1 bx80.2 (by decide) (by decide) (by decide)
            have fqx81 := congrArg Int32.toInt ex81
            have hF1 := hF1.trans (fl_lt_eq (show x81.toInt = (fl_A fa0_16) (x80.toInt.toNat) from fqx81))
            refine lv_iload_n hx hb dX8_seenLine_82 rfl (lv_at hl 3 rfl) ?_
            refine lv_icmp_ne (tgt := 95) hx hb dX8_seenLine_83 (by decide) (fun c83 => ?_) (fun c83 => ?_)
            · have gc83 := ai_ne c83
              have hF1 := hF1.trans (if_neg (show ¬ (x81.toInt = j49l3.toInt) from  gc83))
              obtain ⟨x95, ex95⟩ : ∃ y : Int32, y = j49l4 + Int32.ofInt 1 := ⟨_, rfl⟩
              have qx95 : x95.toInt = j49l4.toInt + 1 := ai_inc ex95 (by decide) (by decide) u58f_j49l4 (by decide)
              have bx95 : (1 : Int) ≤ x95.toInt ∧ x95.toInt ≤ 5 := ⟨by rw [qx95]; exact Int.add_le_add bj49l4_l (Int.le_refl _), by rw [qx95]; exact Int.add_le_add u58f_j49l4 (Int.le_refl _)⟩
              refine lv_iinc (v := x95) (lv' := [(4, .int x95), (0, .ref a0), (1, .int x19), (2, .int r27), (3, .int j49l3)]) hx hb dX8_seenLine_95 hl (k := 4) rfl ex95.symm (by decide) rfl (fun ls hl => ?_)
              have hF1 := hF1.trans (fl_lt_eq (show x95.toInt = j49l4.toInt + 1 from qx95))
              refine lv_goto (tgt := 49) hx hb dX8_seenLine_98 (by decide) ?_
              exact (hK0 _ _ _).mp (ih49 x95 j49l3 j49a0_4 j49a0_5 j49a0_6 j49a0_7 j49a0_8 j49a0_9 j49a0_10 0 j49a0_12_a _ _ _ (by first | exact zg_s hm49 qx95 | (have h0 := qx95; omega)) (Int.le_trans zq4 bx95.1) bx95.2 wb49.1 wb49.2 bj49a0_5_l bj49a0_5_u bj49a0_8_l bj49a0_8_u zq5 (Int.le_trans zq6 zq4) (by omega) ⟨wa49.1, wa49.2⟩ ⟨wb49.1, wb49.2⟩ (by rw [show (0 : Int32).toInt = 0 from by decide]; exact (hF0.trans (fl_wh_l (hSX49.trans hF1)))) hP hD hS (lv_sub hl [1, 2, 3, 4, 0] rfl))
            · have gc83 := ai_eq c83
              have u83f_x81 : x81.toInt ≤ (999 : Int) := bx81.2
              have l83f_x81 : (0 : Int) ≤ x81.toInt := bx81.1
              have u83f_j49l3 : j49l3.toInt ≤ (999 : Int) := wb49.2
              have l83f_j49l3 : (0 : Int) ≤ j49l3.toInt := wb49.1
              have hF1 := hF1.trans (if_pos (show x81.toInt = j49l3.toInt from gc83))
              refine lv_aload_n hx hb dX8_seenLine_86 rfl (lv_at hl 0 rfl) ?_
              refine lv_iconst (v := 3) hx hb dX8_seenLine_87 zk_iconst_3 ?_
              refine lv_aload_n hx hb dX8_seenLine_88 rfl (lv_at hl 0 rfl) ?_
              refine va_get (D := (dC, dI)) (ci := 8) (v := .int j49a0_4) (C := RX8) (T := TX8) (N := 40) hx hb hts zi_X8_seenLine_8 hown hK hP 0 rfl rfl 4 (by decide) (hts (.fieldLink RX8 78 "WaxTurnsModel" "at" "I") (zm_X8_seenLine_r1 (List.mem_of_getElem? (i := 2) rfl))) (fun _ h9 => h9) rfl dX8_seenLine_89 ?_
              refine va_callv (va_runV (As := [.int 3, .int j49a0_4]) (rest := []) ⟨hx, hb, hml, hown, hts⟩ (fG_X8_wrong l dC dI H.size a0 3 j49a0_4 a0g_0 (Value.ref a0_1) a0g_2 (Value.int a0_3) (Value.int j49a0_4) (Value.int j49a0_5) (Value.int j49a0_6) (Value.int j49a0_7) (Value.int j49a0_8) a0g_11 (Value.ref a0_12) a0g_14 a0g_15 (Value.ref a0_16) a0g_17 a0g_18 a0g_19 a0g_20 a0g_21 a0g_22 a0g_23 a0g_24 a0g_25 a0g_26 a0g_27 a0g_28 a0g_29 a0g_30 a0g_31 a0g_32 a0g_33 a0g_34 a0g_35 a0g_36 a0g_37 a0g_38 a0g_39 j49a0_9 j49a0_10 ) (cwV 2 hts gX8_seenLine_X8_wrong rfl rfl rfl zd_X8_wrong ⟨Nat.le_of_ble_eq_true rfl, Nat.le_of_ble_eq_true rfl⟩) ⟨ax_blind (fun _ _ _ _ _ => trivial), zr_8 (zp_K hK) (zp_P1 hP) (q0 := 0) rfl, ax_pre (zp_P1 hP) (zp_K hK) (zp_D1 hD) (fun _ _ => trivial)⟩ rfl rfl hl.1 rfl (lv_room (Nat.le_of_ble_eq_true rfl)) dX8_seenLine_92 ⟨Nat.le_of_ble_eq_true rfl, Nat.le_of_ble_eq_true rfl⟩) hS (fun q _ h => zp_F1 hD hS hA q h) (zp_F1 hD hS hA) (fun u t H locs ht hvm hw => zx_2 (fun v92na0_9 v92na0_10 => zy_1 (fun hraw92_0 hB hz1 hk1 hS1 => zo1 hB ht hP hD hk1 (zp_F1 hD hS hA) hS1 (fun hP hK1 hD hS => ?_))))
              rw [show (3 : Int32).toInt = 3 from by decide] at hraw92_0
              have hc92 : FfG_X8_wrong 3 j49a0_4.toInt = (v92na0_9.toInt, v92na0_10.toInt) := hraw92_0
              have hF1 := hF1.trans (fl_c2_eq hc92)
              obtain ⟨x95, ex95⟩ : ∃ y : Int32, y = j49l4 + Int32.ofInt 1 := ⟨_, rfl⟩
              have qx95 : x95.toInt = j49l4.toInt + 1 := ai_inc ex95 (by decide) (by decide) u58f_j49l4 (by decide)
              have bx95 : (1 : Int) ≤ x95.toInt ∧ x95.toInt ≤ 5 := ⟨by rw [qx95]; exact Int.add_le_add bj49l4_l (Int.le_refl _), by rw [qx95]; exact Int.add_le_add u58f_j49l4 (Int.le_refl _)⟩
              refine lv_iinc (v := x95) (lv' := [(4, .int x95), (0, .ref a0), (1, .int x19), (2, .int r27), (3, .int j49l3)]) hx hb dX8_seenLine_95 hl (k := 4) rfl ex95.symm (by decide) rfl (fun ls hl => ?_)
              have hF1 := hF1.trans (fl_lt_eq (show x95.toInt = j49l4.toInt + 1 from qx95))
              refine lv_goto (tgt := 49) hx hb dX8_seenLine_98 (by decide) ?_
              exact (hK0 _ _ _).mp (ih49 x95 j49l3 j49a0_4 j49a0_5 j49a0_6 j49a0_7 j49a0_8 v92na0_9 v92na0_10 1 j49a0_12_a _ _ _ (by first | exact zg_s hm49 qx95 | (have h0 := qx95; omega)) (Int.le_trans zq4 bx95.1) bx95.2 l83f_j49l3 u83f_j49l3 bj49a0_5_l bj49a0_5_u bj49a0_8_l bj49a0_8_u (Int.le_trans zq4 zq1) zq0 (by omega) ⟨wa49.1, wa49.2⟩ ⟨l83f_j49l3, u83f_j49l3⟩ (by rw [show (1 : Int32).toInt = 1 from by decide]; exact (hF0.trans (fl_wh_l (hSX49.trans hF1)))) hP hD hS (lv_sub hl [1, 2, 3, 4, 0] rfl))
        · subst hv49
          have hF1 := hF1.trans (if_neg (by decide))
          refine lv_iload hx hb dX8_seenLine_49 (lv_at hl 4 rfl) ?_
          refine lv_aload_n hx hb dX8_seenLine_51 rfl (lv_at hl 0 rfl) ?_
          refine va_get (D := (dC, dI)) (ci := 8) (v := .ref a0_16) (C := RX8) (T := TX8) (N := 40) hx hb hts zi_X8_seenLine_8 hown hK hP 0 rfl rfl 16 (by decide) (hts (.fieldLink RX8 23 "WaxTurnsModel" "fresh" "[I") (zm_X8_seenLine_r1 (List.mem_of_getElem? (i := 1) rfl))) (fun _ h9 => h9) rfl dX8_seenLine_52 ?_
          refine lv_bipush (v := 6) hx hb dX8_seenLine_55 zk_bipush_6 ?_
          refine va_iald hx hb hK hP 1 0 rfl rfl (by unfold vp_in; decide +kernel) dX8_seenLine_57 ?_
          refine lv_topi (fun x57 ex57 => ?_)
          have bx57 : (0 : Int) ≤ x57.toInt ∧ x57.toInt ≤ 6 := by rw [ex57]; exact ai_rd bfa0_16.2.2.2.2.2.2.1 zq15 zq16 (by decide) (by decide) (by decide)
          have fqx57 := congrArg Int32.toInt ex57
          have hF1 := hF1.trans (fl_lt_eq (show x57.toInt = (fl_A fa0_16) (6) from fqx57))
          have u57z_x57 : x57.toInt ≤ (5 : Int) := fg_le (m := 6) ex57 h6
          refine lv_icmp_ge (tgt := 101) hx hb dX8_seenLine_58 (by decide) (fun c58 => ?_) (fun c58 => ?_)
          · have gc58 := ai_le c58
            have u58t_x57 : x57.toInt ≤ (5 : Int) := u57z_x57
            have l58t_j49l4 : (0 : Int) ≤ j49l4.toInt := bj49l4_l
            have hF1 := hF1.trans (if_pos (show x57.toInt ≤ j49l4.toInt from gc58))
            have hF0 := hF0.trans (fl_wh_r (hSX49.trans hF1))
            refine lv_aload_n hx hb dX8_seenLine_101 rfl (lv_at hl 0 rfl) ?_
            refine va_callv (va_runV (As := []) (rest := []) ⟨hx, hb, hml, hown, hts⟩ (fF_X8_pass l dC dI H.size a0 a0g_0 (Value.ref a0_1) a0g_2 (Value.int a0_3) (Value.int j49a0_4) (Value.int j49a0_5) (Value.int j49a0_6) (Value.int j49a0_7) (Value.int j49a0_8) (Value.int j49a0_9) (Value.int j49a0_10) a0g_11 (Value.ref a0_12) a0g_14 a0g_15 (Value.ref a0_16) a0g_17 a0g_18 a0g_19 a0g_20 a0g_21 a0g_22 a0g_23 a0g_24 a0g_25 a0g_26 a0g_27 a0g_28 a0g_29 a0g_30 a0g_31 a0g_32 a0g_33 a0g_34 a0g_35 a0g_36 a0g_37 a0g_38 a0g_39 ) (cwV 0 hts gX8_seenLine_X8_pass rfl rfl rfl zd_X8_pass ⟨Nat.le_of_ble_eq_true rfl, Nat.le_of_ble_eq_true rfl⟩) ⟨ax_blind (fun _ _ _ _ _ => trivial), zr_8 (zp_K hK) (zp_P1 hP) (q0 := 0) rfl, ax_pre (zp_P1 hP) (zp_K hK) (zp_D1 hD) (fun _ _ => trivial)⟩ rfl rfl hl.1 rfl (lv_room (Nat.le_of_ble_eq_true rfl)) dX8_seenLine_102 ⟨Nat.le_of_ble_eq_true rfl, Nat.le_of_ble_eq_true rfl⟩) hS (fun q _ h => zp_F1 hD hS hA q h) (zp_F1 hD hS hA) (fun u t H locs ht hvm hw hB hz1 hk1 hS1 => zo1 hB ht hP hD hk1 (zp_F1 hD hS hA) hS1 (fun hP hK1 hD hS => ?_))
            refine lv_aload_n hx hb dX8_seenLine_105 rfl (lv_at hl 0 rfl) ?_
            refine va_get (D := (dC, dI)) (ci := 8) (v := .int 1) (C := RX8) (T := TX8) (N := 40) hx hb hts zi_X8_seenLine_8 hown hK hP 0 rfl rfl 13 (by decide) (hts (.fieldLink RX8 97 "WaxTurnsModel" "failed" "Z") (zm_X8_seenLine_r1 (List.mem_of_getElem? (i := 0) rfl))) (fun _ h9 => h9) rfl dX8_seenLine_106 ?_
            refine lv_if_eq (tgt := 113) hx hb dX8_seenLine_109 (by decide) (fun c109 => absurd c109 (by decide +kernel)) (fun _ => ?_)
            have hFe : FX = (j49a0_4.toInt, j49a0_5.toInt, j49a0_6.toInt, j49a0_7.toInt, j49a0_8.toInt, j49a0_9.toInt, j49a0_10.toInt, 1, (fl_A fa0_16), (fl_A j49a0_12_a)) := hF0
            exact W.vret hx hb hr (fun t ht hW => ⟨⟨(), rfl, trivial, j49a0_4, j49a0_5, j49a0_6, j49a0_7, j49a0_8, j49a0_9, j49a0_10, 1, fa0_16, j49a0_12_a, ⟨bj49a0_5_l, bj49a0_5_u⟩, ⟨bj49a0_8_l, bj49a0_8_u⟩, ⟨Int.le_trans (by decide) zq1, zq0⟩, bfa0_16, (Or.inl rfl), em49, hFe, by rw [ht]; exact hP, va_K.moved hW.alike hK, hD⟩, hS.F ht⟩) hS.2.2 dX8_seenLine_112
          · have gc58 := ai_nle c58
            have u58f_j49l4 : j49l4.toInt ≤ (4 : Int) := ai_lthi gc58 u57z_x57
            have l58f_x57 : (1 : Int) ≤ x57.toInt := ai_ltlo gc58 bj49l4_l
            have hF1 := hF1.trans (if_neg (show ¬ (x57.toInt ≤ j49l4.toInt) from Int.not_le.mpr gc58))
            refine lv_aload_n hx hb dX8_seenLine_61 rfl (lv_at hl 0 rfl) ?_
            refine va_get (D := (dC, dI)) (ci := 8) (v := .int 1) (C := RX8) (T := TX8) (N := 40) hx hb hts zi_X8_seenLine_8 hown hK hP 0 rfl rfl 13 (by decide) (hts (.fieldLink RX8 97 "WaxTurnsModel" "failed" "Z") (zm_X8_seenLine_r1 (List.mem_of_getElem? (i := 0) rfl))) (fun _ h9 => h9) rfl dX8_seenLine_62 ?_
            refine lv_if_ne (tgt := 95) hx hb dX8_seenLine_65 (by decide) (fun _ => ?_) (fun c65 => absurd c65 (by decide +kernel))
            obtain ⟨x95, ex95⟩ : ∃ y : Int32, y = j49l4 + Int32.ofInt 1 := ⟨_, rfl⟩
            have qx95 : x95.toInt = j49l4.toInt + 1 := ai_inc ex95 (by decide) (by decide) u58f_j49l4 (by decide)
            have bx95 : (1 : Int) ≤ x95.toInt ∧ x95.toInt ≤ 5 := ⟨by rw [qx95]; exact Int.add_le_add bj49l4_l (Int.le_refl _), by rw [qx95]; exact Int.add_le_add u58f_j49l4 (Int.le_refl _)⟩
            refine lv_iinc (v := x95) (lv' := [(4, .int x95), (0, .ref a0), (1, .int x19), (2, .int r27), (3, .int j49l3)]) hx hb dX8_seenLine_95 hl (k := 4) rfl ex95.symm (by decide) rfl (fun ls hl => ?_)
            have hF1 := hF1.trans (fl_lt_eq (show x95.toInt = j49l4.toInt + 1 from qx95))
            refine lv_goto (tgt := 49) hx hb dX8_seenLine_98 (by decide) ?_
            exact (hK0 _ _ _).mp (ih49 x95 j49l3 j49a0_4 j49a0_5 j49a0_6 j49a0_7 j49a0_8 j49a0_9 j49a0_10 1 j49a0_12_a _ _ _ (by first | exact zg_s hm49 qx95 | (have h0 := qx95; omega)) (Int.le_trans zq4 bx95.1) bx95.2 wb49.1 wb49.2 bj49a0_5_l bj49a0_5_u bj49a0_8_l bj49a0_8_u (Int.le_trans zq4 zq1) zq0 (by omega) ⟨wa49.1, wa49.2⟩ ⟨wb49.1, wb49.2⟩ (by rw [show (1 : Int32).toInt = 1 from by decide]; exact (hF0.trans (fl_wh_l (hSX49.trans hF1)))) hP hD hS (lv_sub hl [1, 2, 3, 4, 0] rfl))
    exact (hK0 _ _ _).mp (J49 6 0 0 v27na0_4 v27na0_5 v27na0_6 v27na0_7 v27na0_8 v27na0_9 v27na0_10 1 v27nfa0_12 _ _ _ (by first | decide +kernel | (have h1 : (0 : Int) ≤ (0 : Int32).toInt := zq5; have h2 : (0 : Int32).toInt ≤ (0 : Int) := zq6; omega)) zq5 (Int.le_trans zq6 zq224) zq5 (Int.le_trans zq6 zq81) bv27na0_5.1 bv27na0_5.2 bv27na0_8.1 bv27na0_8.2 (Int.le_trans zq4 zq1) zq0 (by omega) ⟨(Int.le_trans zq5 (Int.le_of_eq (congrArg Int32.toInt h27).symm)), (Int.le_trans (Int.le_trans (Int.le_of_eq (congrArg Int32.toInt h27)) zq6) zq20)⟩ ⟨zq5, (Int.le_trans zq6 zq81)⟩ (by rw [show (0 : Int32).toInt = 0 from by decide, show (1 : Int32).toInt = 1 from by decide]; exact hF0) hP hD hS (lv_sub hl [4, 3, 2, 1, 0] rfl))
  · obtain ⟨hw, h27⟩ := hw
    subst hw
    have hF0 := hF0.trans (if_neg (by decide))
    refine lv_istore_n (lv' := [(2, .int r27), (1, .int x19), (0, .ref a0)]) hx hb dX8_seenLine_30 rfl hl (by decide) rfl (fun ls hl => ?_)
    refine lv_aload_n hx hb dX8_seenLine_31 rfl (lv_at hl 2 rfl) ?_
    refine va_ldcS hx hb hown (sxc_R35 hE0) dX8_seenLine_32 ?_
    refine zc_cutc (wc := [(a0, .inr (8, [a0g_0, Value.ref a0_1, a0g_2, Value.int a0_3, Value.int v27na0_4, Value.int v27na0_5, Value.int v27na0_6, Value.int v27na0_7, Value.int v27na0_8, Value.int v27na0_9, Value.int v27na0_10, a0g_11, Value.ref a0_12, Value.int 0, a0g_14, a0g_15, Value.ref a0_16, a0g_17, a0g_18, a0g_19, a0g_20, a0g_21, a0g_22, a0g_23, a0g_24, a0g_25, a0g_26, a0g_27, a0g_28, a0g_29, a0g_30, a0g_31, a0g_32, a0g_33, a0g_34, a0g_35, a0g_36, a0g_37, a0g_38, a0g_39])), (a0_12, .inl (ka0_12, 8, .inl (v27nfa0_12))), (a0_1, .inl (ka0_1, 900, .inl (fa0_1)))]) hP hD hS hA [0, 3, 2] (by decide +kernel) rfl (fun hPc hDc hFc hCc => ?_)
    have hKc := hK.sub (tys' := [(ka0_12, .int), (ka0_1, .int)]) [2, 1] rfl
    refine va_callv (va_runV (As := [.ref (ad 35)]) (rest := []) ⟨hx, hb, hml, hown, hts⟩ (fG_X8_must l dC dI H.size a0 (ad 35) a0g_0 a0g_2 a0g_11 a0g_14 a0g_15 (Value.ref a0_16) a0g_17 a0g_18 a0g_19 a0g_20 a0g_21 a0g_22 a0g_23 a0g_24 a0g_25 a0g_26 a0g_27 a0g_28 a0g_29 a0g_30 a0g_31 a0g_32 a0g_33 a0g_34 a0g_35 a0g_36 a0g_37 a0g_38 a0g_39 a0_1 a0_3 v27na0_4 v27na0_5 v27na0_6 v27na0_7 v27na0_8 v27na0_9 v27na0_10 a0_12 ka0_12 v27nfa0_12 ka0_1 fa0_1 2 (sxc 35) ba0_3_l ba0_3_u bv27na0_5.1 bv27na0_5.2 bv27na0_8.1 bv27na0_8.2) (cwV 1 hts gX8_seenLine_X8_must rfl rfl rfl zd_X8_must ⟨Nat.le_of_ble_eq_true rfl, Nat.le_of_ble_eq_true rfl⟩) ⟨ax_blind (fun _ _ _ _ hq => sxc_W_same _ _ _ _ (hq)), zr_8 hKc hPc (q0 := 0) rfl, ax_preE hPc hKc hDc (fun U hU hW => sxc_W_to (sxc_T_w hE0 (i := 35) (by decide)) hS.2.1 hFc hU hW)⟩ rfl rfl hl.1 rfl (lv_room (Nat.le_of_ble_eq_true rfl)) dX8_seenLine_34 ⟨Nat.le_of_ble_eq_true rfl, Nat.le_of_ble_eq_true rfl⟩) hS (fun q _ h => hFc q h) hFc (fun u t H locs ht hvm hw => zx_9 (fun v34na0_4 v34na0_5 v34na0_6 v34na0_7 v34na0_8 v34na0_9 v34na0_10 v34na0_13 v34nfa0_12 => zy_6 (fun bv34na0_5 bv34na0_8 bv34na0_13 hraw34_0 hraw34_1 hraw34_2 hB hz1 hk1 hS1 => zo hB ht hS1 (fun hP1 hK1 hD1 hS => ?_))))
    refine zc_backc (w := [(a0, .inr (8, [a0g_0, Value.ref a0_1, a0g_2, Value.int a0_3, Value.int v34na0_4, Value.int v34na0_5, Value.int v34na0_6, Value.int v34na0_7, Value.int v34na0_8, Value.int v34na0_9, Value.int v34na0_10, a0g_11, Value.ref a0_12, Value.int v34na0_13, a0g_14, a0g_15, Value.ref a0_16, a0g_17, a0g_18, a0g_19, a0g_20, a0g_21, a0g_22, a0g_23, a0g_24, a0g_25, a0g_26, a0g_27, a0g_28, a0g_29, a0g_30, a0g_31, a0g_32, a0g_33, a0g_34, a0g_35, a0g_36, a0g_37, a0g_38, a0g_39])), (a0_16, .inl (ka0_16, 156, .inl (fa0_16))), (a0_1, .inl (ka0_1, 900, .inl (fa0_1))), (a0_12, .inl (ka0_12, 8, .inl (v34nfa0_12)))]) hP hD hCc hk1 hFc hP1 hD1 [.inr 0, .inl 1, .inr 2, .inr 1] (by decide +kernel) rfl (fun hP hD => ?_)
    rw [show ((2 : Nat) : Int) = 2 from rfl] at hraw34_2
    have hc34 : FfG_X8_must a0_3.toInt v27na0_4.toInt v27na0_5.toInt v27na0_6.toInt v27na0_7.toInt v27na0_8.toInt v27na0_9.toInt v27na0_10.toInt (fl_A v27nfa0_12) (fl_A fa0_1) 2 (fl_A (sxc 35)) = (v34na0_4.toInt, v34na0_5.toInt, v34na0_6.toInt, v34na0_7.toInt, v34na0_8.toInt, v34na0_9.toInt, v34na0_10.toInt, v34na0_13.toInt, (fl_A v34nfa0_12)) := hraw34_2
    have hF0 := hF0.trans (fl_c9_eq hc34)
    rcases hraw34_0 with hf34 | hf34
    · subst hf34
      have hF0 := hF0.trans (if_pos (by decide))
      refine lv_aload_n hx hb dX8_seenLine_37 rfl (lv_at hl 2 rfl) ?_
      refine lv_iconst (v := 0) hx hb dX8_seenLine_38 zk_iconst_0 ?_
      refine lv_sipush (v := 999) hx hb dX8_seenLine_39 zk_sipush_999 ?_
      refine va_calli (va_runV (As := [.int 0, .int 999]) (rest := []) ⟨hx, hb, hml, hown, hts⟩ (fF_X8_numberHere l dC dI H.size a0 0 999 a0g_0 (Value.ref a0_1) a0g_2 (Value.int a0_3) (Value.int v34na0_4) (Value.int v34na0_5) (Value.int v34na0_6) (Value.int v34na0_7) (Value.int v34na0_8) (Value.int v34na0_9) (Value.int v34na0_10) a0g_11 (Value.ref a0_12) a0g_14 a0g_15 (Value.ref a0_16) a0g_17 a0g_18 a0g_19 a0g_20 a0g_21 a0g_22 a0g_23 a0g_24 a0g_25 a0g_26 a0g_27 a0g_28 a0g_29 a0g_30 a0g_31 a0g_32 a0g_33 a0g_34 a0g_35 a0g_36 a0g_37 a0g_38 a0g_39 ) (cwV 2 hts gX8_seenLine_X8_numberHere rfl rfl rfl zd_X8_numberHere ⟨Nat.le_of_ble_eq_true rfl, Nat.le_of_ble_eq_true rfl⟩) ⟨ax_blind (fun _ _ _ _ _ => trivial), zr_8 (zp_K hK) (zp_P1 hP) (q0 := 0) rfl, ax_pre (zp_P1 hP) (zp_K hK) (zp_D1 hD) (fun _ _ => trivial)⟩ rfl rfl hl.1 rfl (lv_room (Nat.le_of_ble_eq_true rfl)) dX8_seenLine_42 ⟨Nat.le_of_ble_eq_true rfl, Nat.le_of_ble_eq_true rfl⟩) hS (fun q _ h => zp_F1 hD hS hA q h) (zp_F1 hD hS hA) (fun r42 u t H locs ht hvm hw hB hz1 hk1 hS1 => zo1 hB ht hP hD hk1 (zp_F1 hD hS hA) hS1 (fun hP hK1 hD hS => ?_))
      obtain ⟨hw, hfr42⟩ := hw
      rw [show (0 : Int32).toInt = 0 from by decide] at hfr42
      have hc42 : FfF_X8_numberHere 0 = r42.toInt := hfr42.symm
      have hF0 := hF0.trans (fl_lt_eq hc42.symm)
      have hw : r42 = 0 := hw
      have hw := hw.symm
      subst hw
      refine lv_istore_n (lv' := [(3, .int 0), (2, .int r27), (1, .int x19), (0, .ref a0)]) hx hb dX8_seenLine_45 rfl hl (by decide) rfl (fun ls hl => ?_)
      refine lv_iconst (v := 0) hx hb dX8_seenLine_46 zk_iconst_0 ?_
      refine lv_istore (lv' := [(4, .int 0), (3, .int 0), (2, .int r27), (1, .int x19), (0, .ref a0)]) hx hb dX8_seenLine_47 hl (by decide) rfl (fun ls hl => ?_)
      have J49 : ∀ (n : Nat) (j49l4 : Int32) (j49l3 : Int32) (j49a0_4 : Int32) (j49a0_5 : Int32) (j49a0_6 : Int32) (j49a0_7 : Int32) (j49a0_8 : Int32) (j49a0_9 : Int32) (j49a0_10 : Int32) (j49a0_13 : Int32) (j49a0_12_a : Nat → Int32) (H : Heap) (locs : List Loc) (ls : Array Slot), (6 : Int) - j49l4.toInt ≤ (n : Int) → (0 : Int) ≤ j49l4.toInt → j49l4.toInt ≤ (5 : Int) → (0 : Int) ≤ j49l3.toInt → j49l3.toInt ≤ (999 : Int) → (0 : Int) ≤ j49a0_5.toInt → j49a0_5.toInt ≤ (900 : Int) → (0 : Int) ≤ j49a0_8.toInt → j49a0_8.toInt ≤ (900 : Int) → (0 : Int) ≤ j49a0_13.toInt → j49a0_13.toInt ≤ (1 : Int) → (a0_5.toInt ≤ j49a0_5.toInt ∧ ((j49a0_5.toInt = a0_5.toInt ∧ j49a0_6.toInt = a0_6.toInt) ∨ j49a0_6.toInt ≠ 59 ∨ a0_5.toInt < j49a0_5.toInt)) → ((0 : Int) ≤ r27.toInt ∧ r27.toInt ≤ 8) → ((0 : Int) ≤ j49l3.toInt ∧ j49l3.toInt ≤ 999) → (FX = fl_wh (fun t9 => SfG_X8_seenLine_49_2 a0_3.toInt (fl_A fa0_16) (fl_A fa0_1) x19.toInt r27.toInt t9.1 t9.2.1 t9.2.2.1 t9.2.2.2.1 t9.2.2.2.2.1 t9.2.2.2.2.2.1 t9.2.2.2.2.2.2.1 t9.2.2.2.2.2.2.2.1 t9.2.2.2.2.2.2.2.2.1 t9.2.2.2.2.2.2.2.2.2.1 t9.2.2.2.2.2.2.2.2.2.2) (0, 0, 0, 0, 0, 0, 0, 0, (fun _ => 0), (fun _ => 0)) n (j49l4.toInt, j49l3.toInt, j49a0_4.toInt, j49a0_5.toInt, j49a0_6.toInt, j49a0_7.toInt, j49a0_8.toInt, j49a0_9.toInt, j49a0_10.toInt, j49a0_13.toInt, (fl_A j49a0_12_a))) → va_P (dC, dI) vwCl [(a0, .inr (8, [a0g_0, Value.ref a0_1, a0g_2, Value.int a0_3, Value.int j49a0_4, Value.int j49a0_5, Value.int j49a0_6, Value.int j49a0_7, Value.int j49a0_8, Value.int j49a0_9, Value.int j49a0_10, a0g_11, Value.ref a0_12, Value.int j49a0_13, a0g_14, a0g_15, Value.ref a0_16, a0g_17, a0g_18, a0g_19, a0g_20, a0g_21, a0g_22, a0g_23, a0g_24, a0g_25, a0g_26, a0g_27, a0g_28, a0g_29, a0g_30, a0g_31, a0g_32, a0g_33, a0g_34, a0g_35, a0g_36, a0g_37, a0g_38, a0g_39])), (a0_16, .inl (ka0_16, 156, .inl (fa0_16))), (a0_1, .inl (ka0_1, 900, .inl (fa0_1))), (a0_12, .inl (ka0_12, 8, .inl (j49a0_12_a)))] H → va_D A [(a0, .inr (8, [a0g_0, Value.ref a0_1, a0g_2, Value.int a0_3, Value.int j49a0_4, Value.int j49a0_5, Value.int j49a0_6, Value.int j49a0_7, Value.int j49a0_8, Value.int j49a0_9, Value.int j49a0_10, a0g_11, Value.ref a0_12, Value.int j49a0_13, a0g_14, a0g_15, Value.ref a0_16, a0g_17, a0g_18, a0g_19, a0g_20, a0g_21, a0g_22, a0g_23, a0g_24, a0g_25, a0g_26, a0g_27, a0g_28, a0g_29, a0g_30, a0g_31, a0g_32, a0g_33, a0g_34, a0g_35, a0g_36, a0g_37, a0g_38, a0g_39])), (a0_16, .inl (ka0_16, 156, .inl (fa0_16))), (a0_1, .inl (ka0_1, 900, .inl (fa0_1))), (a0_12, .inl (ka0_12, 8, .inl (j49a0_12_a)))] → va_S A s.heap H locs → lv_has ls 5 [(0, .ref a0), (1, .int x19), (2, .int r27), (3, .int j49l3), (4, .int j49l4)] → K H locs (F0 m 49 ls []) := by
        intro n
        induction n with
        | zero =>
          intro j49l4 j49l3 j49a0_4 j49a0_5 j49a0_6 j49a0_7 j49a0_8 j49a0_9 j49a0_10 j49a0_13 j49a0_12_a H locs ls hm bj49l4_l bj49l4_u bj49l3_l bj49l3_u bj49a0_5_l bj49a0_5_u bj49a0_8_l bj49a0_8_u bj49a0_13_l bj49a0_13_u em49 wa49 wb49 hF0 hP hD hS hl
          first | exact zg_0 hm bj49l4_u (by decide) | (have h8 := ai_min j49l4; have h9 := ai_max j49l4; exact absurd hm (by omega))
        | succ n ih49 =>
          intro j49l4 j49l3 j49a0_4 j49a0_5 j49a0_6 j49a0_7 j49a0_8 j49a0_9 j49a0_10 j49a0_13 j49a0_12_a H locs ls hm bj49l4_l bj49l4_u bj49l3_l bj49l3_u bj49a0_5_l bj49a0_5_u bj49a0_8_l bj49a0_8_u bj49a0_13_l bj49a0_13_u em49 wa49 wb49 hF0 hP hD hS hl
          refine (hK0 _ _ _).mpr ?_
          have hm49 := hm
          obtain ⟨SX49, hSX49⟩ : ∃ q9, SfG_X8_seenLine_49_2 a0_3.toInt (fl_A fa0_16) (fl_A fa0_1) x19.toInt r27.toInt j49l4.toInt j49l3.toInt j49a0_4.toInt j49a0_5.toInt j49a0_6.toInt j49a0_7.toInt j49a0_8.toInt j49a0_9.toInt j49a0_10.toInt j49a0_13.toInt (fl_A j49a0_12_a) = q9 := ⟨_, rfl⟩
          have hF1 := hSX49.symm.trans (SfG_X8_seenLine_49_2.eq_1 a0_3.toInt (fl_A fa0_16) (fl_A fa0_1) x19.toInt r27.toInt j49l4.toInt j49l3.toInt j49a0_4.toInt j49a0_5.toInt j49a0_6.toInt j49a0_7.toInt j49a0_8.toInt j49a0_9.toInt j49a0_10.toInt j49a0_13.toInt (fl_A j49a0_12_a))
          have hv49 : j49a0_13 = 0 ∨ j49a0_13 = 1 := by
            have h1 : (0 : Int) ≤ j49a0_13.toInt := bj49a0_13_l
            have h2 : j49a0_13.toInt ≤ (1 : Int) := bj49a0_13_u
            rcases (show j49a0_13.toInt = 0 ∨ j49a0_13.toInt = 1 by omega) with h | h
            · exact Or.inl (Int32.toInt_inj.mp (h.trans (by decide)))
            · exact Or.inr (Int32.toInt_inj.mp (h.trans (by decide)))
          rcases hv49 with hv49 | hv49
          · subst hv49
            have hF1 := hF1.trans (if_pos (by decide))
            refine lv_iload hx hb dX8_seenLine_49 (lv_at hl 4 rfl) ?_
            refine lv_aload_n hx hb dX8_seenLine_51 rfl (lv_at hl 0 rfl) ?_
            refine va_get (D := (dC, dI)) (ci := 8) (v := .ref a0_16) (C := RX8) (T := TX8) (N := 40) hx hb hts zi_X8_seenLine_8 hown hK hP 0 rfl rfl 16 (by decide) (hts (.fieldLink RX8 23 "WaxTurnsModel" "fresh" "[I") (zm_X8_seenLine_r1 (List.mem_of_getElem? (i := 1) rfl))) (fun _ h9 => h9) rfl dX8_seenLine_52 ?_
            refine lv_bipush (v := 6) hx hb dX8_seenLine_55 zk_bipush_6 ?_
            refine va_iald hx hb hK hP 1 0 rfl rfl (by unfold vp_in; decide +kernel) dX8_seenLine_57 ?_
            refine lv_topi (fun x57 ex57 => ?_)
            have bx57 : (0 : Int) ≤ x57.toInt ∧ x57.toInt ≤ 6 := by rw [ex57]; exact ai_rd bfa0_16.2.2.2.2.2.2.1 zq15 zq16 (by decide) (by decide) (by decide)
            have fqx57 := congrArg Int32.toInt ex57
            have hF1 := hF1.trans (fl_lt_eq (show x57.toInt = (fl_A fa0_16) (6) from fqx57))
            have u57z_x57 : x57.toInt ≤ (5 : Int) := fg_le (m := 6) ex57 h6
            refine lv_icmp_ge (tgt := 101) hx hb dX8_seenLine_58 (by decide) (fun c58 => ?_) (fun c58 => ?_)
            · have gc58 := ai_le c58
              have u58t_x57 : x57.toInt ≤ (5 : Int) := u57z_x57
              have l58t_j49l4 : (0 : Int) ≤ j49l4.toInt := bj49l4_l
              have hF1 := hF1.trans (if_pos (show x57.toInt ≤ j49l4.toInt from gc58))
              have hF0 := hF0.trans (fl_wh_r (hSX49.trans hF1))
              refine lv_aload_n hx hb dX8_seenLine_101 rfl (lv_at hl 0 rfl) ?_
              refine zc_cutc (wc := [(a0, .inr (8, [a0g_0, Value.ref a0_1, a0g_2, Value.int a0_3, Value.int j49a0_4, Value.int j49a0_5, Value.int j49a0_6, Value.int j49a0_7, Value.int j49a0_8, Value.int j49a0_9, Value.int j49a0_10, a0g_11, Value.ref a0_12, Value.int 0, a0g_14, a0g_15, Value.ref a0_16, a0g_17, a0g_18, a0g_19, a0g_20, a0g_21, a0g_22, a0g_23, a0g_24, a0g_25, a0g_26, a0g_27, a0g_28, a0g_29, a0g_30, a0g_31, a0g_32, a0g_33, a0g_34, a0g_35, a0g_36, a0g_37, a0g_38, a0g_39])), (a0_1, .inl (ka0_1, 900, .inl (fa0_1))), (a0_12, .inl (ka0_12, 8, .inl (j49a0_12_a)))]) hP hD hS hA [0, 2, 3] (by decide +kernel) rfl (fun hPc hDc hFc hCc => ?_)
              have hKc := hK.sub (tys' := [(ka0_1, .int), (ka0_12, .int)]) [1, 2] rfl
              refine va_callv (va_runV (As := []) (rest := []) ⟨hx, hb, hml, hown, hts⟩ (fG_X8_pass l dC dI H.size a0 a0g_0 a0g_2 (Value.int j49a0_9) (Value.int j49a0_10) a0g_11 a0g_14 a0g_15 (Value.ref a0_16) a0g_17 a0g_18 a0g_19 a0g_20 a0g_21 a0g_22 a0g_23 a0g_24 a0g_25 a0g_26 a0g_27 a0g_28 a0g_29 a0g_30 a0g_31 a0g_32 a0g_33 a0g_34 a0g_35 a0g_36 a0g_37 a0g_38 a0g_39 a0_1 a0_3 j49a0_4 j49a0_5 j49a0_6 j49a0_7 j49a0_8 a0_12 ka0_1 fa0_1 ka0_12 j49a0_12_a ba0_3_l ba0_3_u bj49a0_5_l bj49a0_5_u bj49a0_8_l bj49a0_8_u) (cwV 0 hts gX8_seenLine_X8_pass rfl rfl rfl zd_X8_pass ⟨Nat.le_of_ble_eq_true rfl, Nat.le_of_ble_eq_true rfl⟩) ⟨ax_blind (fun _ _ _ _ _ => trivial), zr_8 hKc hPc (q0 := 0) rfl, ax_pre hPc hKc hDc (fun _ _ => trivial)⟩ rfl rfl hl.1 rfl (lv_room (Nat.le_of_ble_eq_true rfl)) dX8_seenLine_102 ⟨Nat.le_of_ble_eq_true rfl, Nat.le_of_ble_eq_true rfl⟩) hS (fun q _ h => hFc q h) hFc (fun u t H locs ht hvm hw => zx_6 (fun v102na0_4 v102na0_5 v102na0_6 v102na0_7 v102na0_8 v102nfa0_12 => zy_5 (fun bv102na0_5 bv102na0_8 hraw102_0 hraw102_1 hraw102_2 hB hz1 hk1 hS1 => zo hB ht hS1 (fun hP1 hK1 hD1 hS => ?_))))
              refine zc_backc (w := [(a0, .inr (8, [a0g_0, Value.ref a0_1, a0g_2, Value.int a0_3, Value.int v102na0_4, Value.int v102na0_5, Value.int v102na0_6, Value.int v102na0_7, Value.int v102na0_8, Value.int j49a0_9, Value.int j49a0_10, a0g_11, Value.ref a0_12, Value.int 0, a0g_14, a0g_15, Value.ref a0_16, a0g_17, a0g_18, a0g_19, a0g_20, a0g_21, a0g_22, a0g_23, a0g_24, a0g_25, a0g_26, a0g_27, a0g_28, a0g_29, a0g_30, a0g_31, a0g_32, a0g_33, a0g_34, a0g_35, a0g_36, a0g_37, a0g_38, a0g_39])), (a0_16, .inl (ka0_16, 156, .inl (fa0_16))), (a0_1, .inl (ka0_1, 900, .inl (fa0_1))), (a0_12, .inl (ka0_12, 8, .inl (v102nfa0_12)))]) hP hD hCc hk1 hFc hP1 hD1 [.inr 0, .inl 1, .inr 1, .inr 2] (by decide +kernel) rfl (fun hP hD => ?_)
              have hc102 : FfG_X8_pass a0_3.toInt j49a0_5.toInt (fl_A fa0_1) (fl_A j49a0_12_a) = (v102na0_4.toInt, v102na0_5.toInt, v102na0_6.toInt, v102na0_7.toInt, v102na0_8.toInt, (fl_A v102nfa0_12)) := hraw102_2
              have hF0 := hF0.trans (fl_c6_eq hc102)
              refine lv_aload_n hx hb dX8_seenLine_105 rfl (lv_at hl 0 rfl) ?_
              refine va_get (D := (dC, dI)) (ci := 8) (v := .int 0) (C := RX8) (T := TX8) (N := 40) hx hb hts zi_X8_seenLine_8 hown hK hP 0 rfl rfl 13 (by decide) (hts (.fieldLink RX8 97 "WaxTurnsModel" "failed" "Z") (zm_X8_seenLine_r1 (List.mem_of_getElem? (i := 0) rfl))) (fun _ h9 => h9) rfl dX8_seenLine_106 ?_
              refine lv_if_eq (tgt := 113) hx hb dX8_seenLine_109 (by decide) (fun _ => ?_) (fun c109 => absurd (by decide +kernel) c109)
              refine lv_aload_n hx hb dX8_seenLine_113 rfl (lv_at hl 0 rfl) ?_
              refine va_get (D := (dC, dI)) (ci := 8) (v := .ref a0_16) (C := RX8) (T := TX8) (N := 40) hx hb hts zi_X8_seenLine_8 hown hK hP 0 rfl rfl 16 (by decide) (hts (.fieldLink RX8 23 "WaxTurnsModel" "fresh" "[I") (zm_X8_seenLine_r1 (List.mem_of_getElem? (i := 1) rfl))) (fun _ h9 => h9) rfl dX8_seenLine_114 ?_
              refine lv_iload_n hx hb dX8_seenLine_117 rfl (lv_at hl 1 rfl) ?_
              refine lv_iload_n hx hb dX8_seenLine_118 rfl (lv_at hl 2 rfl) ?_
              refine va_iast hx hb hK hP hD hS 1 0 rfl rfl (ai_in bx19.1 bx19.2 (by decide) (by decide)) dX8_seenLine_119 (fun H locs hP hD hS => ?_)
              obtain ⟨f119, ef119⟩ : ∃ g9 : Nat → Int32, g9 = upd fa0_16 (x19 : Int32).toNatClampNeg r27 := ⟨_, rfl⟩
              refine zs_1 (y := (a0_16, .inl (ka0_16, 156, .inl (f119)))) hP hD (by rw [ef119]) (fun hP hD => ?_)
              have bf119 : ((∀ k : Nat, 0 ≤ k → k ≤ 0 → (0 : Int) ≤ (f119 k).toInt ∧ (f119 k).toInt ≤ 9) ∧ (∀ k : Nat, 1 ≤ k → k ≤ 1 → (0 : Int) ≤ (f119 k).toInt ∧ (f119 k).toInt ≤ 20) ∧ (∀ k : Nat, 2 ≤ k → k ≤ 2 → (0 : Int) ≤ (f119 k).toInt ∧ (f119 k).toInt ≤ 8) ∧ (∀ k : Nat, 3 ≤ k → k ≤ 3 → (0 : Int) ≤ (f119 k).toInt ∧ (f119 k).toInt ≤ 100) ∧ (∀ k : Nat, 4 ≤ k → k ≤ 4 → (0 : Int) ≤ (f119 k).toInt ∧ (f119 k).toInt ≤ 9) ∧ (∀ k : Nat, 5 ≤ k → k ≤ 5 → (0 : Int) ≤ (f119 k).toInt ∧ (f119 k).toInt ≤ 3) ∧ (∀ k : Nat, 6 ≤ k → k ≤ 6 → (0 : Int) ≤ (f119 k).toInt ∧ (f119 k).toInt ≤ 6) ∧ (∀ k : Nat, 7 ≤ k → k ≤ 9 → (0 : Int) ≤ (f119 k).toInt ∧ (f119 k).toInt ≤ 8) ∧ (∀ k : Nat, 10 ≤ k → k ≤ 11 → (0 : Int) ≤ (f119 k).toInt ∧ (f119 k).toInt ≤ 1) ∧ (∀ k : Nat, 12 ≤ k → k ≤ 29 → (0 : Int) ≤ (f119 k).toInt ∧ (f119 k).toInt ≤ 20) ∧ (∀ k : Nat, 30 ≤ k → k ≤ 35 → (0 : Int) ≤ (f119 k).toInt ∧ (f119 k).toInt ≤ 8) ∧ (∀ k : Nat, 36 ≤ k → k ≤ 47 → (0 : Int) ≤ (f119 k).toInt ∧ (f119 k).toInt ≤ 999) ∧ (∀ k : Nat, 48 ≤ k → k ≤ 59 → (0 : Int) ≤ (f119 k).toInt ∧ (f119 k).toInt ≤ 8) ∧ ((1 : Int) ≤ (f119 11).toInt → (2 : Int) ≤ (f119 0).toInt ∧ (1 : Int) ≤ (f119 1).toInt) ∧ (∀ (j i0 i : Int32), (0 : Int) ≤ j.toInt → j.toInt ≤ 8 → i0.toInt = 12 + 2 * j.toInt → i.toInt = 13 + 2 * j.toInt → (f119 i0.toNatClampNeg).toInt = (1 : Int32).toInt → (1 : Int) ≤ (f119 i.toNatClampNeg).toInt)) := by rw [ef119]; exact ⟨ai_updO bfa0_16.1 _ (Or.inr (ai_ngt_of bx19.1 (by decide) (by decide))), ai_updO bfa0_16.2.1 _ (Or.inr (ai_ngt_of bx19.1 (by decide) (by decide))), ai_updO bfa0_16.2.2.1 _ (Or.inr (ai_ngt_of bx19.1 (by decide) (by decide))), ai_updO bfa0_16.2.2.2.1 _ (Or.inr (ai_ngt_of bx19.1 (by decide) (by decide))), ai_updO bfa0_16.2.2.2.2.1 _ (Or.inr (ai_ngt_of bx19.1 (by decide) (by decide))), ai_updO bfa0_16.2.2.2.2.2.1 _ (Or.inr (ai_ngt_of bx19.1 (by decide) (by decide))), ai_updO bfa0_16.2.2.2.2.2.2.1 _ (Or.inr (ai_ngt_of bx19.1 (by decide) (by decide))), ai_updO bfa0_16.2.2.2.2.2.2.2.1 _ (Or.inr (ai_ngt_of bx19.1 (by decide) (by decide))), ai_updO bfa0_16.2.2.2.2.2.2.2.2.1 _ (Or.inr (ai_ngt_of bx19.1 (by decide) (by decide))), ai_updO bfa0_16.2.2.2.2.2.2.2.2.2.1 _ (Or.inr (ai_ngt_of bx19.1 (by decide) (by decide))), ai_updO bfa0_16.2.2.2.2.2.2.2.2.2.2.1 _ (Or.inr (ai_ngt_of bx19.1 (by decide) (by decide))), ai_updS bfa0_16.2.2.2.2.2.2.2.2.2.2.2.1 _ ⟨wa49.1, (Int.le_trans wa49.2 zq189)⟩, ai_updO bfa0_16.2.2.2.2.2.2.2.2.2.2.2.2.1 _ (Or.inl (ai_nlt_of bx19.1 bx19.2 (by decide) (by decide))), fg_o bfa0_16.2.2.2.2.2.2.2.2.2.2.2.2.2.1 (by have h1 := ai_natge (n := 36) bx19.1 (by decide); have h2 := ai_natle (n := 46) bx19.2 (by decide); omega), fg_ko bfa0_16.2.2.2.2.2.2.2.2.2.2.2.2.2.2 (by have h1 := ai_natge (n := 36) bx19.1 (by decide); have h2 := ai_natle (n := 46) bx19.2 (by decide); omega)⟩
              have fqf119 := fl_up_eq ef119
              have hF0 := hF0.trans (fl_lt_eq (show (fl_A f119) = fl_up (fl_A fa0_16) (x19.toInt.toNat) r27.toInt from fqf119))
              refine lv_aload_n hx hb dX8_seenLine_120 rfl (lv_at hl 0 rfl) ?_
              refine va_get (D := (dC, dI)) (ci := 8) (v := .ref a0_16) (C := RX8) (T := TX8) (N := 40) hx hb hts zi_X8_seenLine_8 hown hK hP 0 rfl rfl 16 (by decide) (hts (.fieldLink RX8 23 "WaxTurnsModel" "fresh" "[I") (zm_X8_seenLine_r1 (List.mem_of_getElem? (i := 1) rfl))) (fun _ h9 => h9) rfl dX8_seenLine_121 ?_
              refine lv_iload_n hx hb dX8_seenLine_124 rfl (lv_at hl 1 rfl) ?_
              refine lv_iconst (v := 1) hx hb dX8_seenLine_125 zk_iconst_1 ?_
              refine lv_iadd hx hb dX8_seenLine_126 ?_
              refine lv_topi (fun x126 ex126 => ?_)
              have qx126 : x126.toInt = x19.toInt + (1 : Int32).toInt := ai_add ex126 ⟨bx19.1, bx19.2⟩ ⟨zq1, zq0⟩ (by decide) (by decide)
              have bx126 : (37 : Int) ≤ x126.toInt ∧ x126.toInt ≤ 47 := ⟨by rw [qx126]; exact Int.add_le_add bx19.1 zq1, by rw [qx126]; exact Int.add_le_add bx19.2 zq0⟩
              have wx126 : x126.toInt = x19.toInt + 1 := qx126
              have hF0 := hF0.trans (fl_lt_eq (show x126.toInt = x19.toInt + 1 from qx126))
              refine lv_iload_n hx hb dX8_seenLine_127 rfl (lv_at hl 3 rfl) ?_
              refine va_iast hx hb hK hP hD hS 1 0 rfl rfl (ai_in bx126.1 bx126.2 (by decide) (by decide)) dX8_seenLine_128 (fun H locs hP hD hS => ?_)
              obtain ⟨f128, ef128⟩ : ∃ g9 : Nat → Int32, g9 = upd f119 (x126 : Int32).toNatClampNeg j49l3 := ⟨_, rfl⟩
              refine zs_1 (y := (a0_16, .inl (ka0_16, 156, .inl (f128)))) hP hD (by rw [ef128]) (fun hP hD => ?_)
              have bf128 : ((∀ k : Nat, 0 ≤ k → k ≤ 0 → (0 : Int) ≤ (f128 k).toInt ∧ (f128 k).toInt ≤ 9) ∧ (∀ k : Nat, 1 ≤ k → k ≤ 1 → (0 : Int) ≤ (f128 k).toInt ∧ (f128 k).toInt ≤ 20) ∧ (∀ k : Nat, 2 ≤ k → k ≤ 2 → (0 : Int) ≤ (f128 k).toInt ∧ (f128 k).toInt ≤ 8) ∧ (∀ k : Nat, 3 ≤ k → k ≤ 3 → (0 : Int) ≤ (f128 k).toInt ∧ (f128 k).toInt ≤ 100) ∧ (∀ k : Nat, 4 ≤ k → k ≤ 4 → (0 : Int) ≤ (f128 k).toInt ∧ (f128 k).toInt ≤ 9) ∧ (∀ k : Nat, 5 ≤ k → k ≤ 5 → (0 : Int) ≤ (f128 k).toInt ∧ (f128 k).toInt ≤ 3) ∧ (∀ k : Nat, 6 ≤ k → k ≤ 6 → (0 : Int) ≤ (f128 k).toInt ∧ (f128 k).toInt ≤ 6) ∧ (∀ k : Nat, 7 ≤ k → k ≤ 9 → (0 : Int) ≤ (f128 k).toInt ∧ (f128 k).toInt ≤ 8) ∧ (∀ k : Nat, 10 ≤ k → k ≤ 11 → (0 : Int) ≤ (f128 k).toInt ∧ (f128 k).toInt ≤ 1) ∧ (∀ k : Nat, 12 ≤ k → k ≤ 29 → (0 : Int) ≤ (f128 k).toInt ∧ (f128 k).toInt ≤ 20) ∧ (∀ k : Nat, 30 ≤ k → k ≤ 35 → (0 : Int) ≤ (f128 k).toInt ∧ (f128 k).toInt ≤ 8) ∧ (∀ k : Nat, 36 ≤ k → k ≤ 47 → (0 : Int) ≤ (f128 k).toInt ∧ (f128 k).toInt ≤ 999) ∧ (∀ k : Nat, 48 ≤ k → k ≤ 59 → (0 : Int) ≤ (f128 k).toInt ∧ (f128 k).toInt ≤ 8) ∧ ((1 : Int) ≤ (f128 11).toInt → (2 : Int) ≤ (f128 0).toInt ∧ (1 : Int) ≤ (f128 1).toInt) ∧ (∀ (j i0 i : Int32), (0 : Int) ≤ j.toInt → j.toInt ≤ 8 → i0.toInt = 12 + 2 * j.toInt → i.toInt = 13 + 2 * j.toInt → (f128 i0.toNatClampNeg).toInt = (1 : Int32).toInt → (1 : Int) ≤ (f128 i.toNatClampNeg).toInt)) := by rw [ef128]; exact ⟨ai_updO bf119.1 _ (Or.inr (ai_ngt_of bx126.1 (by decide) (by decide))), ai_updO bf119.2.1 _ (Or.inr (ai_ngt_of bx126.1 (by decide) (by decide))), ai_updO bf119.2.2.1 _ (Or.inr (ai_ngt_of bx126.1 (by decide) (by decide))), ai_updO bf119.2.2.2.1 _ (Or.inr (ai_ngt_of bx126.1 (by decide) (by decide))), ai_updO bf119.2.2.2.2.1 _ (Or.inr (ai_ngt_of bx126.1 (by decide) (by decide))), ai_updO bf119.2.2.2.2.2.1 _ (Or.inr (ai_ngt_of bx126.1 (by decide) (by decide))), ai_updO bf119.2.2.2.2.2.2.1 _ (Or.inr (ai_ngt_of bx126.1 (by decide) (by decide))), ai_updO bf119.2.2.2.2.2.2.2.1 _ (Or.inr (ai_ngt_of bx126.1 (by decide) (by decide))), ai_updO bf119.2.2.2.2.2.2.2.2.1 _ (Or.inr (ai_ngt_of bx126.1 (by decide) (by decide))), ai_updO bf119.2.2.2.2.2.2.2.2.2.1 _ (Or.inr (ai_ngt_of bx126.1 (by decide) (by decide))), ai_updO bf119.2.2.2.2.2.2.2.2.2.2.1 _ (Or.inr (ai_ngt_of bx126.1 (by decide) (by decide))), ai_updS bf119.2.2.2.2.2.2.2.2.2.2.2.1 _ ⟨wb49.1, wb49.2⟩, ai_updO bf119.2.2.2.2.2.2.2.2.2.2.2.2.1 _ (Or.inl (ai_nlt_of bx126.1 bx126.2 (by decide) (by decide))), fg_o bf119.2.2.2.2.2.2.2.2.2.2.2.2.2.1 (by have h1 := ai_natge (n := 37) bx126.1 (by decide); have h2 := ai_natle (n := 47) bx126.2 (by decide); omega), fg_ko bf119.2.2.2.2.2.2.2.2.2.2.2.2.2.2 (by have h1 := ai_natge (n := 37) bx126.1 (by decide); have h2 := ai_natle (n := 47) bx126.2 (by decide); omega)⟩
              have fqf128 := fl_up_eq ef128
              have hF0 := hF0.trans (fl_lt_eq (show (fl_A f128) = fl_up (fl_A f119) (x126.toInt.toNat) j49l3.toInt from fqf128))
              refine lv_aload_n hx hb dX8_seenLine_129 rfl (lv_at hl 0 rfl) ?_
              refine va_get (D := (dC, dI)) (ci := 8) (v := .ref a0_16) (C := RX8) (T := TX8) (N := 40) hx hb hts zi_X8_seenLine_8 hown hK hP 0 rfl rfl 16 (by decide) (hts (.fieldLink RX8 23 "WaxTurnsModel" "fresh" "[I") (zm_X8_seenLine_r1 (List.mem_of_getElem? (i := 1) rfl))) (fun _ h9 => h9) rfl dX8_seenLine_130 ?_
              refine lv_bipush (v := 6) hx hb dX8_seenLine_133 zk_bipush_6 ?_
              refine lv_dup2_11 hx hb dX8_seenLine_135 rfl rfl ?_
              refine va_iald hx hb hK hP 1 0 rfl rfl (by unfold vp_in; decide +kernel) dX8_seenLine_136 ?_
              refine lv_topi (fun x136 ex136 => ?_)
              have bx136 : (0 : Int) ≤ x136.toInt ∧ x136.toInt ≤ 6 := by rw [ex136]; exact ai_rd bf128.2.2.2.2.2.2.1 zq15 zq16 (by decide) (by decide) (by decide)
              have fqx136 := congrArg Int32.toInt ex136
              have hF0 := hF0.trans (fl_lt_eq (show x136.toInt = (fl_A f128) (6) from fqx136))
              have u136z_x136 : x136.toInt ≤ (5 : Int) := fg_le (m := 6) ex136 (by have uef128 := fg_u ef128 (by omega) (m := 6) (by omega); rw [uef128]; have uef119 := fg_u ef119 (by omega) (m := 6) (by omega); rw [uef119]; exact h6)
              refine lv_iconst (v := 1) hx hb dX8_seenLine_137 zk_iconst_1 ?_
              refine lv_iadd hx hb dX8_seenLine_138 ?_
              refine lv_topi (fun x138 ex138 => ?_)
              have qx138 : x138.toInt = x136.toInt + (1 : Int32).toInt := ai_add ex138 ⟨bx136.1, u136z_x136⟩ ⟨zq1, zq0⟩ (by decide) (by decide)
              have bx138 : (1 : Int) ≤ x138.toInt ∧ x138.toInt ≤ 6 := ⟨by rw [qx138]; exact Int.add_le_add bx136.1 zq1, by rw [qx138]; exact Int.add_le_add u136z_x136 zq0⟩
              have wx138 : x138.toInt = x136.toInt + 1 := qx138
              have hF0 := hF0.trans (fl_lt_eq (show x138.toInt = x136.toInt + 1 from qx138))
              refine va_iast hx hb hK hP hD hS 1 0 rfl rfl (by unfold vp_in; decide +kernel) dX8_seenLine_139 (fun H locs hP hD hS => ?_)
              obtain ⟨f139, ef139⟩ : ∃ g9 : Nat → Int32, g9 = upd f128 (6 : Int32).toNatClampNeg x138 := ⟨_, rfl⟩
              refine zs_1 (y := (a0_16, .inl (ka0_16, 156, .inl (f139)))) hP hD (by rw [ef139]) (fun hP hD => ?_)
              have bf139 : ((∀ k : Nat, 0 ≤ k → k ≤ 0 → (0 : Int) ≤ (f139 k).toInt ∧ (f139 k).toInt ≤ 9) ∧ (∀ k : Nat, 1 ≤ k → k ≤ 1 → (0 : Int) ≤ (f139 k).toInt ∧ (f139 k).toInt ≤ 20) ∧ (∀ k : Nat, 2 ≤ k → k ≤ 2 → (0 : Int) ≤ (f139 k).toInt ∧ (f139 k).toInt ≤ 8) ∧ (∀ k : Nat, 3 ≤ k → k ≤ 3 → (0 : Int) ≤ (f139 k).toInt ∧ (f139 k).toInt ≤ 100) ∧ (∀ k : Nat, 4 ≤ k → k ≤ 4 → (0 : Int) ≤ (f139 k).toInt ∧ (f139 k).toInt ≤ 9) ∧ (∀ k : Nat, 5 ≤ k → k ≤ 5 → (0 : Int) ≤ (f139 k).toInt ∧ (f139 k).toInt ≤ 3) ∧ (∀ k : Nat, 6 ≤ k → k ≤ 6 → (0 : Int) ≤ (f139 k).toInt ∧ (f139 k).toInt ≤ 6) ∧ (∀ k : Nat, 7 ≤ k → k ≤ 9 → (0 : Int) ≤ (f139 k).toInt ∧ (f139 k).toInt ≤ 8) ∧ (∀ k : Nat, 10 ≤ k → k ≤ 11 → (0 : Int) ≤ (f139 k).toInt ∧ (f139 k).toInt ≤ 1) ∧ (∀ k : Nat, 12 ≤ k → k ≤ 29 → (0 : Int) ≤ (f139 k).toInt ∧ (f139 k).toInt ≤ 20) ∧ (∀ k : Nat, 30 ≤ k → k ≤ 35 → (0 : Int) ≤ (f139 k).toInt ∧ (f139 k).toInt ≤ 8) ∧ (∀ k : Nat, 36 ≤ k → k ≤ 47 → (0 : Int) ≤ (f139 k).toInt ∧ (f139 k).toInt ≤ 999) ∧ (∀ k : Nat, 48 ≤ k → k ≤ 59 → (0 : Int) ≤ (f139 k).toInt ∧ (f139 k).toInt ≤ 8) ∧ ((1 : Int) ≤ (f139 11).toInt → (2 : Int) ≤ (f139 0).toInt ∧ (1 : Int) ≤ (f139 1).toInt) ∧ (∀ (j i0 i : Int32), (0 : Int) ≤ j.toInt → j.toInt ≤ 8 → i0.toInt = 12 + 2 * j.toInt → i.toInt = 13 + 2 * j.toInt → (f139 i0.toNatClampNeg).toInt = (1 : Int32).toInt → (1 : Int) ≤ (f139 i.toNatClampNeg).toInt)) := by rw [ef139]; exact ⟨ai_updO bf128.1 _ (Or.inr (ai_ngt_of zq15 (by decide) (by decide))), ai_updO bf128.2.1 _ (Or.inr (ai_ngt_of zq15 (by decide) (by decide))), ai_updO bf128.2.2.1 _ (Or.inr (ai_ngt_of zq15 (by decide) (by decide))), ai_updO bf128.2.2.2.1 _ (Or.inr (ai_ngt_of zq15 (by decide) (by decide))), ai_updO bf128.2.2.2.2.1 _ (Or.inr (ai_ngt_of zq15 (by decide) (by decide))), ai_updO bf128.2.2.2.2.2.1 _ (Or.inr (ai_ngt_of zq15 (by decide) (by decide))), ai_updS bf128.2.2.2.2.2.2.1 _ ⟨(Int.le_trans zq4 bx138.1), bx138.2⟩, ai_updO bf128.2.2.2.2.2.2.2.1 _ (Or.inl (ai_nlt_of zq15 zq16 (by decide) (by decide))), ai_updO bf128.2.2.2.2.2.2.2.2.1 _ (Or.inl (ai_nlt_of zq15 zq16 (by decide) (by decide))), ai_updO bf128.2.2.2.2.2.2.2.2.2.1 _ (Or.inl (ai_nlt_of zq15 zq16 (by decide) (by decide))), ai_updO bf128.2.2.2.2.2.2.2.2.2.2.1 _ (Or.inl (ai_nlt_of zq15 zq16 (by decide) (by decide))), ai_updO bf128.2.2.2.2.2.2.2.2.2.2.2.1 _ (Or.inl (ai_nlt_of zq15 zq16 (by decide) (by decide))), ai_updO bf128.2.2.2.2.2.2.2.2.2.2.2.2.1 _ (Or.inl (ai_nlt_of zq15 zq16 (by decide) (by decide))), fg_o bf128.2.2.2.2.2.2.2.2.2.2.2.2.2.1 (by decide +kernel), fg_ko bf128.2.2.2.2.2.2.2.2.2.2.2.2.2.2 (by decide +kernel)⟩
              have kf139_6 : f139 6 = x138 := by rw [ef139]; exact ai_k1 (by decide +kernel)
              have fqf139 := fl_up_eq ef139
              have hF0 := hF0.trans (fl_lt_eq (show (fl_A f139) = fl_up (fl_A f128) (6) x138.toInt from fqf139))
              have hFe : FX = (v102na0_4.toInt, v102na0_5.toInt, v102na0_6.toInt, v102na0_7.toInt, v102na0_8.toInt, j49a0_9.toInt, j49a0_10.toInt, 0, (fl_A f139), (fl_A v102nfa0_12)) := hF0
              exact W.vret hx hb hr (fun t ht hW => ⟨⟨(), rfl, trivial, v102na0_4, v102na0_5, v102na0_6, v102na0_7, v102na0_8, j49a0_9, j49a0_10, 0, f139, v102nfa0_12, ⟨bv102na0_5.1, bv102na0_5.2⟩, ⟨bv102na0_8.1, bv102na0_8.2⟩, ⟨zq5, Int.le_trans zq6 (by decide)⟩, bf139, (Or.inr rfl), (em_t em49 hraw102_1), hFe, by rw [ht]; exact hP, va_K.moved hW.alike hK, hD⟩, hS.F ht⟩) hS.2.2 dX8_seenLine_140
            · have gc58 := ai_nle c58
              have u58f_j49l4 : j49l4.toInt ≤ (4 : Int) := ai_lthi gc58 u57z_x57
              have l58f_x57 : (1 : Int) ≤ x57.toInt := ai_ltlo gc58 bj49l4_l
              have hF1 := hF1.trans (if_neg (show ¬ (x57.toInt ≤ j49l4.toInt) from Int.not_le.mpr gc58))
              refine lv_aload_n hx hb dX8_seenLine_61 rfl (lv_at hl 0 rfl) ?_
              refine va_get (D := (dC, dI)) (ci := 8) (v := .int 0) (C := RX8) (T := TX8) (N := 40) hx hb hts zi_X8_seenLine_8 hown hK hP 0 rfl rfl 13 (by decide) (hts (.fieldLink RX8 97 "WaxTurnsModel" "failed" "Z") (zm_X8_seenLine_r1 (List.mem_of_getElem? (i := 0) rfl))) (fun _ h9 => h9) rfl dX8_seenLine_62 ?_
              refine lv_if_ne (tgt := 95) hx hb dX8_seenLine_65 (by decide) (fun c65 => absurd (by decide +kernel) c65) (fun _ => ?_)
              refine lv_aload_n hx hb dX8_seenLine_68 rfl (lv_at hl 0 rfl) ?_
              refine va_get (D := (dC, dI)) (ci := 8) (v := .ref a0_16) (C := RX8) (T := TX8) (N := 40) hx hb hts zi_X8_seenLine_8 hown hK hP 0 rfl rfl 16 (by decide) (hts (.fieldLink RX8 23 "WaxTurnsModel" "fresh" "[I") (zm_X8_seenLine_r1 (List.mem_of_getElem? (i := 1) rfl))) (fun _ h9 => h9) rfl dX8_seenLine_69 ?_
              refine lv_bipush (v := 36) hx hb dX8_seenLine_72 zk_bipush_36 ?_
              refine lv_iconst (v := 2) hx hb dX8_seenLine_74 zk_iconst_2 ?_
              refine lv_iload hx hb dX8_seenLine_75 (lv_at hl 4 rfl) ?_
              refine lv_imul hx hb dX8_seenLine_77 ?_
              refine lv_topi (fun x77 ex77 => ?_)
              have qx77 : x77.toInt = (2 : Int32).toInt * j49l4.toInt ∧ (0 : Int) ≤ x77.toInt ∧ x77.toInt ≤ 8 := ai_mul ex77 ⟨zq12, zq13⟩ ⟨bj49l4_l, u58f_j49l4⟩ (by decide) (by decide) zq238
              have wx77 : x77.toInt = 2 * j49l4.toInt := qx77.1
              have hF1 := hF1.trans (fl_lt_eq (show x77.toInt = 2 * j49l4.toInt from qx77.1))
              refine lv_iadd hx hb dX8_seenLine_78 ?_
              refine lv_topi (fun x78 ex78 => ?_)
              have qx78 : x78.toInt = (36 : Int32).toInt + x77.toInt := ai_add ex78 ⟨zq182, zq183⟩ ⟨qx77.2.1, qx77.2.2⟩ (by decide) (by decide)
              have bx78 : (36 : Int) ≤ x78.toInt ∧ x78.toInt ≤ 44 := ⟨by rw [qx78]; exact Int.add_le_add zq182 qx77.2.1, by rw [qx78]; exact Int.add_le_add zq183 qx77.2.2⟩
              have wx78 : x78.toInt = 36 + x77.toInt := qx78
              have hF1 := hF1.trans (fl_lt_eq (show x78.toInt = 36 + x77.toInt from qx78))
              refine lv_iconst (v := 1) hx hb dX8_seenLine_79 zk_iconst_1 ?_
              refine lv_iadd hx hb dX8_seenLine_80 ?_
              refine lv_topi (fun x80 ex80 => ?_)
              have qx80 : x80.toInt = x78.toInt + (1 : Int32).toInt := ai_add ex80 ⟨bx78.1, bx78.2⟩ ⟨zq1, zq0⟩ (by decide) (by decide)
              have bx80 : (37 : Int) ≤ x80.toInt ∧ x80.toInt ≤ 45 := ⟨by rw [qx80]; exact Int.add_le_add bx78.1 zq1, by rw [qx80]; exact Int.add_le_add bx78.2 zq0⟩
              have wx80 : x80.toInt = x78.toInt + 1 := qx80
              have hF1 := hF1.trans (fl_lt_eq (show x80.toInt = x78.toInt + 1 from qx80))
              refine va_iald hx hb hK hP 1 0 rfl rfl (ai_in bx80.1 bx80.2 (by decide) (by decide)) dX8_seenLine_81 ?_
              refine lv_topi (fun x81 ex81 => ?_)
              have bx81 : (0 : Int) ≤ x81.toInt ∧ x81.toInt ≤ 999 := by rw [ex81]; exact ai_rd bfa0_16.2.2.2.2.2.2.2.2.2.2.2.1 bx80.1 bx80.2 (by decide) (by decide) (by decide)
              have fqx81 := congrArg Int32.toInt ex81
              have hF1 := hF1.trans (fl_lt_eq (show x81.toInt = (fl_A fa0_16) (x80.toInt.toNat) from fqx81))
              refine lv_iload_n hx hb dX8_seenLine_82 rfl (lv_at hl 3 rfl) ?_
              refine lv_icmp_ne (tgt := 95) hx hb dX8_seenLine_83 (by decide) (fun c83 => ?_) (fun c83 => ?_)
              · have gc83 := ai_ne c83
                have hF1 := hF1.trans (if_neg (show ¬ (x81.toInt = j49l3.toInt) from  gc83))
                obtain ⟨x95, ex95⟩ : ∃ y : Int32, y = j49l4 + Int32.ofInt 1 := ⟨_, rfl⟩
                have qx95 : x95.toInt = j49l4.toInt + 1 := ai_inc ex95 (by decide) (by decide) u58f_j49l4 (by decide)
                have bx95 : (1 : Int) ≤ x95.toInt ∧ x95.toInt ≤ 5 := ⟨by rw [qx95]; exact Int.add_le_add bj49l4_l (Int.le_refl _), by rw [qx95]; exact Int.add_le_add u58f_j49l4 (Int.le_refl _)⟩
                refine lv_iinc (v := x95) (lv' := [(4, .int x95), (0, .ref a0), (1, .int x19), (2, .int r27), (3, .int j49l3)]) hx hb dX8_seenLine_95 hl (k := 4) rfl ex95.symm (by decide) rfl (fun ls hl => ?_)
                have hF1 := hF1.trans (fl_lt_eq (show x95.toInt = j49l4.toInt + 1 from qx95))
                refine lv_goto (tgt := 49) hx hb dX8_seenLine_98 (by decide) ?_
                exact (hK0 _ _ _).mp (ih49 x95 j49l3 j49a0_4 j49a0_5 j49a0_6 j49a0_7 j49a0_8 j49a0_9 j49a0_10 0 j49a0_12_a _ _ _ (by first | exact zg_s hm49 qx95 | (have h0 := qx95; omega)) (Int.le_trans zq4 bx95.1) bx95.2 wb49.1 wb49.2 bj49a0_5_l bj49a0_5_u bj49a0_8_l bj49a0_8_u zq5 (Int.le_trans zq6 zq4) (by omega) ⟨wa49.1, wa49.2⟩ ⟨wb49.1, wb49.2⟩ (by rw [show (0 : Int32).toInt = 0 from by decide]; exact (hF0.trans (fl_wh_l (hSX49.trans hF1)))) hP hD hS (lv_sub hl [1, 2, 3, 4, 0] rfl))
              · have gc83 := ai_eq c83
                have u83f_x81 : x81.toInt ≤ (999 : Int) := bx81.2
                have l83f_x81 : (0 : Int) ≤ x81.toInt := bx81.1
                have u83f_j49l3 : j49l3.toInt ≤ (999 : Int) := wb49.2
                have l83f_j49l3 : (0 : Int) ≤ j49l3.toInt := wb49.1
                have hF1 := hF1.trans (if_pos (show x81.toInt = j49l3.toInt from gc83))
                refine lv_aload_n hx hb dX8_seenLine_86 rfl (lv_at hl 0 rfl) ?_
                refine lv_iconst (v := 3) hx hb dX8_seenLine_87 zk_iconst_3 ?_
                refine lv_aload_n hx hb dX8_seenLine_88 rfl (lv_at hl 0 rfl) ?_
                refine va_get (D := (dC, dI)) (ci := 8) (v := .int j49a0_4) (C := RX8) (T := TX8) (N := 40) hx hb hts zi_X8_seenLine_8 hown hK hP 0 rfl rfl 4 (by decide) (hts (.fieldLink RX8 78 "WaxTurnsModel" "at" "I") (zm_X8_seenLine_r1 (List.mem_of_getElem? (i := 2) rfl))) (fun _ h9 => h9) rfl dX8_seenLine_89 ?_
                refine va_callv (va_runV (As := [.int 3, .int j49a0_4]) (rest := []) ⟨hx, hb, hml, hown, hts⟩ (fG_X8_wrong l dC dI H.size a0 3 j49a0_4 a0g_0 (Value.ref a0_1) a0g_2 (Value.int a0_3) (Value.int j49a0_4) (Value.int j49a0_5) (Value.int j49a0_6) (Value.int j49a0_7) (Value.int j49a0_8) a0g_11 (Value.ref a0_12) a0g_14 a0g_15 (Value.ref a0_16) a0g_17 a0g_18 a0g_19 a0g_20 a0g_21 a0g_22 a0g_23 a0g_24 a0g_25 a0g_26 a0g_27 a0g_28 a0g_29 a0g_30 a0g_31 a0g_32 a0g_33 a0g_34 a0g_35 a0g_36 a0g_37 a0g_38 a0g_39 j49a0_9 j49a0_10 ) (cwV 2 hts gX8_seenLine_X8_wrong rfl rfl rfl zd_X8_wrong ⟨Nat.le_of_ble_eq_true rfl, Nat.le_of_ble_eq_true rfl⟩) ⟨ax_blind (fun _ _ _ _ _ => trivial), zr_8 (zp_K hK) (zp_P1 hP) (q0 := 0) rfl, ax_pre (zp_P1 hP) (zp_K hK) (zp_D1 hD) (fun _ _ => trivial)⟩ rfl rfl hl.1 rfl (lv_room (Nat.le_of_ble_eq_true rfl)) dX8_seenLine_92 ⟨Nat.le_of_ble_eq_true rfl, Nat.le_of_ble_eq_true rfl⟩) hS (fun q _ h => zp_F1 hD hS hA q h) (zp_F1 hD hS hA) (fun u t H locs ht hvm hw => zx_2 (fun v92na0_9 v92na0_10 => zy_1 (fun hraw92_0 hB hz1 hk1 hS1 => zo1 hB ht hP hD hk1 (zp_F1 hD hS hA) hS1 (fun hP hK1 hD hS => ?_))))
                rw [show (3 : Int32).toInt = 3 from by decide] at hraw92_0
                have hc92 : FfG_X8_wrong 3 j49a0_4.toInt = (v92na0_9.toInt, v92na0_10.toInt) := hraw92_0
                have hF1 := hF1.trans (fl_c2_eq hc92)
                obtain ⟨x95, ex95⟩ : ∃ y : Int32, y = j49l4 + Int32.ofInt 1 := ⟨_, rfl⟩
                have qx95 : x95.toInt = j49l4.toInt + 1 := ai_inc ex95 (by decide) (by decide) u58f_j49l4 (by decide)
                have bx95 : (1 : Int) ≤ x95.toInt ∧ x95.toInt ≤ 5 := ⟨by rw [qx95]; exact Int.add_le_add bj49l4_l (Int.le_refl _), by rw [qx95]; exact Int.add_le_add u58f_j49l4 (Int.le_refl _)⟩
                refine lv_iinc (v := x95) (lv' := [(4, .int x95), (0, .ref a0), (1, .int x19), (2, .int r27), (3, .int j49l3)]) hx hb dX8_seenLine_95 hl (k := 4) rfl ex95.symm (by decide) rfl (fun ls hl => ?_)
                have hF1 := hF1.trans (fl_lt_eq (show x95.toInt = j49l4.toInt + 1 from qx95))
                refine lv_goto (tgt := 49) hx hb dX8_seenLine_98 (by decide) ?_
                exact (hK0 _ _ _).mp (ih49 x95 j49l3 j49a0_4 j49a0_5 j49a0_6 j49a0_7 j49a0_8 v92na0_9 v92na0_10 1 j49a0_12_a _ _ _ (by first | exact zg_s hm49 qx95 | (have h0 := qx95; omega)) (Int.le_trans zq4 bx95.1) bx95.2 l83f_j49l3 u83f_j49l3 bj49a0_5_l bj49a0_5_u bj49a0_8_l bj49a0_8_u (Int.le_trans zq4 zq1) zq0 (by omega) ⟨wa49.1, wa49.2⟩ ⟨l83f_j49l3, u83f_j49l3⟩ (by rw [show (1 : Int32).toInt = 1 from by decide]; exact (hF0.trans (fl_wh_l (hSX49.trans hF1)))) hP hD hS (lv_sub hl [1, 2, 3, 4, 0] rfl))
          · subst hv49
            have hF1 := hF1.trans (if_neg (by decide))
            refine lv_iload hx hb dX8_seenLine_49 (lv_at hl 4 rfl) ?_
            refine lv_aload_n hx hb dX8_seenLine_51 rfl (lv_at hl 0 rfl) ?_
            refine va_get (D := (dC, dI)) (ci := 8) (v := .ref a0_16) (C := RX8) (T := TX8) (N := 40) hx hb hts zi_X8_seenLine_8 hown hK hP 0 rfl rfl 16 (by decide) (hts (.fieldLink RX8 23 "WaxTurnsModel" "fresh" "[I") (zm_X8_seenLine_r1 (List.mem_of_getElem? (i := 1) rfl))) (fun _ h9 => h9) rfl dX8_seenLine_52 ?_
            refine lv_bipush (v := 6) hx hb dX8_seenLine_55 zk_bipush_6 ?_
            refine va_iald hx hb hK hP 1 0 rfl rfl (by unfold vp_in; decide +kernel) dX8_seenLine_57 ?_
            refine lv_topi (fun x57 ex57 => ?_)
            have bx57 : (0 : Int) ≤ x57.toInt ∧ x57.toInt ≤ 6 := by rw [ex57]; exact ai_rd bfa0_16.2.2.2.2.2.2.1 zq15 zq16 (by decide) (by decide) (by decide)
            have fqx57 := congrArg Int32.toInt ex57
            have hF1 := hF1.trans (fl_lt_eq (show x57.toInt = (fl_A fa0_16) (6) from fqx57))
            have u57z_x57 : x57.toInt ≤ (5 : Int) := fg_le (m := 6) ex57 h6
            refine lv_icmp_ge (tgt := 101) hx hb dX8_seenLine_58 (by decide) (fun c58 => ?_) (fun c58 => ?_)
            · have gc58 := ai_le c58
              have u58t_x57 : x57.toInt ≤ (5 : Int) := u57z_x57
              have l58t_j49l4 : (0 : Int) ≤ j49l4.toInt := bj49l4_l
              have hF1 := hF1.trans (if_pos (show x57.toInt ≤ j49l4.toInt from gc58))
              have hF0 := hF0.trans (fl_wh_r (hSX49.trans hF1))
              refine lv_aload_n hx hb dX8_seenLine_101 rfl (lv_at hl 0 rfl) ?_
              refine va_callv (va_runV (As := []) (rest := []) ⟨hx, hb, hml, hown, hts⟩ (fF_X8_pass l dC dI H.size a0 a0g_0 (Value.ref a0_1) a0g_2 (Value.int a0_3) (Value.int j49a0_4) (Value.int j49a0_5) (Value.int j49a0_6) (Value.int j49a0_7) (Value.int j49a0_8) (Value.int j49a0_9) (Value.int j49a0_10) a0g_11 (Value.ref a0_12) a0g_14 a0g_15 (Value.ref a0_16) a0g_17 a0g_18 a0g_19 a0g_20 a0g_21 a0g_22 a0g_23 a0g_24 a0g_25 a0g_26 a0g_27 a0g_28 a0g_29 a0g_30 a0g_31 a0g_32 a0g_33 a0g_34 a0g_35 a0g_36 a0g_37 a0g_38 a0g_39 ) (cwV 0 hts gX8_seenLine_X8_pass rfl rfl rfl zd_X8_pass ⟨Nat.le_of_ble_eq_true rfl, Nat.le_of_ble_eq_true rfl⟩) ⟨ax_blind (fun _ _ _ _ _ => trivial), zr_8 (zp_K hK) (zp_P1 hP) (q0 := 0) rfl, ax_pre (zp_P1 hP) (zp_K hK) (zp_D1 hD) (fun _ _ => trivial)⟩ rfl rfl hl.1 rfl (lv_room (Nat.le_of_ble_eq_true rfl)) dX8_seenLine_102 ⟨Nat.le_of_ble_eq_true rfl, Nat.le_of_ble_eq_true rfl⟩) hS (fun q _ h => zp_F1 hD hS hA q h) (zp_F1 hD hS hA) (fun u t H locs ht hvm hw hB hz1 hk1 hS1 => zo1 hB ht hP hD hk1 (zp_F1 hD hS hA) hS1 (fun hP hK1 hD hS => ?_))
              refine lv_aload_n hx hb dX8_seenLine_105 rfl (lv_at hl 0 rfl) ?_
              refine va_get (D := (dC, dI)) (ci := 8) (v := .int 1) (C := RX8) (T := TX8) (N := 40) hx hb hts zi_X8_seenLine_8 hown hK hP 0 rfl rfl 13 (by decide) (hts (.fieldLink RX8 97 "WaxTurnsModel" "failed" "Z") (zm_X8_seenLine_r1 (List.mem_of_getElem? (i := 0) rfl))) (fun _ h9 => h9) rfl dX8_seenLine_106 ?_
              refine lv_if_eq (tgt := 113) hx hb dX8_seenLine_109 (by decide) (fun c109 => absurd c109 (by decide +kernel)) (fun _ => ?_)
              have hFe : FX = (j49a0_4.toInt, j49a0_5.toInt, j49a0_6.toInt, j49a0_7.toInt, j49a0_8.toInt, j49a0_9.toInt, j49a0_10.toInt, 1, (fl_A fa0_16), (fl_A j49a0_12_a)) := hF0
              exact W.vret hx hb hr (fun t ht hW => ⟨⟨(), rfl, trivial, j49a0_4, j49a0_5, j49a0_6, j49a0_7, j49a0_8, j49a0_9, j49a0_10, 1, fa0_16, j49a0_12_a, ⟨bj49a0_5_l, bj49a0_5_u⟩, ⟨bj49a0_8_l, bj49a0_8_u⟩, ⟨Int.le_trans (by decide) zq1, zq0⟩, bfa0_16, (Or.inl rfl), em49, hFe, by rw [ht]; exact hP, va_K.moved hW.alike hK, hD⟩, hS.F ht⟩) hS.2.2 dX8_seenLine_112
            · have gc58 := ai_nle c58
              have u58f_j49l4 : j49l4.toInt ≤ (4 : Int) := ai_lthi gc58 u57z_x57
              have l58f_x57 : (1 : Int) ≤ x57.toInt := ai_ltlo gc58 bj49l4_l
              have hF1 := hF1.trans (if_neg (show ¬ (x57.toInt ≤ j49l4.toInt) from Int.not_le.mpr gc58))
              refine lv_aload_n hx hb dX8_seenLine_61 rfl (lv_at hl 0 rfl) ?_
              refine va_get (D := (dC, dI)) (ci := 8) (v := .int 1) (C := RX8) (T := TX8) (N := 40) hx hb hts zi_X8_seenLine_8 hown hK hP 0 rfl rfl 13 (by decide) (hts (.fieldLink RX8 97 "WaxTurnsModel" "failed" "Z") (zm_X8_seenLine_r1 (List.mem_of_getElem? (i := 0) rfl))) (fun _ h9 => h9) rfl dX8_seenLine_62 ?_
              refine lv_if_ne (tgt := 95) hx hb dX8_seenLine_65 (by decide) (fun _ => ?_) (fun c65 => absurd c65 (by decide +kernel))
              obtain ⟨x95, ex95⟩ : ∃ y : Int32, y = j49l4 + Int32.ofInt 1 := ⟨_, rfl⟩
              have qx95 : x95.toInt = j49l4.toInt + 1 := ai_inc ex95 (by decide) (by decide) u58f_j49l4 (by decide)
              have bx95 : (1 : Int) ≤ x95.toInt ∧ x95.toInt ≤ 5 := ⟨by rw [qx95]; exact Int.add_le_add bj49l4_l (Int.le_refl _), by rw [qx95]; exact Int.add_le_add u58f_j49l4 (Int.le_refl _)⟩
              refine lv_iinc (v := x95) (lv' := [(4, .int x95), (0, .ref a0), (1, .int x19), (2, .int r27), (3, .int j49l3)]) hx hb dX8_seenLine_95 hl (k := 4) rfl ex95.symm (by decide) rfl (fun ls hl => ?_)
              have hF1 := hF1.trans (fl_lt_eq (show x95.toInt = j49l4.toInt + 1 from qx95))
              refine lv_goto (tgt := 49) hx hb dX8_seenLine_98 (by decide) ?_
              exact (hK0 _ _ _).mp (ih49 x95 j49l3 j49a0_4 j49a0_5 j49a0_6 j49a0_7 j49a0_8 j49a0_9 j49a0_10 1 j49a0_12_a _ _ _ (by first | exact zg_s hm49 qx95 | (have h0 := qx95; omega)) (Int.le_trans zq4 bx95.1) bx95.2 wb49.1 wb49.2 bj49a0_5_l bj49a0_5_u bj49a0_8_l bj49a0_8_u (Int.le_trans zq4 zq1) zq0 (by omega) ⟨wa49.1, wa49.2⟩ ⟨wb49.1, wb49.2⟩ (by rw [show (1 : Int32).toInt = 1 from by decide]; exact (hF0.trans (fl_wh_l (hSX49.trans hF1)))) hP hD hS (lv_sub hl [1, 2, 3, 4, 0] rfl))
      exact (hK0 _ _ _).mp (J49 6 0 0 v34na0_4 v34na0_5 v34na0_6 v34na0_7 v34na0_8 v34na0_9 v34na0_10 1 v34nfa0_12 _ _ _ (by first | decide +kernel | (have h1 : (0 : Int) ≤ (0 : Int32).toInt := zq5; have h2 : (0 : Int32).toInt ≤ (0 : Int) := zq6; omega)) zq5 (Int.le_trans zq6 zq224) zq5 (Int.le_trans zq6 zq81) bv34na0_5.1 bv34na0_5.2 bv34na0_8.1 bv34na0_8.2 (Int.le_trans zq4 zq1) zq0 (by omega) ⟨(Int.le_trans zq5 h27.1), (Int.le_trans h27.2 h24_1)⟩ ⟨zq5, (Int.le_trans zq6 zq81)⟩ (by rw [show (0 : Int32).toInt = 0 from by decide, show (1 : Int32).toInt = 1 from by decide]; exact hF0) hP hD hS (lv_sub hl [4, 3, 2, 1, 0] rfl))
    · subst hf34
      have hF0 := hF0.trans (if_neg (by decide))
      refine lv_aload_n hx hb dX8_seenLine_37 rfl (lv_at hl 2 rfl) ?_
      refine lv_iconst (v := 0) hx hb dX8_seenLine_38 zk_iconst_0 ?_
      refine lv_sipush (v := 999) hx hb dX8_seenLine_39 zk_sipush_999 ?_
      refine va_calli (va_runV (As := [.int 0, .int 999]) (rest := []) ⟨hx, hb, hml, hown, hts⟩ (fG_X8_numberHere l dC dI H.size a0 0 999 a0g_0 (Value.ref a0_1) a0g_2 (Value.int a0_3) (Value.int v34na0_5) (Value.int v34na0_8) a0g_11 (Value.ref a0_12) a0g_14 a0g_15 (Value.ref a0_16) a0g_17 a0g_18 a0g_19 a0g_20 a0g_21 a0g_22 a0g_23 a0g_24 a0g_25 a0g_26 a0g_27 a0g_28 a0g_29 a0g_30 a0g_31 a0g_32 a0g_33 a0g_34 a0g_35 a0g_36 a0g_37 a0g_38 a0g_39 v34na0_4 v34na0_6 v34na0_7 v34na0_9 v34na0_10 ) (cwV 2 hts gX8_seenLine_X8_numberHere rfl rfl rfl zd_X8_numberHere ⟨Nat.le_of_ble_eq_true rfl, Nat.le_of_ble_eq_true rfl⟩) ⟨ax_blind (fun _ _ _ _ _ => trivial), zr_8 (zp_K hK) (zp_P1 hP) (q0 := 0) rfl, ax_pre (zp_P1 hP) (zp_K hK) (zp_D1 hD) (fun _ _ => trivial)⟩ rfl rfl hl.1 rfl (lv_room (Nat.le_of_ble_eq_true rfl)) dX8_seenLine_42 ⟨Nat.le_of_ble_eq_true rfl, Nat.le_of_ble_eq_true rfl⟩) hS (fun q _ h => zp_F1 hD hS hA q h) (zp_F1 hD hS hA) (fun r42 v42na0_13 t H1 locs ht hvm hw => zx_2 (fun v42na0_9 v42na0_10 => zy_2 (fun bv42na0_13 hraw42_0 hB hz1 hk1 hS1 => zo1 hB ht hP hD hk1 (zp_F1 hD hS hA) hS1 (fun hP hK1 hD hS => ?_))))
      generalize H1 = H at hP hS ⊢
      obtain ⟨hw, hfr42⟩ := hw
      rw [show (0 : Int32).toInt = 0 from by decide, show (999 : Int32).toInt = 999 from by decide] at hfr42 hraw42_0
      have hc42 : FfG_X8_numberHere 0 999 v34na0_4.toInt v34na0_6.toInt v34na0_7.toInt v34na0_9.toInt v34na0_10.toInt = (r42.toInt, v42na0_9.toInt, v42na0_10.toInt, v42na0_13.toInt) := Prod.ext hfr42.symm hraw42_0
      have hF0 := hF0.trans (fl_c4_eq hc42)
      rcases hw with hw | hw
      · obtain ⟨hw, h42⟩ := hw
        subst hw
        have hF0 := hF0.trans (if_pos (by decide))
        refine lv_istore_n (lv' := [(3, .int r42), (2, .int r27), (1, .int x19), (0, .ref a0)]) hx hb dX8_seenLine_45 rfl hl (by decide) rfl (fun ls hl => ?_)
        refine lv_iconst (v := 0) hx hb dX8_seenLine_46 zk_iconst_0 ?_
        refine lv_istore (lv' := [(4, .int 0), (3, .int r42), (2, .int r27), (1, .int x19), (0, .ref a0)]) hx hb dX8_seenLine_47 hl (by decide) rfl (fun ls hl => ?_)
        have J49 : ∀ (n : Nat) (j49l4 : Int32) (j49l3 : Int32) (j49a0_4 : Int32) (j49a0_5 : Int32) (j49a0_6 : Int32) (j49a0_7 : Int32) (j49a0_8 : Int32) (j49a0_9 : Int32) (j49a0_10 : Int32) (j49a0_13 : Int32) (j49a0_12_a : Nat → Int32) (H : Heap) (locs : List Loc) (ls : Array Slot), (6 : Int) - j49l4.toInt ≤ (n : Int) → (0 : Int) ≤ j49l4.toInt → j49l4.toInt ≤ (5 : Int) → (0 : Int) ≤ j49l3.toInt → j49l3.toInt ≤ (999 : Int) → (0 : Int) ≤ j49a0_5.toInt → j49a0_5.toInt ≤ (900 : Int) → (0 : Int) ≤ j49a0_8.toInt → j49a0_8.toInt ≤ (900 : Int) → (0 : Int) ≤ j49a0_13.toInt → j49a0_13.toInt ≤ (1 : Int) → (a0_5.toInt ≤ j49a0_5.toInt ∧ ((j49a0_5.toInt = a0_5.toInt ∧ j49a0_6.toInt = a0_6.toInt) ∨ j49a0_6.toInt ≠ 59 ∨ a0_5.toInt < j49a0_5.toInt)) → ((0 : Int) ≤ r27.toInt ∧ r27.toInt ≤ 8) → ((0 : Int) ≤ j49l3.toInt ∧ j49l3.toInt ≤ 999) → (FX = fl_wh (fun t9 => SfG_X8_seenLine_49_3 a0_3.toInt (fl_A fa0_16) (fl_A fa0_1) x19.toInt r27.toInt t9.1 t9.2.1 t9.2.2.1 t9.2.2.2.1 t9.2.2.2.2.1 t9.2.2.2.2.2.1 t9.2.2.2.2.2.2.1 t9.2.2.2.2.2.2.2.1 t9.2.2.2.2.2.2.2.2.1 t9.2.2.2.2.2.2.2.2.2.1 t9.2.2.2.2.2.2.2.2.2.2) (0, 0, 0, 0, 0, 0, 0, 0, (fun _ => 0), (fun _ => 0)) n (j49l4.toInt, j49l3.toInt, j49a0_4.toInt, j49a0_5.toInt, j49a0_6.toInt, j49a0_7.toInt, j49a0_8.toInt, j49a0_9.toInt, j49a0_10.toInt, j49a0_13.toInt, (fl_A j49a0_12_a))) → va_P (dC, dI) vwCl [(a0, .inr (8, [a0g_0, Value.ref a0_1, a0g_2, Value.int a0_3, Value.int j49a0_4, Value.int j49a0_5, Value.int j49a0_6, Value.int j49a0_7, Value.int j49a0_8, Value.int j49a0_9, Value.int j49a0_10, a0g_11, Value.ref a0_12, Value.int j49a0_13, a0g_14, a0g_15, Value.ref a0_16, a0g_17, a0g_18, a0g_19, a0g_20, a0g_21, a0g_22, a0g_23, a0g_24, a0g_25, a0g_26, a0g_27, a0g_28, a0g_29, a0g_30, a0g_31, a0g_32, a0g_33, a0g_34, a0g_35, a0g_36, a0g_37, a0g_38, a0g_39])), (a0_16, .inl (ka0_16, 156, .inl (fa0_16))), (a0_1, .inl (ka0_1, 900, .inl (fa0_1))), (a0_12, .inl (ka0_12, 8, .inl (j49a0_12_a)))] H → va_D A [(a0, .inr (8, [a0g_0, Value.ref a0_1, a0g_2, Value.int a0_3, Value.int j49a0_4, Value.int j49a0_5, Value.int j49a0_6, Value.int j49a0_7, Value.int j49a0_8, Value.int j49a0_9, Value.int j49a0_10, a0g_11, Value.ref a0_12, Value.int j49a0_13, a0g_14, a0g_15, Value.ref a0_16, a0g_17, a0g_18, a0g_19, a0g_20, a0g_21, a0g_22, a0g_23, a0g_24, a0g_25, a0g_26, a0g_27, a0g_28, a0g_29, a0g_30, a0g_31, a0g_32, a0g_33, a0g_34, a0g_35, a0g_36, a0g_37, a0g_38, a0g_39])), (a0_16, .inl (ka0_16, 156, .inl (fa0_16))), (a0_1, .inl (ka0_1, 900, .inl (fa0_1))), (a0_12, .inl (ka0_12, 8, .inl (j49a0_12_a)))] → va_S A s.heap H locs → lv_has ls 5 [(0, .ref a0), (1, .int x19), (2, .int r27), (3, .int j49l3), (4, .int j49l4)] → K H locs (F0 m 49 ls []) := by
          intro n
          induction n with
          | zero =>
            intro j49l4 j49l3 j49a0_4 j49a0_5 j49a0_6 j49a0_7 j49a0_8 j49a0_9 j49a0_10 j49a0_13 j49a0_12_a H locs ls hm bj49l4_l bj49l4_u bj49l3_l bj49l3_u bj49a0_5_l bj49a0_5_u bj49a0_8_l bj49a0_8_u bj49a0_13_l bj49a0_13_u em49 wa49 wb49 hF0 hP hD hS hl
            first | exact zg_0 hm bj49l4_u (by decide) | (have h8 := ai_min j49l4; have h9 := ai_max j49l4; exact absurd hm (by omega))
          | succ n ih49 =>
            intro j49l4 j49l3 j49a0_4 j49a0_5 j49a0_6 j49a0_7 j49a0_8 j49a0_9 j49a0_10 j49a0_13 j49a0_12_a H locs ls hm bj49l4_l bj49l4_u bj49l3_l bj49l3_u bj49a0_5_l bj49a0_5_u bj49a0_8_l bj49a0_8_u bj49a0_13_l bj49a0_13_u em49 wa49 wb49 hF0 hP hD hS hl
            refine (hK0 _ _ _).mpr ?_
            have hm49 := hm
            obtain ⟨SX49, hSX49⟩ : ∃ q9, SfG_X8_seenLine_49_3 a0_3.toInt (fl_A fa0_16) (fl_A fa0_1) x19.toInt r27.toInt j49l4.toInt j49l3.toInt j49a0_4.toInt j49a0_5.toInt j49a0_6.toInt j49a0_7.toInt j49a0_8.toInt j49a0_9.toInt j49a0_10.toInt j49a0_13.toInt (fl_A j49a0_12_a) = q9 := ⟨_, rfl⟩
            have hF1 := hSX49.symm.trans (SfG_X8_seenLine_49_3.eq_1 a0_3.toInt (fl_A fa0_16) (fl_A fa0_1) x19.toInt r27.toInt j49l4.toInt j49l3.toInt j49a0_4.toInt j49a0_5.toInt j49a0_6.toInt j49a0_7.toInt j49a0_8.toInt j49a0_9.toInt j49a0_10.toInt j49a0_13.toInt (fl_A j49a0_12_a))
            have hv49 : j49a0_13 = 0 ∨ j49a0_13 = 1 := by
              have h1 : (0 : Int) ≤ j49a0_13.toInt := bj49a0_13_l
              have h2 : j49a0_13.toInt ≤ (1 : Int) := bj49a0_13_u
              rcases (show j49a0_13.toInt = 0 ∨ j49a0_13.toInt = 1 by omega) with h | h
              · exact Or.inl (Int32.toInt_inj.mp (h.trans (by decide)))
              · exact Or.inr (Int32.toInt_inj.mp (h.trans (by decide)))
            rcases hv49 with hv49 | hv49
            · subst hv49
              have hF1 := hF1.trans (if_pos (by decide))
              refine lv_iload hx hb dX8_seenLine_49 (lv_at hl 4 rfl) ?_
              refine lv_aload_n hx hb dX8_seenLine_51 rfl (lv_at hl 0 rfl) ?_
              refine va_get (D := (dC, dI)) (ci := 8) (v := .ref a0_16) (C := RX8) (T := TX8) (N := 40) hx hb hts zi_X8_seenLine_8 hown hK hP 0 rfl rfl 16 (by decide) (hts (.fieldLink RX8 23 "WaxTurnsModel" "fresh" "[I") (zm_X8_seenLine_r1 (List.mem_of_getElem? (i := 1) rfl))) (fun _ h9 => h9) rfl dX8_seenLine_52 ?_
              refine lv_bipush (v := 6) hx hb dX8_seenLine_55 zk_bipush_6 ?_
              refine va_iald hx hb hK hP 1 0 rfl rfl (by unfold vp_in; decide +kernel) dX8_seenLine_57 ?_
              refine lv_topi (fun x57 ex57 => ?_)
              have bx57 : (0 : Int) ≤ x57.toInt ∧ x57.toInt ≤ 6 := by rw [ex57]; exact ai_rd bfa0_16.2.2.2.2.2.2.1 zq15 zq16 (by decide) (by decide) (by decide)
              have fqx57 := congrArg Int32.toInt ex57
              have hF1 := hF1.trans (fl_lt_eq (show x57.toInt = (fl_A fa0_16) (6) from fqx57))
              have u57z_x57 : x57.toInt ≤ (5 : Int) := fg_le (m := 6) ex57 h6
              refine lv_icmp_ge (tgt := 101) hx hb dX8_seenLine_58 (by decide) (fun c58 => ?_) (fun c58 => ?_)
              · have gc58 := ai_le c58
                have u58t_x57 : x57.toInt ≤ (5 : Int) := u57z_x57
                have l58t_j49l4 : (0 : Int) ≤ j49l4.toInt := bj49l4_l
                have hF1 := hF1.trans (if_pos (show x57.toInt ≤ j49l4.toInt from gc58))
                have hF0 := hF0.trans (fl_wh_r (hSX49.trans hF1))
                refine lv_aload_n hx hb dX8_seenLine_101 rfl (lv_at hl 0 rfl) ?_
                refine zc_cutc (wc := [(a0, .inr (8, [a0g_0, Value.ref a0_1, a0g_2, Value.int a0_3, Value.int j49a0_4, Value.int j49a0_5, Value.int j49a0_6, Value.int j49a0_7, Value.int j49a0_8, Value.int j49a0_9, Value.int j49a0_10, a0g_11, Value.ref a0_12, Value.int 0, a0g_14, a0g_15, Value.ref a0_16, a0g_17, a0g_18, a0g_19, a0g_20, a0g_21, a0g_22, a0g_23, a0g_24, a0g_25, a0g_26, a0g_27, a0g_28, a0g_29, a0g_30, a0g_31, a0g_32, a0g_33, a0g_34, a0g_35, a0g_36, a0g_37, a0g_38, a0g_39])), (a0_1, .inl (ka0_1, 900, .inl (fa0_1))), (a0_12, .inl (ka0_12, 8, .inl (j49a0_12_a)))]) hP hD hS hA [0, 2, 3] (by decide +kernel) rfl (fun hPc hDc hFc hCc => ?_)
                have hKc := hK.sub (tys' := [(ka0_1, .int), (ka0_12, .int)]) [1, 2] rfl
                refine va_callv (va_runV (As := []) (rest := []) ⟨hx, hb, hml, hown, hts⟩ (fG_X8_pass l dC dI H.size a0 a0g_0 a0g_2 (Value.int j49a0_9) (Value.int j49a0_10) a0g_11 a0g_14 a0g_15 (Value.ref a0_16) a0g_17 a0g_18 a0g_19 a0g_20 a0g_21 a0g_22 a0g_23 a0g_24 a0g_25 a0g_26 a0g_27 a0g_28 a0g_29 a0g_30 a0g_31 a0g_32 a0g_33 a0g_34 a0g_35 a0g_36 a0g_37 a0g_38 a0g_39 a0_1 a0_3 j49a0_4 j49a0_5 j49a0_6 j49a0_7 j49a0_8 a0_12 ka0_1 fa0_1 ka0_12 j49a0_12_a ba0_3_l ba0_3_u bj49a0_5_l bj49a0_5_u bj49a0_8_l bj49a0_8_u) (cwV 0 hts gX8_seenLine_X8_pass rfl rfl rfl zd_X8_pass ⟨Nat.le_of_ble_eq_true rfl, Nat.le_of_ble_eq_true rfl⟩) ⟨ax_blind (fun _ _ _ _ _ => trivial), zr_8 hKc hPc (q0 := 0) rfl, ax_pre hPc hKc hDc (fun _ _ => trivial)⟩ rfl rfl hl.1 rfl (lv_room (Nat.le_of_ble_eq_true rfl)) dX8_seenLine_102 ⟨Nat.le_of_ble_eq_true rfl, Nat.le_of_ble_eq_true rfl⟩) hS (fun q _ h => hFc q h) hFc (fun u t H locs ht hvm hw => zx_6 (fun v102na0_4 v102na0_5 v102na0_6 v102na0_7 v102na0_8 v102nfa0_12 => zy_5 (fun bv102na0_5 bv102na0_8 hraw102_0 hraw102_1 hraw102_2 hB hz1 hk1 hS1 => zo hB ht hS1 (fun hP1 hK1 hD1 hS => ?_))))
                refine zc_backc (w := [(a0, .inr (8, [a0g_0, Value.ref a0_1, a0g_2, Value.int a0_3, Value.int v102na0_4, Value.int v102na0_5, Value.int v102na0_6, Value.int v102na0_7, Value.int v102na0_8, Value.int j49a0_9, Value.int j49a0_10, a0g_11, Value.ref a0_12, Value.int 0, a0g_14, a0g_15, Value.ref a0_16, a0g_17, a0g_18, a0g_19, a0g_20, a0g_21, a0g_22, a0g_23, a0g_24, a0g_25, a0g_26, a0g_27, a0g_28, a0g_29, a0g_30, a0g_31, a0g_32, a0g_33, a0g_34, a0g_35, a0g_36, a0g_37, a0g_38, a0g_39])), (a0_16, .inl (ka0_16, 156, .inl (fa0_16))), (a0_1, .inl (ka0_1, 900, .inl (fa0_1))), (a0_12, .inl (ka0_12, 8, .inl (v102nfa0_12)))]) hP hD hCc hk1 hFc hP1 hD1 [.inr 0, .inl 1, .inr 1, .inr 2] (by decide +kernel) rfl (fun hP hD => ?_)
                have hc102 : FfG_X8_pass a0_3.toInt j49a0_5.toInt (fl_A fa0_1) (fl_A j49a0_12_a) = (v102na0_4.toInt, v102na0_5.toInt, v102na0_6.toInt, v102na0_7.toInt, v102na0_8.toInt, (fl_A v102nfa0_12)) := hraw102_2
                have hF0 := hF0.trans (fl_c6_eq hc102)
                refine lv_aload_n hx hb dX8_seenLine_105 rfl (lv_at hl 0 rfl) ?_
                refine va_get (D := (dC, dI)) (ci := 8) (v := .int 0) (C := RX8) (T := TX8) (N := 40) hx hb hts zi_X8_seenLine_8 hown hK hP 0 rfl rfl 13 (by decide) (hts (.fieldLink RX8 97 "WaxTurnsModel" "failed" "Z") (zm_X8_seenLine_r1 (List.mem_of_getElem? (i := 0) rfl))) (fun _ h9 => h9) rfl dX8_seenLine_106 ?_
                refine lv_if_eq (tgt := 113) hx hb dX8_seenLine_109 (by decide) (fun _ => ?_) (fun c109 => absurd (by decide +kernel) c109)
                refine lv_aload_n hx hb dX8_seenLine_113 rfl (lv_at hl 0 rfl) ?_
                refine va_get (D := (dC, dI)) (ci := 8) (v := .ref a0_16) (C := RX8) (T := TX8) (N := 40) hx hb hts zi_X8_seenLine_8 hown hK hP 0 rfl rfl 16 (by decide) (hts (.fieldLink RX8 23 "WaxTurnsModel" "fresh" "[I") (zm_X8_seenLine_r1 (List.mem_of_getElem? (i := 1) rfl))) (fun _ h9 => h9) rfl dX8_seenLine_114 ?_
                refine lv_iload_n hx hb dX8_seenLine_117 rfl (lv_at hl 1 rfl) ?_
                refine lv_iload_n hx hb dX8_seenLine_118 rfl (lv_at hl 2 rfl) ?_
                refine va_iast hx hb hK hP hD hS 1 0 rfl rfl (ai_in bx19.1 bx19.2 (by decide) (by decide)) dX8_seenLine_119 (fun H locs hP hD hS => ?_)
                obtain ⟨f119, ef119⟩ : ∃ g9 : Nat → Int32, g9 = upd fa0_16 (x19 : Int32).toNatClampNeg r27 := ⟨_, rfl⟩
                refine zs_1 (y := (a0_16, .inl (ka0_16, 156, .inl (f119)))) hP hD (by rw [ef119]) (fun hP hD => ?_)
                have bf119 : ((∀ k : Nat, 0 ≤ k → k ≤ 0 → (0 : Int) ≤ (f119 k).toInt ∧ (f119 k).toInt ≤ 9) ∧ (∀ k : Nat, 1 ≤ k → k ≤ 1 → (0 : Int) ≤ (f119 k).toInt ∧ (f119 k).toInt ≤ 20) ∧ (∀ k : Nat, 2 ≤ k → k ≤ 2 → (0 : Int) ≤ (f119 k).toInt ∧ (f119 k).toInt ≤ 8) ∧ (∀ k : Nat, 3 ≤ k → k ≤ 3 → (0 : Int) ≤ (f119 k).toInt ∧ (f119 k).toInt ≤ 100) ∧ (∀ k : Nat, 4 ≤ k → k ≤ 4 → (0 : Int) ≤ (f119 k).toInt ∧ (f119 k).toInt ≤ 9) ∧ (∀ k : Nat, 5 ≤ k → k ≤ 5 → (0 : Int) ≤ (f119 k).toInt ∧ (f119 k).toInt ≤ 3) ∧ (∀ k : Nat, 6 ≤ k → k ≤ 6 → (0 : Int) ≤ (f119 k).toInt ∧ (f119 k).toInt ≤ 6) ∧ (∀ k : Nat, 7 ≤ k → k ≤ 9 → (0 : Int) ≤ (f119 k).toInt ∧ (f119 k).toInt ≤ 8) ∧ (∀ k : Nat, 10 ≤ k → k ≤ 11 → (0 : Int) ≤ (f119 k).toInt ∧ (f119 k).toInt ≤ 1) ∧ (∀ k : Nat, 12 ≤ k → k ≤ 29 → (0 : Int) ≤ (f119 k).toInt ∧ (f119 k).toInt ≤ 20) ∧ (∀ k : Nat, 30 ≤ k → k ≤ 35 → (0 : Int) ≤ (f119 k).toInt ∧ (f119 k).toInt ≤ 8) ∧ (∀ k : Nat, 36 ≤ k → k ≤ 47 → (0 : Int) ≤ (f119 k).toInt ∧ (f119 k).toInt ≤ 999) ∧ (∀ k : Nat, 48 ≤ k → k ≤ 59 → (0 : Int) ≤ (f119 k).toInt ∧ (f119 k).toInt ≤ 8) ∧ ((1 : Int) ≤ (f119 11).toInt → (2 : Int) ≤ (f119 0).toInt ∧ (1 : Int) ≤ (f119 1).toInt) ∧ (∀ (j i0 i : Int32), (0 : Int) ≤ j.toInt → j.toInt ≤ 8 → i0.toInt = 12 + 2 * j.toInt → i.toInt = 13 + 2 * j.toInt → (f119 i0.toNatClampNeg).toInt = (1 : Int32).toInt → (1 : Int) ≤ (f119 i.toNatClampNeg).toInt)) := by rw [ef119]; exact ⟨ai_updO bfa0_16.1 _ (Or.inr (ai_ngt_of bx19.1 (by decide) (by decide))), ai_updO bfa0_16.2.1 _ (Or.inr (ai_ngt_of bx19.1 (by decide) (by decide))), ai_updO bfa0_16.2.2.1 _ (Or.inr (ai_ngt_of bx19.1 (by decide) (by decide))), ai_updO bfa0_16.2.2.2.1 _ (Or.inr (ai_ngt_of bx19.1 (by decide) (by decide))), ai_updO bfa0_16.2.2.2.2.1 _ (Or.inr (ai_ngt_of bx19.1 (by decide) (by decide))), ai_updO bfa0_16.2.2.2.2.2.1 _ (Or.inr (ai_ngt_of bx19.1 (by decide) (by decide))), ai_updO bfa0_16.2.2.2.2.2.2.1 _ (Or.inr (ai_ngt_of bx19.1 (by decide) (by decide))), ai_updO bfa0_16.2.2.2.2.2.2.2.1 _ (Or.inr (ai_ngt_of bx19.1 (by decide) (by decide))), ai_updO bfa0_16.2.2.2.2.2.2.2.2.1 _ (Or.inr (ai_ngt_of bx19.1 (by decide) (by decide))), ai_updO bfa0_16.2.2.2.2.2.2.2.2.2.1 _ (Or.inr (ai_ngt_of bx19.1 (by decide) (by decide))), ai_updO bfa0_16.2.2.2.2.2.2.2.2.2.2.1 _ (Or.inr (ai_ngt_of bx19.1 (by decide) (by decide))), ai_updS bfa0_16.2.2.2.2.2.2.2.2.2.2.2.1 _ ⟨wa49.1, (Int.le_trans wa49.2 zq189)⟩, ai_updO bfa0_16.2.2.2.2.2.2.2.2.2.2.2.2.1 _ (Or.inl (ai_nlt_of bx19.1 bx19.2 (by decide) (by decide))), fg_o bfa0_16.2.2.2.2.2.2.2.2.2.2.2.2.2.1 (by have h1 := ai_natge (n := 36) bx19.1 (by decide); have h2 := ai_natle (n := 46) bx19.2 (by decide); omega), fg_ko bfa0_16.2.2.2.2.2.2.2.2.2.2.2.2.2.2 (by have h1 := ai_natge (n := 36) bx19.1 (by decide); have h2 := ai_natle (n := 46) bx19.2 (by decide); omega)⟩
                have fqf119 := fl_up_eq ef119
                have hF0 := hF0.trans (fl_lt_eq (show (fl_A f119) = fl_up (fl_A fa0_16) (x19.toInt.toNat) r27.toInt from fqf119))
                refine lv_aload_n hx hb dX8_seenLine_120 rfl (lv_at hl 0 rfl) ?_
                refine va_get (D := (dC, dI)) (ci := 8) (v := .ref a0_16) (C := RX8) (T := TX8) (N := 40) hx hb hts zi_X8_seenLine_8 hown hK hP 0 rfl rfl 16 (by decide) (hts (.fieldLink RX8 23 "WaxTurnsModel" "fresh" "[I") (zm_X8_seenLine_r1 (List.mem_of_getElem? (i := 1) rfl))) (fun _ h9 => h9) rfl dX8_seenLine_121 ?_
                refine lv_iload_n hx hb dX8_seenLine_124 rfl (lv_at hl 1 rfl) ?_
                refine lv_iconst (v := 1) hx hb dX8_seenLine_125 zk_iconst_1 ?_
                refine lv_iadd hx hb dX8_seenLine_126 ?_
                refine lv_topi (fun x126 ex126 => ?_)
                have qx126 : x126.toInt = x19.toInt + (1 : Int32).toInt := ai_add ex126 ⟨bx19.1, bx19.2⟩ ⟨zq1, zq0⟩ (by decide) (by decide)
                have bx126 : (37 : Int) ≤ x126.toInt ∧ x126.toInt ≤ 47 := ⟨by rw [qx126]; exact Int.add_le_add bx19.1 zq1, by rw [qx126]; exact Int.add_le_add bx19.2 zq0⟩
                have wx126 : x126.toInt = x19.toInt + 1 := qx126
                have hF0 := hF0.trans (fl_lt_eq (show x126.toInt = x19.toInt + 1 from qx126))
                refine lv_iload_n hx hb dX8_seenLine_127 rfl (lv_at hl 3 rfl) ?_
                refine va_iast hx hb hK hP hD hS 1 0 rfl rfl (ai_in bx126.1 bx126.2 (by decide) (by decide)) dX8_seenLine_128 (fun H locs hP hD hS => ?_)
                obtain ⟨f128, ef128⟩ : ∃ g9 : Nat → Int32, g9 = upd f119 (x126 : Int32).toNatClampNeg j49l3 := ⟨_, rfl⟩
                refine zs_1 (y := (a0_16, .inl (ka0_16, 156, .inl (f128)))) hP hD (by rw [ef128]) (fun hP hD => ?_)
                have bf128 : ((∀ k : Nat, 0 ≤ k → k ≤ 0 → (0 : Int) ≤ (f128 k).toInt ∧ (f128 k).toInt ≤ 9) ∧ (∀ k : Nat, 1 ≤ k → k ≤ 1 → (0 : Int) ≤ (f128 k).toInt ∧ (f128 k).toInt ≤ 20) ∧ (∀ k : Nat, 2 ≤ k → k ≤ 2 → (0 : Int) ≤ (f128 k).toInt ∧ (f128 k).toInt ≤ 8) ∧ (∀ k : Nat, 3 ≤ k → k ≤ 3 → (0 : Int) ≤ (f128 k).toInt ∧ (f128 k).toInt ≤ 100) ∧ (∀ k : Nat, 4 ≤ k → k ≤ 4 → (0 : Int) ≤ (f128 k).toInt ∧ (f128 k).toInt ≤ 9) ∧ (∀ k : Nat, 5 ≤ k → k ≤ 5 → (0 : Int) ≤ (f128 k).toInt ∧ (f128 k).toInt ≤ 3) ∧ (∀ k : Nat, 6 ≤ k → k ≤ 6 → (0 : Int) ≤ (f128 k).toInt ∧ (f128 k).toInt ≤ 6) ∧ (∀ k : Nat, 7 ≤ k → k ≤ 9 → (0 : Int) ≤ (f128 k).toInt ∧ (f128 k).toInt ≤ 8) ∧ (∀ k : Nat, 10 ≤ k → k ≤ 11 → (0 : Int) ≤ (f128 k).toInt ∧ (f128 k).toInt ≤ 1) ∧ (∀ k : Nat, 12 ≤ k → k ≤ 29 → (0 : Int) ≤ (f128 k).toInt ∧ (f128 k).toInt ≤ 20) ∧ (∀ k : Nat, 30 ≤ k → k ≤ 35 → (0 : Int) ≤ (f128 k).toInt ∧ (f128 k).toInt ≤ 8) ∧ (∀ k : Nat, 36 ≤ k → k ≤ 47 → (0 : Int) ≤ (f128 k).toInt ∧ (f128 k).toInt ≤ 999) ∧ (∀ k : Nat, 48 ≤ k → k ≤ 59 → (0 : Int) ≤ (f128 k).toInt ∧ (f128 k).toInt ≤ 8) ∧ ((1 : Int) ≤ (f128 11).toInt → (2 : Int) ≤ (f128 0).toInt ∧ (1 : Int) ≤ (f128 1).toInt) ∧ (∀ (j i0 i : Int32), (0 : Int) ≤ j.toInt → j.toInt ≤ 8 → i0.toInt = 12 + 2 * j.toInt → i.toInt = 13 + 2 * j.toInt → (f128 i0.toNatClampNeg).toInt = (1 : Int32).toInt → (1 : Int) ≤ (f128 i.toNatClampNeg).toInt)) := by rw [ef128]; exact ⟨ai_updO bf119.1 _ (Or.inr (ai_ngt_of bx126.1 (by decide) (by decide))), ai_updO bf119.2.1 _ (Or.inr (ai_ngt_of bx126.1 (by decide) (by decide))), ai_updO bf119.2.2.1 _ (Or.inr (ai_ngt_of bx126.1 (by decide) (by decide))), ai_updO bf119.2.2.2.1 _ (Or.inr (ai_ngt_of bx126.1 (by decide) (by decide))), ai_updO bf119.2.2.2.2.1 _ (Or.inr (ai_ngt_of bx126.1 (by decide) (by decide))), ai_updO bf119.2.2.2.2.2.1 _ (Or.inr (ai_ngt_of bx126.1 (by decide) (by decide))), ai_updO bf119.2.2.2.2.2.2.1 _ (Or.inr (ai_ngt_of bx126.1 (by decide) (by decide))), ai_updO bf119.2.2.2.2.2.2.2.1 _ (Or.inr (ai_ngt_of bx126.1 (by decide) (by decide))), ai_updO bf119.2.2.2.2.2.2.2.2.1 _ (Or.inr (ai_ngt_of bx126.1 (by decide) (by decide))), ai_updO bf119.2.2.2.2.2.2.2.2.2.1 _ (Or.inr (ai_ngt_of bx126.1 (by decide) (by decide))), ai_updO bf119.2.2.2.2.2.2.2.2.2.2.1 _ (Or.inr (ai_ngt_of bx126.1 (by decide) (by decide))), ai_updS bf119.2.2.2.2.2.2.2.2.2.2.2.1 _ ⟨wb49.1, wb49.2⟩, ai_updO bf119.2.2.2.2.2.2.2.2.2.2.2.2.1 _ (Or.inl (ai_nlt_of bx126.1 bx126.2 (by decide) (by decide))), fg_o bf119.2.2.2.2.2.2.2.2.2.2.2.2.2.1 (by have h1 := ai_natge (n := 37) bx126.1 (by decide); have h2 := ai_natle (n := 47) bx126.2 (by decide); omega), fg_ko bf119.2.2.2.2.2.2.2.2.2.2.2.2.2.2 (by have h1 := ai_natge (n := 37) bx126.1 (by decide); have h2 := ai_natle (n := 47) bx126.2 (by decide); omega)⟩
                have fqf128 := fl_up_eq ef128
                have hF0 := hF0.trans (fl_lt_eq (show (fl_A f128) = fl_up (fl_A f119) (x126.toInt.toNat) j49l3.toInt from fqf128))
                refine lv_aload_n hx hb dX8_seenLine_129 rfl (lv_at hl 0 rfl) ?_
                refine va_get (D := (dC, dI)) (ci := 8) (v := .ref a0_16) (C := RX8) (T := TX8) (N := 40) hx hb hts zi_X8_seenLine_8 hown hK hP 0 rfl rfl 16 (by decide) (hts (.fieldLink RX8 23 "WaxTurnsModel" "fresh" "[I") (zm_X8_seenLine_r1 (List.mem_of_getElem? (i := 1) rfl))) (fun _ h9 => h9) rfl dX8_seenLine_130 ?_
                refine lv_bipush (v := 6) hx hb dX8_seenLine_133 zk_bipush_6 ?_
                refine lv_dup2_11 hx hb dX8_seenLine_135 rfl rfl ?_
                refine va_iald hx hb hK hP 1 0 rfl rfl (by unfold vp_in; decide +kernel) dX8_seenLine_136 ?_
                refine lv_topi (fun x136 ex136 => ?_)
                have bx136 : (0 : Int) ≤ x136.toInt ∧ x136.toInt ≤ 6 := by rw [ex136]; exact ai_rd bf128.2.2.2.2.2.2.1 zq15 zq16 (by decide) (by decide) (by decide)
                have fqx136 := congrArg Int32.toInt ex136
                have hF0 := hF0.trans (fl_lt_eq (show x136.toInt = (fl_A f128) (6) from fqx136))
                have u136z_x136 : x136.toInt ≤ (5 : Int) := fg_le (m := 6) ex136 (by have uef128 := fg_u ef128 (by omega) (m := 6) (by omega); rw [uef128]; have uef119 := fg_u ef119 (by omega) (m := 6) (by omega); rw [uef119]; exact h6)
                refine lv_iconst (v := 1) hx hb dX8_seenLine_137 zk_iconst_1 ?_
                refine lv_iadd hx hb dX8_seenLine_138 ?_
                refine lv_topi (fun x138 ex138 => ?_)
                have qx138 : x138.toInt = x136.toInt + (1 : Int32).toInt := ai_add ex138 ⟨bx136.1, u136z_x136⟩ ⟨zq1, zq0⟩ (by decide) (by decide)
                have bx138 : (1 : Int) ≤ x138.toInt ∧ x138.toInt ≤ 6 := ⟨by rw [qx138]; exact Int.add_le_add bx136.1 zq1, by rw [qx138]; exact Int.add_le_add u136z_x136 zq0⟩
                have wx138 : x138.toInt = x136.toInt + 1 := qx138
                have hF0 := hF0.trans (fl_lt_eq (show x138.toInt = x136.toInt + 1 from qx138))
                refine va_iast hx hb hK hP hD hS 1 0 rfl rfl (by unfold vp_in; decide +kernel) dX8_seenLine_139 (fun H locs hP hD hS => ?_)
                obtain ⟨f139, ef139⟩ : ∃ g9 : Nat → Int32, g9 = upd f128 (6 : Int32).toNatClampNeg x138 := ⟨_, rfl⟩
                refine zs_1 (y := (a0_16, .inl (ka0_16, 156, .inl (f139)))) hP hD (by rw [ef139]) (fun hP hD => ?_)
                have bf139 : ((∀ k : Nat, 0 ≤ k → k ≤ 0 → (0 : Int) ≤ (f139 k).toInt ∧ (f139 k).toInt ≤ 9) ∧ (∀ k : Nat, 1 ≤ k → k ≤ 1 → (0 : Int) ≤ (f139 k).toInt ∧ (f139 k).toInt ≤ 20) ∧ (∀ k : Nat, 2 ≤ k → k ≤ 2 → (0 : Int) ≤ (f139 k).toInt ∧ (f139 k).toInt ≤ 8) ∧ (∀ k : Nat, 3 ≤ k → k ≤ 3 → (0 : Int) ≤ (f139 k).toInt ∧ (f139 k).toInt ≤ 100) ∧ (∀ k : Nat, 4 ≤ k → k ≤ 4 → (0 : Int) ≤ (f139 k).toInt ∧ (f139 k).toInt ≤ 9) ∧ (∀ k : Nat, 5 ≤ k → k ≤ 5 → (0 : Int) ≤ (f139 k).toInt ∧ (f139 k).toInt ≤ 3) ∧ (∀ k : Nat, 6 ≤ k → k ≤ 6 → (0 : Int) ≤ (f139 k).toInt ∧ (f139 k).toInt ≤ 6) ∧ (∀ k : Nat, 7 ≤ k → k ≤ 9 → (0 : Int) ≤ (f139 k).toInt ∧ (f139 k).toInt ≤ 8) ∧ (∀ k : Nat, 10 ≤ k → k ≤ 11 → (0 : Int) ≤ (f139 k).toInt ∧ (f139 k).toInt ≤ 1) ∧ (∀ k : Nat, 12 ≤ k → k ≤ 29 → (0 : Int) ≤ (f139 k).toInt ∧ (f139 k).toInt ≤ 20) ∧ (∀ k : Nat, 30 ≤ k → k ≤ 35 → (0 : Int) ≤ (f139 k).toInt ∧ (f139 k).toInt ≤ 8) ∧ (∀ k : Nat, 36 ≤ k → k ≤ 47 → (0 : Int) ≤ (f139 k).toInt ∧ (f139 k).toInt ≤ 999) ∧ (∀ k : Nat, 48 ≤ k → k ≤ 59 → (0 : Int) ≤ (f139 k).toInt ∧ (f139 k).toInt ≤ 8) ∧ ((1 : Int) ≤ (f139 11).toInt → (2 : Int) ≤ (f139 0).toInt ∧ (1 : Int) ≤ (f139 1).toInt) ∧ (∀ (j i0 i : Int32), (0 : Int) ≤ j.toInt → j.toInt ≤ 8 → i0.toInt = 12 + 2 * j.toInt → i.toInt = 13 + 2 * j.toInt → (f139 i0.toNatClampNeg).toInt = (1 : Int32).toInt → (1 : Int) ≤ (f139 i.toNatClampNeg).toInt)) := by rw [ef139]; exact ⟨ai_updO bf128.1 _ (Or.inr (ai_ngt_of zq15 (by decide) (by decide))), ai_updO bf128.2.1 _ (Or.inr (ai_ngt_of zq15 (by decide) (by decide))), ai_updO bf128.2.2.1 _ (Or.inr (ai_ngt_of zq15 (by decide) (by decide))), ai_updO bf128.2.2.2.1 _ (Or.inr (ai_ngt_of zq15 (by decide) (by decide))), ai_updO bf128.2.2.2.2.1 _ (Or.inr (ai_ngt_of zq15 (by decide) (by decide))), ai_updO bf128.2.2.2.2.2.1 _ (Or.inr (ai_ngt_of zq15 (by decide) (by decide))), ai_updS bf128.2.2.2.2.2.2.1 _ ⟨(Int.le_trans zq4 bx138.1), bx138.2⟩, ai_updO bf128.2.2.2.2.2.2.2.1 _ (Or.inl (ai_nlt_of zq15 zq16 (by decide) (by decide))), ai_updO bf128.2.2.2.2.2.2.2.2.1 _ (Or.inl (ai_nlt_of zq15 zq16 (by decide) (by decide))), ai_updO bf128.2.2.2.2.2.2.2.2.2.1 _ (Or.inl (ai_nlt_of zq15 zq16 (by decide) (by decide))), ai_updO bf128.2.2.2.2.2.2.2.2.2.2.1 _ (Or.inl (ai_nlt_of zq15 zq16 (by decide) (by decide))), ai_updO bf128.2.2.2.2.2.2.2.2.2.2.2.1 _ (Or.inl (ai_nlt_of zq15 zq16 (by decide) (by decide))), ai_updO bf128.2.2.2.2.2.2.2.2.2.2.2.2.1 _ (Or.inl (ai_nlt_of zq15 zq16 (by decide) (by decide))), fg_o bf128.2.2.2.2.2.2.2.2.2.2.2.2.2.1 (by decide +kernel), fg_ko bf128.2.2.2.2.2.2.2.2.2.2.2.2.2.2 (by decide +kernel)⟩
                have kf139_6 : f139 6 = x138 := by rw [ef139]; exact ai_k1 (by decide +kernel)
                have fqf139 := fl_up_eq ef139
                have hF0 := hF0.trans (fl_lt_eq (show (fl_A f139) = fl_up (fl_A f128) (6) x138.toInt from fqf139))
                have hFe : FX = (v102na0_4.toInt, v102na0_5.toInt, v102na0_6.toInt, v102na0_7.toInt, v102na0_8.toInt, j49a0_9.toInt, j49a0_10.toInt, 0, (fl_A f139), (fl_A v102nfa0_12)) := hF0
                exact W.vret hx hb hr (fun t ht hW => ⟨⟨(), rfl, trivial, v102na0_4, v102na0_5, v102na0_6, v102na0_7, v102na0_8, j49a0_9, j49a0_10, 0, f139, v102nfa0_12, ⟨bv102na0_5.1, bv102na0_5.2⟩, ⟨bv102na0_8.1, bv102na0_8.2⟩, ⟨zq5, Int.le_trans zq6 (by decide)⟩, bf139, (Or.inr rfl), (em_t em49 hraw102_1), hFe, by rw [ht]; exact hP, va_K.moved hW.alike hK, hD⟩, hS.F ht⟩) hS.2.2 dX8_seenLine_140
              · have gc58 := ai_nle c58
                have u58f_j49l4 : j49l4.toInt ≤ (4 : Int) := ai_lthi gc58 u57z_x57
                have l58f_x57 : (1 : Int) ≤ x57.toInt := ai_ltlo gc58 bj49l4_l
                have hF1 := hF1.trans (if_neg (show ¬ (x57.toInt ≤ j49l4.toInt) from Int.not_le.mpr gc58))
                refine lv_aload_n hx hb dX8_seenLine_61 rfl (lv_at hl 0 rfl) ?_
                refine va_get (D := (dC, dI)) (ci := 8) (v := .int 0) (C := RX8) (T := TX8) (N := 40) hx hb hts zi_X8_seenLine_8 hown hK hP 0 rfl rfl 13 (by decide) (hts (.fieldLink RX8 97 "WaxTurnsModel" "failed" "Z") (zm_X8_seenLine_r1 (List.mem_of_getElem? (i := 0) rfl))) (fun _ h9 => h9) rfl dX8_seenLine_62 ?_
                refine lv_if_ne (tgt := 95) hx hb dX8_seenLine_65 (by decide) (fun c65 => absurd (by decide +kernel) c65) (fun _ => ?_)
                refine lv_aload_n hx hb dX8_seenLine_68 rfl (lv_at hl 0 rfl) ?_
                refine va_get (D := (dC, dI)) (ci := 8) (v := .ref a0_16) (C := RX8) (T := TX8) (N := 40) hx hb hts zi_X8_seenLine_8 hown hK hP 0 rfl rfl 16 (by decide) (hts (.fieldLink RX8 23 "WaxTurnsModel" "fresh" "[I") (zm_X8_seenLine_r1 (List.mem_of_getElem? (i := 1) rfl))) (fun _ h9 => h9) rfl dX8_seenLine_69 ?_
                refine lv_bipush (v := 36) hx hb dX8_seenLine_72 zk_bipush_36 ?_
                refine lv_iconst (v := 2) hx hb dX8_seenLine_74 zk_iconst_2 ?_
                refine lv_iload hx hb dX8_seenLine_75 (lv_at hl 4 rfl) ?_
                refine lv_imul hx hb dX8_seenLine_77 ?_
                refine lv_topi (fun x77 ex77 => ?_)
                have qx77 : x77.toInt = (2 : Int32).toInt * j49l4.toInt ∧ (0 : Int) ≤ x77.toInt ∧ x77.toInt ≤ 8 := ai_mul ex77 ⟨zq12, zq13⟩ ⟨bj49l4_l, u58f_j49l4⟩ (by decide) (by decide) zq238
                have wx77 : x77.toInt = 2 * j49l4.toInt := qx77.1
                have hF1 := hF1.trans (fl_lt_eq (show x77.toInt = 2 * j49l4.toInt from qx77.1))
                refine lv_iadd hx hb dX8_seenLine_78 ?_
                refine lv_topi (fun x78 ex78 => ?_)
                have qx78 : x78.toInt = (36 : Int32).toInt + x77.toInt := ai_add ex78 ⟨zq182, zq183⟩ ⟨qx77.2.1, qx77.2.2⟩ (by decide) (by decide)
                have bx78 : (36 : Int) ≤ x78.toInt ∧ x78.toInt ≤ 44 := ⟨by rw [qx78]; exact Int.add_le_add zq182 qx77.2.1, by rw [qx78]; exact Int.add_le_add zq183 qx77.2.2⟩
                have wx78 : x78.toInt = 36 + x77.toInt := qx78
                have hF1 := hF1.trans (fl_lt_eq (show x78.toInt = 36 + x77.toInt from qx78))
                refine lv_iconst (v := 1) hx hb dX8_seenLine_79 zk_iconst_1 ?_
                refine lv_iadd hx hb dX8_seenLine_80 ?_
                refine lv_topi (fun x80 ex80 => ?_)
                have qx80 : x80.toInt = x78.toInt + (1 : Int32).toInt := ai_add ex80 ⟨bx78.1, bx78.2⟩ ⟨zq1, zq0⟩ (by decide) (by decide)
                have bx80 : (37 : Int) ≤ x80.toInt ∧ x80.toInt ≤ 45 := ⟨by rw [qx80]; exact Int.add_le_add bx78.1 zq1, by rw [qx80]; exact Int.add_le_add bx78.2 zq0⟩
                have wx80 : x80.toInt = x78.toInt + 1 := qx80
                have hF1 := hF1.trans (fl_lt_eq (show x80.toInt = x78.toInt + 1 from qx80))
                refine va_iald hx hb hK hP 1 0 rfl rfl (ai_in bx80.1 bx80.2 (by decide) (by decide)) dX8_seenLine_81 ?_
                refine lv_topi (fun x81 ex81 => ?_)
                have bx81 : (0 : Int) ≤ x81.toInt ∧ x81.toInt ≤ 999 := by rw [ex81]; exact ai_rd bfa0_16.2.2.2.2.2.2.2.2.2.2.2.1 bx80.1 bx80.2 (by decide) (by decide) (by decide)
                have fqx81 := congrArg Int32.toInt ex81
                have hF1 := hF1.trans (fl_lt_eq (show x81.toInt = (fl_A fa0_16) (x80.toInt.toNat) from fqx81))
                refine lv_iload_n hx hb dX8_seenLine_82 rfl (lv_at hl 3 rfl) ?_
                refine lv_icmp_ne (tgt := 95) hx hb dX8_seenLine_83 (by decide) (fun c83 => ?_) (fun c83 => ?_)
                · have gc83 := ai_ne c83
                  have hF1 := hF1.trans (if_neg (show ¬ (x81.toInt = j49l3.toInt) from  gc83))
                  obtain ⟨x95, ex95⟩ : ∃ y : Int32, y = j49l4 + Int32.ofInt 1 := ⟨_, rfl⟩
                  have qx95 : x95.toInt = j49l4.toInt + 1 := ai_inc ex95 (by decide) (by decide) u58f_j49l4 (by decide)
                  have bx95 : (1 : Int) ≤ x95.toInt ∧ x95.toInt ≤ 5 := ⟨by rw [qx95]; exact Int.add_le_add bj49l4_l (Int.le_refl _), by rw [qx95]; exact Int.add_le_add u58f_j49l4 (Int.le_refl _)⟩
                  refine lv_iinc (v := x95) (lv' := [(4, .int x95), (0, .ref a0), (1, .int x19), (2, .int r27), (3, .int j49l3)]) hx hb dX8_seenLine_95 hl (k := 4) rfl ex95.symm (by decide) rfl (fun ls hl => ?_)
                  have hF1 := hF1.trans (fl_lt_eq (show x95.toInt = j49l4.toInt + 1 from qx95))
                  refine lv_goto (tgt := 49) hx hb dX8_seenLine_98 (by decide) ?_
                  exact (hK0 _ _ _).mp (ih49 x95 j49l3 j49a0_4 j49a0_5 j49a0_6 j49a0_7 j49a0_8 j49a0_9 j49a0_10 0 j49a0_12_a _ _ _ (by first | exact zg_s hm49 qx95 | (have h0 := qx95; omega)) (Int.le_trans zq4 bx95.1) bx95.2 wb49.1 wb49.2 bj49a0_5_l bj49a0_5_u bj49a0_8_l bj49a0_8_u zq5 (Int.le_trans zq6 zq4) (by omega) ⟨wa49.1, wa49.2⟩ ⟨wb49.1, wb49.2⟩ (by rw [show (0 : Int32).toInt = 0 from by decide]; exact (hF0.trans (fl_wh_l (hSX49.trans hF1)))) hP hD hS (lv_sub hl [1, 2, 3, 4, 0] rfl))
                · have gc83 := ai_eq c83
                  have u83f_x81 : x81.toInt ≤ (999 : Int) := bx81.2
                  have l83f_x81 : (0 : Int) ≤ x81.toInt := bx81.1
                  have u83f_j49l3 : j49l3.toInt ≤ (999 : Int) := wb49.2
                  have l83f_j49l3 : (0 : Int) ≤ j49l3.toInt := wb49.1
                  have hF1 := hF1.trans (if_pos (show x81.toInt = j49l3.toInt from gc83))
                  refine lv_aload_n hx hb dX8_seenLine_86 rfl (lv_at hl 0 rfl) ?_
                  refine lv_iconst (v := 3) hx hb dX8_seenLine_87 zk_iconst_3 ?_
                  refine lv_aload_n hx hb dX8_seenLine_88 rfl (lv_at hl 0 rfl) ?_
                  refine va_get (D := (dC, dI)) (ci := 8) (v := .int j49a0_4) (C := RX8) (T := TX8) (N := 40) hx hb hts zi_X8_seenLine_8 hown hK hP 0 rfl rfl 4 (by decide) (hts (.fieldLink RX8 78 "WaxTurnsModel" "at" "I") (zm_X8_seenLine_r1 (List.mem_of_getElem? (i := 2) rfl))) (fun _ h9 => h9) rfl dX8_seenLine_89 ?_
                  refine va_callv (va_runV (As := [.int 3, .int j49a0_4]) (rest := []) ⟨hx, hb, hml, hown, hts⟩ (fG_X8_wrong l dC dI H.size a0 3 j49a0_4 a0g_0 (Value.ref a0_1) a0g_2 (Value.int a0_3) (Value.int j49a0_4) (Value.int j49a0_5) (Value.int j49a0_6) (Value.int j49a0_7) (Value.int j49a0_8) a0g_11 (Value.ref a0_12) a0g_14 a0g_15 (Value.ref a0_16) a0g_17 a0g_18 a0g_19 a0g_20 a0g_21 a0g_22 a0g_23 a0g_24 a0g_25 a0g_26 a0g_27 a0g_28 a0g_29 a0g_30 a0g_31 a0g_32 a0g_33 a0g_34 a0g_35 a0g_36 a0g_37 a0g_38 a0g_39 j49a0_9 j49a0_10 ) (cwV 2 hts gX8_seenLine_X8_wrong rfl rfl rfl zd_X8_wrong ⟨Nat.le_of_ble_eq_true rfl, Nat.le_of_ble_eq_true rfl⟩) ⟨ax_blind (fun _ _ _ _ _ => trivial), zr_8 (zp_K hK) (zp_P1 hP) (q0 := 0) rfl, ax_pre (zp_P1 hP) (zp_K hK) (zp_D1 hD) (fun _ _ => trivial)⟩ rfl rfl hl.1 rfl (lv_room (Nat.le_of_ble_eq_true rfl)) dX8_seenLine_92 ⟨Nat.le_of_ble_eq_true rfl, Nat.le_of_ble_eq_true rfl⟩) hS (fun q _ h => zp_F1 hD hS hA q h) (zp_F1 hD hS hA) (fun u t H locs ht hvm hw => zx_2 (fun v92na0_9 v92na0_10 => zy_1 (fun hraw92_0 hB hz1 hk1 hS1 => zo1 hB ht hP hD hk1 (zp_F1 hD hS hA) hS1 (fun hP hK1 hD hS => ?_))))
                  rw [show (3 : Int32).toInt = 3 from by decide] at hraw92_0
                  have hc92 : FfG_X8_wrong 3 j49a0_4.toInt = (v92na0_9.toInt, v92na0_10.toInt) := hraw92_0
                  have hF1 := hF1.trans (fl_c2_eq hc92)
                  obtain ⟨x95, ex95⟩ : ∃ y : Int32, y = j49l4 + Int32.ofInt 1 := ⟨_, rfl⟩
                  have qx95 : x95.toInt = j49l4.toInt + 1 := ai_inc ex95 (by decide) (by decide) u58f_j49l4 (by decide)
                  have bx95 : (1 : Int) ≤ x95.toInt ∧ x95.toInt ≤ 5 := ⟨by rw [qx95]; exact Int.add_le_add bj49l4_l (Int.le_refl _), by rw [qx95]; exact Int.add_le_add u58f_j49l4 (Int.le_refl _)⟩
                  refine lv_iinc (v := x95) (lv' := [(4, .int x95), (0, .ref a0), (1, .int x19), (2, .int r27), (3, .int j49l3)]) hx hb dX8_seenLine_95 hl (k := 4) rfl ex95.symm (by decide) rfl (fun ls hl => ?_)
                  have hF1 := hF1.trans (fl_lt_eq (show x95.toInt = j49l4.toInt + 1 from qx95))
                  refine lv_goto (tgt := 49) hx hb dX8_seenLine_98 (by decide) ?_
                  exact (hK0 _ _ _).mp (ih49 x95 j49l3 j49a0_4 j49a0_5 j49a0_6 j49a0_7 j49a0_8 v92na0_9 v92na0_10 1 j49a0_12_a _ _ _ (by first | exact zg_s hm49 qx95 | (have h0 := qx95; omega)) (Int.le_trans zq4 bx95.1) bx95.2 l83f_j49l3 u83f_j49l3 bj49a0_5_l bj49a0_5_u bj49a0_8_l bj49a0_8_u (Int.le_trans zq4 zq1) zq0 (by omega) ⟨wa49.1, wa49.2⟩ ⟨l83f_j49l3, u83f_j49l3⟩ (by rw [show (1 : Int32).toInt = 1 from by decide]; exact (hF0.trans (fl_wh_l (hSX49.trans hF1)))) hP hD hS (lv_sub hl [1, 2, 3, 4, 0] rfl))
            · subst hv49
              have hF1 := hF1.trans (if_neg (by decide))
              refine lv_iload hx hb dX8_seenLine_49 (lv_at hl 4 rfl) ?_
              refine lv_aload_n hx hb dX8_seenLine_51 rfl (lv_at hl 0 rfl) ?_
              refine va_get (D := (dC, dI)) (ci := 8) (v := .ref a0_16) (C := RX8) (T := TX8) (N := 40) hx hb hts zi_X8_seenLine_8 hown hK hP 0 rfl rfl 16 (by decide) (hts (.fieldLink RX8 23 "WaxTurnsModel" "fresh" "[I") (zm_X8_seenLine_r1 (List.mem_of_getElem? (i := 1) rfl))) (fun _ h9 => h9) rfl dX8_seenLine_52 ?_
              refine lv_bipush (v := 6) hx hb dX8_seenLine_55 zk_bipush_6 ?_
              refine va_iald hx hb hK hP 1 0 rfl rfl (by unfold vp_in; decide +kernel) dX8_seenLine_57 ?_
              refine lv_topi (fun x57 ex57 => ?_)
              have bx57 : (0 : Int) ≤ x57.toInt ∧ x57.toInt ≤ 6 := by rw [ex57]; exact ai_rd bfa0_16.2.2.2.2.2.2.1 zq15 zq16 (by decide) (by decide) (by decide)
              have fqx57 := congrArg Int32.toInt ex57
              have hF1 := hF1.trans (fl_lt_eq (show x57.toInt = (fl_A fa0_16) (6) from fqx57))
              have u57z_x57 : x57.toInt ≤ (5 : Int) := fg_le (m := 6) ex57 h6
              refine lv_icmp_ge (tgt := 101) hx hb dX8_seenLine_58 (by decide) (fun c58 => ?_) (fun c58 => ?_)
              · have gc58 := ai_le c58
                have u58t_x57 : x57.toInt ≤ (5 : Int) := u57z_x57
                have l58t_j49l4 : (0 : Int) ≤ j49l4.toInt := bj49l4_l
                have hF1 := hF1.trans (if_pos (show x57.toInt ≤ j49l4.toInt from gc58))
                have hF0 := hF0.trans (fl_wh_r (hSX49.trans hF1))
                refine lv_aload_n hx hb dX8_seenLine_101 rfl (lv_at hl 0 rfl) ?_
                refine va_callv (va_runV (As := []) (rest := []) ⟨hx, hb, hml, hown, hts⟩ (fF_X8_pass l dC dI H.size a0 a0g_0 (Value.ref a0_1) a0g_2 (Value.int a0_3) (Value.int j49a0_4) (Value.int j49a0_5) (Value.int j49a0_6) (Value.int j49a0_7) (Value.int j49a0_8) (Value.int j49a0_9) (Value.int j49a0_10) a0g_11 (Value.ref a0_12) a0g_14 a0g_15 (Value.ref a0_16) a0g_17 a0g_18 a0g_19 a0g_20 a0g_21 a0g_22 a0g_23 a0g_24 a0g_25 a0g_26 a0g_27 a0g_28 a0g_29 a0g_30 a0g_31 a0g_32 a0g_33 a0g_34 a0g_35 a0g_36 a0g_37 a0g_38 a0g_39 ) (cwV 0 hts gX8_seenLine_X8_pass rfl rfl rfl zd_X8_pass ⟨Nat.le_of_ble_eq_true rfl, Nat.le_of_ble_eq_true rfl⟩) ⟨ax_blind (fun _ _ _ _ _ => trivial), zr_8 (zp_K hK) (zp_P1 hP) (q0 := 0) rfl, ax_pre (zp_P1 hP) (zp_K hK) (zp_D1 hD) (fun _ _ => trivial)⟩ rfl rfl hl.1 rfl (lv_room (Nat.le_of_ble_eq_true rfl)) dX8_seenLine_102 ⟨Nat.le_of_ble_eq_true rfl, Nat.le_of_ble_eq_true rfl⟩) hS (fun q _ h => zp_F1 hD hS hA q h) (zp_F1 hD hS hA) (fun u t H locs ht hvm hw hB hz1 hk1 hS1 => zo1 hB ht hP hD hk1 (zp_F1 hD hS hA) hS1 (fun hP hK1 hD hS => ?_))
                refine lv_aload_n hx hb dX8_seenLine_105 rfl (lv_at hl 0 rfl) ?_
                refine va_get (D := (dC, dI)) (ci := 8) (v := .int 1) (C := RX8) (T := TX8) (N := 40) hx hb hts zi_X8_seenLine_8 hown hK hP 0 rfl rfl 13 (by decide) (hts (.fieldLink RX8 97 "WaxTurnsModel" "failed" "Z") (zm_X8_seenLine_r1 (List.mem_of_getElem? (i := 0) rfl))) (fun _ h9 => h9) rfl dX8_seenLine_106 ?_
                refine lv_if_eq (tgt := 113) hx hb dX8_seenLine_109 (by decide) (fun c109 => absurd c109 (by decide +kernel)) (fun _ => ?_)
                have hFe : FX = (j49a0_4.toInt, j49a0_5.toInt, j49a0_6.toInt, j49a0_7.toInt, j49a0_8.toInt, j49a0_9.toInt, j49a0_10.toInt, 1, (fl_A fa0_16), (fl_A j49a0_12_a)) := hF0
                exact W.vret hx hb hr (fun t ht hW => ⟨⟨(), rfl, trivial, j49a0_4, j49a0_5, j49a0_6, j49a0_7, j49a0_8, j49a0_9, j49a0_10, 1, fa0_16, j49a0_12_a, ⟨bj49a0_5_l, bj49a0_5_u⟩, ⟨bj49a0_8_l, bj49a0_8_u⟩, ⟨Int.le_trans (by decide) zq1, zq0⟩, bfa0_16, (Or.inl rfl), em49, hFe, by rw [ht]; exact hP, va_K.moved hW.alike hK, hD⟩, hS.F ht⟩) hS.2.2 dX8_seenLine_112
              · have gc58 := ai_nle c58
                have u58f_j49l4 : j49l4.toInt ≤ (4 : Int) := ai_lthi gc58 u57z_x57
                have l58f_x57 : (1 : Int) ≤ x57.toInt := ai_ltlo gc58 bj49l4_l
                have hF1 := hF1.trans (if_neg (show ¬ (x57.toInt ≤ j49l4.toInt) from Int.not_le.mpr gc58))
                refine lv_aload_n hx hb dX8_seenLine_61 rfl (lv_at hl 0 rfl) ?_
                refine va_get (D := (dC, dI)) (ci := 8) (v := .int 1) (C := RX8) (T := TX8) (N := 40) hx hb hts zi_X8_seenLine_8 hown hK hP 0 rfl rfl 13 (by decide) (hts (.fieldLink RX8 97 "WaxTurnsModel" "failed" "Z") (zm_X8_seenLine_r1 (List.mem_of_getElem? (i := 0) rfl))) (fun _ h9 => h9) rfl dX8_seenLine_62 ?_
                refine lv_if_ne (tgt := 95) hx hb dX8_seenLine_65 (by decide) (fun _ => ?_) (fun c65 => absurd c65 (by decide +kernel))
                obtain ⟨x95, ex95⟩ : ∃ y : Int32, y = j49l4 + Int32.ofInt 1 := ⟨_, rfl⟩
                have qx95 : x95.toInt = j49l4.toInt + 1 := ai_inc ex95 (by decide) (by decide) u58f_j49l4 (by decide)
                have bx95 : (1 : Int) ≤ x95.toInt ∧ x95.toInt ≤ 5 := ⟨by rw [qx95]; exact Int.add_le_add bj49l4_l (Int.le_refl _), by rw [qx95]; exact Int.add_le_add u58f_j49l4 (Int.le_refl _)⟩
                refine lv_iinc (v := x95) (lv' := [(4, .int x95), (0, .ref a0), (1, .int x19), (2, .int r27), (3, .int j49l3)]) hx hb dX8_seenLine_95 hl (k := 4) rfl ex95.symm (by decide) rfl (fun ls hl => ?_)
                have hF1 := hF1.trans (fl_lt_eq (show x95.toInt = j49l4.toInt + 1 from qx95))
                refine lv_goto (tgt := 49) hx hb dX8_seenLine_98 (by decide) ?_
                exact (hK0 _ _ _).mp (ih49 x95 j49l3 j49a0_4 j49a0_5 j49a0_6 j49a0_7 j49a0_8 j49a0_9 j49a0_10 1 j49a0_12_a _ _ _ (by first | exact zg_s hm49 qx95 | (have h0 := qx95; omega)) (Int.le_trans zq4 bx95.1) bx95.2 wb49.1 wb49.2 bj49a0_5_l bj49a0_5_u bj49a0_8_l bj49a0_8_u (Int.le_trans zq4 zq1) zq0 (by omega) ⟨wa49.1, wa49.2⟩ ⟨wb49.1, wb49.2⟩ (by rw [show (1 : Int32).toInt = 1 from by decide]; exact (hF0.trans (fl_wh_l (hSX49.trans hF1)))) hP hD hS (lv_sub hl [1, 2, 3, 4, 0] rfl))
        exact (hK0 _ _ _).mp (J49 6 0 r42 v34na0_4 v34na0_5 v34na0_6 v34na0_7 v34na0_8 v42na0_9 v42na0_10 1 v34nfa0_12 _ _ _ (by first | decide +kernel | (have h1 : (0 : Int) ≤ (0 : Int32).toInt := zq5; have h2 : (0 : Int32).toInt ≤ (0 : Int) := zq6; omega)) zq5 (Int.le_trans zq6 zq224) (Int.le_trans zq5 (Int.le_of_eq (congrArg Int32.toInt h42).symm)) (Int.le_trans (Int.le_trans (Int.le_of_eq (congrArg Int32.toInt h42)) zq6) zq81) bv34na0_5.1 bv34na0_5.2 bv34na0_8.1 bv34na0_8.2 (Int.le_trans zq4 zq1) zq0 (by omega) ⟨(Int.le_trans zq5 h27.1), (Int.le_trans h27.2 h24_1)⟩ ⟨(Int.le_trans zq5 (Int.le_of_eq (congrArg Int32.toInt h42).symm)), (Int.le_trans (Int.le_trans (Int.le_of_eq (congrArg Int32.toInt h42)) zq6) zq81)⟩ (by rw [show (0 : Int32).toInt = 0 from by decide, show (1 : Int32).toInt = 1 from by decide]; exact hF0) hP hD hS (lv_sub hl [4, 3, 2, 1, 0] rfl))
      · obtain ⟨hw, h42⟩ := hw
        subst hw
        have hF0 := hF0.trans (if_neg (by decide))
        refine lv_istore_n (lv' := [(3, .int r42), (2, .int r27), (1, .int x19), (0, .ref a0)]) hx hb dX8_seenLine_45 rfl hl (by decide) rfl (fun ls hl => ?_)
        refine lv_iconst (v := 0) hx hb dX8_seenLine_46 zk_iconst_0 ?_
        refine lv_istore (lv' := [(4, .int 0), (3, .int r42), (2, .int r27), (1, .int x19), (0, .ref a0)]) hx hb dX8_seenLine_47 hl (by decide) rfl (fun ls hl => ?_)
        have J49 : ∀ (n : Nat) (j49l4 : Int32) (j49l3 : Int32) (j49a0_4 : Int32) (j49a0_5 : Int32) (j49a0_6 : Int32) (j49a0_7 : Int32) (j49a0_8 : Int32) (j49a0_9 : Int32) (j49a0_10 : Int32) (j49a0_13 : Int32) (j49a0_12_a : Nat → Int32) (H : Heap) (locs : List Loc) (ls : Array Slot), (6 : Int) - j49l4.toInt ≤ (n : Int) → (0 : Int) ≤ j49l4.toInt → j49l4.toInt ≤ (5 : Int) → (0 : Int) ≤ j49l3.toInt → j49l3.toInt ≤ (999 : Int) → (0 : Int) ≤ j49a0_5.toInt → j49a0_5.toInt ≤ (900 : Int) → (0 : Int) ≤ j49a0_8.toInt → j49a0_8.toInt ≤ (900 : Int) → (0 : Int) ≤ j49a0_13.toInt → j49a0_13.toInt ≤ (1 : Int) → (a0_5.toInt ≤ j49a0_5.toInt ∧ ((j49a0_5.toInt = a0_5.toInt ∧ j49a0_6.toInt = a0_6.toInt) ∨ j49a0_6.toInt ≠ 59 ∨ a0_5.toInt < j49a0_5.toInt)) → ((0 : Int) ≤ r27.toInt ∧ r27.toInt ≤ 8) → ((0 : Int) ≤ j49l3.toInt ∧ j49l3.toInt ≤ 999) → (FX = fl_wh (fun t9 => SfG_X8_seenLine_49_4 a0_3.toInt (fl_A fa0_16) (fl_A fa0_1) x19.toInt r27.toInt t9.1 t9.2.1 t9.2.2.1 t9.2.2.2.1 t9.2.2.2.2.1 t9.2.2.2.2.2.1 t9.2.2.2.2.2.2.1 t9.2.2.2.2.2.2.2.1 t9.2.2.2.2.2.2.2.2.1 t9.2.2.2.2.2.2.2.2.2.1 t9.2.2.2.2.2.2.2.2.2.2) (0, 0, 0, 0, 0, 0, 0, 0, (fun _ => 0), (fun _ => 0)) n (j49l4.toInt, j49l3.toInt, j49a0_4.toInt, j49a0_5.toInt, j49a0_6.toInt, j49a0_7.toInt, j49a0_8.toInt, j49a0_9.toInt, j49a0_10.toInt, j49a0_13.toInt, (fl_A j49a0_12_a))) → va_P (dC, dI) vwCl [(a0, .inr (8, [a0g_0, Value.ref a0_1, a0g_2, Value.int a0_3, Value.int j49a0_4, Value.int j49a0_5, Value.int j49a0_6, Value.int j49a0_7, Value.int j49a0_8, Value.int j49a0_9, Value.int j49a0_10, a0g_11, Value.ref a0_12, Value.int j49a0_13, a0g_14, a0g_15, Value.ref a0_16, a0g_17, a0g_18, a0g_19, a0g_20, a0g_21, a0g_22, a0g_23, a0g_24, a0g_25, a0g_26, a0g_27, a0g_28, a0g_29, a0g_30, a0g_31, a0g_32, a0g_33, a0g_34, a0g_35, a0g_36, a0g_37, a0g_38, a0g_39])), (a0_16, .inl (ka0_16, 156, .inl (fa0_16))), (a0_1, .inl (ka0_1, 900, .inl (fa0_1))), (a0_12, .inl (ka0_12, 8, .inl (j49a0_12_a)))] H → va_D A [(a0, .inr (8, [a0g_0, Value.ref a0_1, a0g_2, Value.int a0_3, Value.int j49a0_4, Value.int j49a0_5, Value.int j49a0_6, Value.int j49a0_7, Value.int j49a0_8, Value.int j49a0_9, Value.int j49a0_10, a0g_11, Value.ref a0_12, Value.int j49a0_13, a0g_14, a0g_15, Value.ref a0_16, a0g_17, a0g_18, a0g_19, a0g_20, a0g_21, a0g_22, a0g_23, a0g_24, a0g_25, a0g_26, a0g_27, a0g_28, a0g_29, a0g_30, a0g_31, a0g_32, a0g_33, a0g_34, a0g_35, a0g_36, a0g_37, a0g_38, a0g_39])), (a0_16, .inl (ka0_16, 156, .inl (fa0_16))), (a0_1, .inl (ka0_1, 900, .inl (fa0_1))), (a0_12, .inl (ka0_12, 8, .inl (j49a0_12_a)))] → va_S A s.heap H locs → lv_has ls 5 [(0, .ref a0), (1, .int x19), (2, .int r27), (3, .int j49l3), (4, .int j49l4)] → K H locs (F0 m 49 ls []) := by
          intro n
          induction n with
          | zero =>
            intro j49l4 j49l3 j49a0_4 j49a0_5 j49a0_6 j49a0_7 j49a0_8 j49a0_9 j49a0_10 j49a0_13 j49a0_12_a H locs ls hm bj49l4_l bj49l4_u bj49l3_l bj49l3_u bj49a0_5_l bj49a0_5_u bj49a0_8_l bj49a0_8_u bj49a0_13_l bj49a0_13_u em49 wa49 wb49 hF0 hP hD hS hl
            first | exact zg_0 hm bj49l4_u (by decide) | (have h8 := ai_min j49l4; have h9 := ai_max j49l4; exact absurd hm (by omega))
          | succ n ih49 =>
            intro j49l4 j49l3 j49a0_4 j49a0_5 j49a0_6 j49a0_7 j49a0_8 j49a0_9 j49a0_10 j49a0_13 j49a0_12_a H locs ls hm bj49l4_l bj49l4_u bj49l3_l bj49l3_u bj49a0_5_l bj49a0_5_u bj49a0_8_l bj49a0_8_u bj49a0_13_l bj49a0_13_u em49 wa49 wb49 hF0 hP hD hS hl
            refine (hK0 _ _ _).mpr ?_
            have hm49 := hm
            obtain ⟨SX49, hSX49⟩ : ∃ q9, SfG_X8_seenLine_49_4 a0_3.toInt (fl_A fa0_16) (fl_A fa0_1) x19.toInt r27.toInt j49l4.toInt j49l3.toInt j49a0_4.toInt j49a0_5.toInt j49a0_6.toInt j49a0_7.toInt j49a0_8.toInt j49a0_9.toInt j49a0_10.toInt j49a0_13.toInt (fl_A j49a0_12_a) = q9 := ⟨_, rfl⟩
            have hF1 := hSX49.symm.trans (SfG_X8_seenLine_49_4.eq_1 a0_3.toInt (fl_A fa0_16) (fl_A fa0_1) x19.toInt r27.toInt j49l4.toInt j49l3.toInt j49a0_4.toInt j49a0_5.toInt j49a0_6.toInt j49a0_7.toInt j49a0_8.toInt j49a0_9.toInt j49a0_10.toInt j49a0_13.toInt (fl_A j49a0_12_a))
            have hv49 : j49a0_13 = 0 ∨ j49a0_13 = 1 := by
              have h1 : (0 : Int) ≤ j49a0_13.toInt := bj49a0_13_l
              have h2 : j49a0_13.toInt ≤ (1 : Int) := bj49a0_13_u
              rcases (show j49a0_13.toInt = 0 ∨ j49a0_13.toInt = 1 by omega) with h | h
              · exact Or.inl (Int32.toInt_inj.mp (h.trans (by decide)))
              · exact Or.inr (Int32.toInt_inj.mp (h.trans (by decide)))
            rcases hv49 with hv49 | hv49
            · subst hv49
              have hF1 := hF1.trans (if_pos (by decide))
              refine lv_iload hx hb dX8_seenLine_49 (lv_at hl 4 rfl) ?_
              refine lv_aload_n hx hb dX8_seenLine_51 rfl (lv_at hl 0 rfl) ?_
              refine va_get (D := (dC, dI)) (ci := 8) (v := .ref a0_16) (C := RX8) (T := TX8) (N := 40) hx hb hts zi_X8_seenLine_8 hown hK hP 0 rfl rfl 16 (by decide) (hts (.fieldLink RX8 23 "WaxTurnsModel" "fresh" "[I") (zm_X8_seenLine_r1 (List.mem_of_getElem? (i := 1) rfl))) (fun _ h9 => h9) rfl dX8_seenLine_52 ?_
              refine lv_bipush (v := 6) hx hb dX8_seenLine_55 zk_bipush_6 ?_
              refine va_iald hx hb hK hP 1 0 rfl rfl (by unfold vp_in; decide +kernel) dX8_seenLine_57 ?_
              refine lv_topi (fun x57 ex57 => ?_)
              have bx57 : (0 : Int) ≤ x57.toInt ∧ x57.toInt ≤ 6 := by rw [ex57]; exact ai_rd bfa0_16.2.2.2.2.2.2.1 zq15 zq16 (by decide) (by decide) (by decide)
              have fqx57 := congrArg Int32.toInt ex57
              have hF1 := hF1.trans (fl_lt_eq (show x57.toInt = (fl_A fa0_16) (6) from fqx57))
              have u57z_x57 : x57.toInt ≤ (5 : Int) := fg_le (m := 6) ex57 h6
              refine lv_icmp_ge (tgt := 101) hx hb dX8_seenLine_58 (by decide) (fun c58 => ?_) (fun c58 => ?_)
              · have gc58 := ai_le c58
                have u58t_x57 : x57.toInt ≤ (5 : Int) := u57z_x57
                have l58t_j49l4 : (0 : Int) ≤ j49l4.toInt := bj49l4_l
                have hF1 := hF1.trans (if_pos (show x57.toInt ≤ j49l4.toInt from gc58))
                have hF0 := hF0.trans (fl_wh_r (hSX49.trans hF1))
                refine lv_aload_n hx hb dX8_seenLine_101 rfl (lv_at hl 0 rfl) ?_
                refine zc_cutc (wc := [(a0, .inr (8, [a0g_0, Value.ref a0_1, a0g_2, Value.int a0_3, Value.int j49a0_4, Value.int j49a0_5, Value.int j49a0_6, Value.int j49a0_7, Value.int j49a0_8, Value.int j49a0_9, Value.int j49a0_10, a0g_11, Value.ref a0_12, Value.int 0, a0g_14, a0g_15, Value.ref a0_16, a0g_17, a0g_18, a0g_19, a0g_20, a0g_21, a0g_22, a0g_23, a0g_24, a0g_25, a0g_26, a0g_27, a0g_28, a0g_29, a0g_30, a0g_31, a0g_32, a0g_33, a0g_34, a0g_35, a0g_36, a0g_37, a0g_38, a0g_39])), (a0_1, .inl (ka0_1, 900, .inl (fa0_1))), (a0_12, .inl (ka0_12, 8, .inl (j49a0_12_a)))]) hP hD hS hA [0, 2, 3] (by decide +kernel) rfl (fun hPc hDc hFc hCc => ?_)
                have hKc := hK.sub (tys' := [(ka0_1, .int), (ka0_12, .int)]) [1, 2] rfl
                refine va_callv (va_runV (As := []) (rest := []) ⟨hx, hb, hml, hown, hts⟩ (fG_X8_pass l dC dI H.size a0 a0g_0 a0g_2 (Value.int j49a0_9) (Value.int j49a0_10) a0g_11 a0g_14 a0g_15 (Value.ref a0_16) a0g_17 a0g_18 a0g_19 a0g_20 a0g_21 a0g_22 a0g_23 a0g_24 a0g_25 a0g_26 a0g_27 a0g_28 a0g_29 a0g_30 a0g_31 a0g_32 a0g_33 a0g_34 a0g_35 a0g_36 a0g_37 a0g_38 a0g_39 a0_1 a0_3 j49a0_4 j49a0_5 j49a0_6 j49a0_7 j49a0_8 a0_12 ka0_1 fa0_1 ka0_12 j49a0_12_a ba0_3_l ba0_3_u bj49a0_5_l bj49a0_5_u bj49a0_8_l bj49a0_8_u) (cwV 0 hts gX8_seenLine_X8_pass rfl rfl rfl zd_X8_pass ⟨Nat.le_of_ble_eq_true rfl, Nat.le_of_ble_eq_true rfl⟩) ⟨ax_blind (fun _ _ _ _ _ => trivial), zr_8 hKc hPc (q0 := 0) rfl, ax_pre hPc hKc hDc (fun _ _ => trivial)⟩ rfl rfl hl.1 rfl (lv_room (Nat.le_of_ble_eq_true rfl)) dX8_seenLine_102 ⟨Nat.le_of_ble_eq_true rfl, Nat.le_of_ble_eq_true rfl⟩) hS (fun q _ h => hFc q h) hFc (fun u t H locs ht hvm hw => zx_6 (fun v102na0_4 v102na0_5 v102na0_6 v102na0_7 v102na0_8 v102nfa0_12 => zy_5 (fun bv102na0_5 bv102na0_8 hraw102_0 hraw102_1 hraw102_2 hB hz1 hk1 hS1 => zo hB ht hS1 (fun hP1 hK1 hD1 hS => ?_))))
                refine zc_backc (w := [(a0, .inr (8, [a0g_0, Value.ref a0_1, a0g_2, Value.int a0_3, Value.int v102na0_4, Value.int v102na0_5, Value.int v102na0_6, Value.int v102na0_7, Value.int v102na0_8, Value.int j49a0_9, Value.int j49a0_10, a0g_11, Value.ref a0_12, Value.int 0, a0g_14, a0g_15, Value.ref a0_16, a0g_17, a0g_18, a0g_19, a0g_20, a0g_21, a0g_22, a0g_23, a0g_24, a0g_25, a0g_26, a0g_27, a0g_28, a0g_29, a0g_30, a0g_31, a0g_32, a0g_33, a0g_34, a0g_35, a0g_36, a0g_37, a0g_38, a0g_39])), (a0_16, .inl (ka0_16, 156, .inl (fa0_16))), (a0_1, .inl (ka0_1, 900, .inl (fa0_1))), (a0_12, .inl (ka0_12, 8, .inl (v102nfa0_12)))]) hP hD hCc hk1 hFc hP1 hD1 [.inr 0, .inl 1, .inr 1, .inr 2] (by decide +kernel) rfl (fun hP hD => ?_)
                have hc102 : FfG_X8_pass a0_3.toInt j49a0_5.toInt (fl_A fa0_1) (fl_A j49a0_12_a) = (v102na0_4.toInt, v102na0_5.toInt, v102na0_6.toInt, v102na0_7.toInt, v102na0_8.toInt, (fl_A v102nfa0_12)) := hraw102_2
                have hF0 := hF0.trans (fl_c6_eq hc102)
                refine lv_aload_n hx hb dX8_seenLine_105 rfl (lv_at hl 0 rfl) ?_
                refine va_get (D := (dC, dI)) (ci := 8) (v := .int 0) (C := RX8) (T := TX8) (N := 40) hx hb hts zi_X8_seenLine_8 hown hK hP 0 rfl rfl 13 (by decide) (hts (.fieldLink RX8 97 "WaxTurnsModel" "failed" "Z") (zm_X8_seenLine_r1 (List.mem_of_getElem? (i := 0) rfl))) (fun _ h9 => h9) rfl dX8_seenLine_106 ?_
                refine lv_if_eq (tgt := 113) hx hb dX8_seenLine_109 (by decide) (fun _ => ?_) (fun c109 => absurd (by decide +kernel) c109)
                refine lv_aload_n hx hb dX8_seenLine_113 rfl (lv_at hl 0 rfl) ?_
                refine va_get (D := (dC, dI)) (ci := 8) (v := .ref a0_16) (C := RX8) (T := TX8) (N := 40) hx hb hts zi_X8_seenLine_8 hown hK hP 0 rfl rfl 16 (by decide) (hts (.fieldLink RX8 23 "WaxTurnsModel" "fresh" "[I") (zm_X8_seenLine_r1 (List.mem_of_getElem? (i := 1) rfl))) (fun _ h9 => h9) rfl dX8_seenLine_114 ?_
                refine lv_iload_n hx hb dX8_seenLine_117 rfl (lv_at hl 1 rfl) ?_
                refine lv_iload_n hx hb dX8_seenLine_118 rfl (lv_at hl 2 rfl) ?_
                refine va_iast hx hb hK hP hD hS 1 0 rfl rfl (ai_in bx19.1 bx19.2 (by decide) (by decide)) dX8_seenLine_119 (fun H locs hP hD hS => ?_)
                obtain ⟨f119, ef119⟩ : ∃ g9 : Nat → Int32, g9 = upd fa0_16 (x19 : Int32).toNatClampNeg r27 := ⟨_, rfl⟩
                refine zs_1 (y := (a0_16, .inl (ka0_16, 156, .inl (f119)))) hP hD (by rw [ef119]) (fun hP hD => ?_)
                have bf119 : ((∀ k : Nat, 0 ≤ k → k ≤ 0 → (0 : Int) ≤ (f119 k).toInt ∧ (f119 k).toInt ≤ 9) ∧ (∀ k : Nat, 1 ≤ k → k ≤ 1 → (0 : Int) ≤ (f119 k).toInt ∧ (f119 k).toInt ≤ 20) ∧ (∀ k : Nat, 2 ≤ k → k ≤ 2 → (0 : Int) ≤ (f119 k).toInt ∧ (f119 k).toInt ≤ 8) ∧ (∀ k : Nat, 3 ≤ k → k ≤ 3 → (0 : Int) ≤ (f119 k).toInt ∧ (f119 k).toInt ≤ 100) ∧ (∀ k : Nat, 4 ≤ k → k ≤ 4 → (0 : Int) ≤ (f119 k).toInt ∧ (f119 k).toInt ≤ 9) ∧ (∀ k : Nat, 5 ≤ k → k ≤ 5 → (0 : Int) ≤ (f119 k).toInt ∧ (f119 k).toInt ≤ 3) ∧ (∀ k : Nat, 6 ≤ k → k ≤ 6 → (0 : Int) ≤ (f119 k).toInt ∧ (f119 k).toInt ≤ 6) ∧ (∀ k : Nat, 7 ≤ k → k ≤ 9 → (0 : Int) ≤ (f119 k).toInt ∧ (f119 k).toInt ≤ 8) ∧ (∀ k : Nat, 10 ≤ k → k ≤ 11 → (0 : Int) ≤ (f119 k).toInt ∧ (f119 k).toInt ≤ 1) ∧ (∀ k : Nat, 12 ≤ k → k ≤ 29 → (0 : Int) ≤ (f119 k).toInt ∧ (f119 k).toInt ≤ 20) ∧ (∀ k : Nat, 30 ≤ k → k ≤ 35 → (0 : Int) ≤ (f119 k).toInt ∧ (f119 k).toInt ≤ 8) ∧ (∀ k : Nat, 36 ≤ k → k ≤ 47 → (0 : Int) ≤ (f119 k).toInt ∧ (f119 k).toInt ≤ 999) ∧ (∀ k : Nat, 48 ≤ k → k ≤ 59 → (0 : Int) ≤ (f119 k).toInt ∧ (f119 k).toInt ≤ 8) ∧ ((1 : Int) ≤ (f119 11).toInt → (2 : Int) ≤ (f119 0).toInt ∧ (1 : Int) ≤ (f119 1).toInt) ∧ (∀ (j i0 i : Int32), (0 : Int) ≤ j.toInt → j.toInt ≤ 8 → i0.toInt = 12 + 2 * j.toInt → i.toInt = 13 + 2 * j.toInt → (f119 i0.toNatClampNeg).toInt = (1 : Int32).toInt → (1 : Int) ≤ (f119 i.toNatClampNeg).toInt)) := by rw [ef119]; exact ⟨ai_updO bfa0_16.1 _ (Or.inr (ai_ngt_of bx19.1 (by decide) (by decide))), ai_updO bfa0_16.2.1 _ (Or.inr (ai_ngt_of bx19.1 (by decide) (by decide))), ai_updO bfa0_16.2.2.1 _ (Or.inr (ai_ngt_of bx19.1 (by decide) (by decide))), ai_updO bfa0_16.2.2.2.1 _ (Or.inr (ai_ngt_of bx19.1 (by decide) (by decide))), ai_updO bfa0_16.2.2.2.2.1 _ (Or.inr (ai_ngt_of bx19.1 (by decide) (by decide))), ai_updO bfa0_16.2.2.2.2.2.1 _ (Or.inr (ai_ngt_of bx19.1 (by decide) (by decide))), ai_updO bfa0_16.2.2.2.2.2.2.1 _ (Or.inr (ai_ngt_of bx19.1 (by decide) (by decide))), ai_updO bfa0_16.2.2.2.2.2.2.2.1 _ (Or.inr (ai_ngt_of bx19.1 (by decide) (by decide))), ai_updO bfa0_16.2.2.2.2.2.2.2.2.1 _ (Or.inr (ai_ngt_of bx19.1 (by decide) (by decide))), ai_updO bfa0_16.2.2.2.2.2.2.2.2.2.1 _ (Or.inr (ai_ngt_of bx19.1 (by decide) (by decide))), ai_updO bfa0_16.2.2.2.2.2.2.2.2.2.2.1 _ (Or.inr (ai_ngt_of bx19.1 (by decide) (by decide))), ai_updS bfa0_16.2.2.2.2.2.2.2.2.2.2.2.1 _ ⟨wa49.1, (Int.le_trans wa49.2 zq189)⟩, ai_updO bfa0_16.2.2.2.2.2.2.2.2.2.2.2.2.1 _ (Or.inl (ai_nlt_of bx19.1 bx19.2 (by decide) (by decide))), fg_o bfa0_16.2.2.2.2.2.2.2.2.2.2.2.2.2.1 (by have h1 := ai_natge (n := 36) bx19.1 (by decide); have h2 := ai_natle (n := 46) bx19.2 (by decide); omega), fg_ko bfa0_16.2.2.2.2.2.2.2.2.2.2.2.2.2.2 (by have h1 := ai_natge (n := 36) bx19.1 (by decide); have h2 := ai_natle (n := 46) bx19.2 (by decide); omega)⟩
                have fqf119 := fl_up_eq ef119
                have hF0 := hF0.trans (fl_lt_eq (show (fl_A f119) = fl_up (fl_A fa0_16) (x19.toInt.toNat) r27.toInt from fqf119))
                refine lv_aload_n hx hb dX8_seenLine_120 rfl (lv_at hl 0 rfl) ?_
                refine va_get (D := (dC, dI)) (ci := 8) (v := .ref a0_16) (C := RX8) (T := TX8) (N := 40) hx hb hts zi_X8_seenLine_8 hown hK hP 0 rfl rfl 16 (by decide) (hts (.fieldLink RX8 23 "WaxTurnsModel" "fresh" "[I") (zm_X8_seenLine_r1 (List.mem_of_getElem? (i := 1) rfl))) (fun _ h9 => h9) rfl dX8_seenLine_121 ?_
                refine lv_iload_n hx hb dX8_seenLine_124 rfl (lv_at hl 1 rfl) ?_
                refine lv_iconst (v := 1) hx hb dX8_seenLine_125 zk_iconst_1 ?_
                refine lv_iadd hx hb dX8_seenLine_126 ?_
                refine lv_topi (fun x126 ex126 => ?_)
                have qx126 : x126.toInt = x19.toInt + (1 : Int32).toInt := ai_add ex126 ⟨bx19.1, bx19.2⟩ ⟨zq1, zq0⟩ (by decide) (by decide)
                have bx126 : (37 : Int) ≤ x126.toInt ∧ x126.toInt ≤ 47 := ⟨by rw [qx126]; exact Int.add_le_add bx19.1 zq1, by rw [qx126]; exact Int.add_le_add bx19.2 zq0⟩
                have wx126 : x126.toInt = x19.toInt + 1 := qx126
                have hF0 := hF0.trans (fl_lt_eq (show x126.toInt = x19.toInt + 1 from qx126))
                refine lv_iload_n hx hb dX8_seenLine_127 rfl (lv_at hl 3 rfl) ?_
                refine va_iast hx hb hK hP hD hS 1 0 rfl rfl (ai_in bx126.1 bx126.2 (by decide) (by decide)) dX8_seenLine_128 (fun H locs hP hD hS => ?_)
                obtain ⟨f128, ef128⟩ : ∃ g9 : Nat → Int32, g9 = upd f119 (x126 : Int32).toNatClampNeg j49l3 := ⟨_, rfl⟩
                refine zs_1 (y := (a0_16, .inl (ka0_16, 156, .inl (f128)))) hP hD (by rw [ef128]) (fun hP hD => ?_)
                have bf128 : ((∀ k : Nat, 0 ≤ k → k ≤ 0 → (0 : Int) ≤ (f128 k).toInt ∧ (f128 k).toInt ≤ 9) ∧ (∀ k : Nat, 1 ≤ k → k ≤ 1 → (0 : Int) ≤ (f128 k).toInt ∧ (f128 k).toInt ≤ 20) ∧ (∀ k : Nat, 2 ≤ k → k ≤ 2 → (0 : Int) ≤ (f128 k).toInt ∧ (f128 k).toInt ≤ 8) ∧ (∀ k : Nat, 3 ≤ k → k ≤ 3 → (0 : Int) ≤ (f128 k).toInt ∧ (f128 k).toInt ≤ 100) ∧ (∀ k : Nat, 4 ≤ k → k ≤ 4 → (0 : Int) ≤ (f128 k).toInt ∧ (f128 k).toInt ≤ 9) ∧ (∀ k : Nat, 5 ≤ k → k ≤ 5 → (0 : Int) ≤ (f128 k).toInt ∧ (f128 k).toInt ≤ 3) ∧ (∀ k : Nat, 6 ≤ k → k ≤ 6 → (0 : Int) ≤ (f128 k).toInt ∧ (f128 k).toInt ≤ 6) ∧ (∀ k : Nat, 7 ≤ k → k ≤ 9 → (0 : Int) ≤ (f128 k).toInt ∧ (f128 k).toInt ≤ 8) ∧ (∀ k : Nat, 10 ≤ k → k ≤ 11 → (0 : Int) ≤ (f128 k).toInt ∧ (f128 k).toInt ≤ 1) ∧ (∀ k : Nat, 12 ≤ k → k ≤ 29 → (0 : Int) ≤ (f128 k).toInt ∧ (f128 k).toInt ≤ 20) ∧ (∀ k : Nat, 30 ≤ k → k ≤ 35 → (0 : Int) ≤ (f128 k).toInt ∧ (f128 k).toInt ≤ 8) ∧ (∀ k : Nat, 36 ≤ k → k ≤ 47 → (0 : Int) ≤ (f128 k).toInt ∧ (f128 k).toInt ≤ 999) ∧ (∀ k : Nat, 48 ≤ k → k ≤ 59 → (0 : Int) ≤ (f128 k).toInt ∧ (f128 k).toInt ≤ 8) ∧ ((1 : Int) ≤ (f128 11).toInt → (2 : Int) ≤ (f128 0).toInt ∧ (1 : Int) ≤ (f128 1).toInt) ∧ (∀ (j i0 i : Int32), (0 : Int) ≤ j.toInt → j.toInt ≤ 8 → i0.toInt = 12 + 2 * j.toInt → i.toInt = 13 + 2 * j.toInt → (f128 i0.toNatClampNeg).toInt = (1 : Int32).toInt → (1 : Int) ≤ (f128 i.toNatClampNeg).toInt)) := by rw [ef128]; exact ⟨ai_updO bf119.1 _ (Or.inr (ai_ngt_of bx126.1 (by decide) (by decide))), ai_updO bf119.2.1 _ (Or.inr (ai_ngt_of bx126.1 (by decide) (by decide))), ai_updO bf119.2.2.1 _ (Or.inr (ai_ngt_of bx126.1 (by decide) (by decide))), ai_updO bf119.2.2.2.1 _ (Or.inr (ai_ngt_of bx126.1 (by decide) (by decide))), ai_updO bf119.2.2.2.2.1 _ (Or.inr (ai_ngt_of bx126.1 (by decide) (by decide))), ai_updO bf119.2.2.2.2.2.1 _ (Or.inr (ai_ngt_of bx126.1 (by decide) (by decide))), ai_updO bf119.2.2.2.2.2.2.1 _ (Or.inr (ai_ngt_of bx126.1 (by decide) (by decide))), ai_updO bf119.2.2.2.2.2.2.2.1 _ (Or.inr (ai_ngt_of bx126.1 (by decide) (by decide))), ai_updO bf119.2.2.2.2.2.2.2.2.1 _ (Or.inr (ai_ngt_of bx126.1 (by decide) (by decide))), ai_updO bf119.2.2.2.2.2.2.2.2.2.1 _ (Or.inr (ai_ngt_of bx126.1 (by decide) (by decide))), ai_updO bf119.2.2.2.2.2.2.2.2.2.2.1 _ (Or.inr (ai_ngt_of bx126.1 (by decide) (by decide))), ai_updS bf119.2.2.2.2.2.2.2.2.2.2.2.1 _ ⟨wb49.1, wb49.2⟩, ai_updO bf119.2.2.2.2.2.2.2.2.2.2.2.2.1 _ (Or.inl (ai_nlt_of bx126.1 bx126.2 (by decide) (by decide))), fg_o bf119.2.2.2.2.2.2.2.2.2.2.2.2.2.1 (by have h1 := ai_natge (n := 37) bx126.1 (by decide); have h2 := ai_natle (n := 47) bx126.2 (by decide); omega), fg_ko bf119.2.2.2.2.2.2.2.2.2.2.2.2.2.2 (by have h1 := ai_natge (n := 37) bx126.1 (by decide); have h2 := ai_natle (n := 47) bx126.2 (by decide); omega)⟩
                have fqf128 := fl_up_eq ef128
                have hF0 := hF0.trans (fl_lt_eq (show (fl_A f128) = fl_up (fl_A f119) (x126.toInt.toNat) j49l3.toInt from fqf128))
                refine lv_aload_n hx hb dX8_seenLine_129 rfl (lv_at hl 0 rfl) ?_
                refine va_get (D := (dC, dI)) (ci := 8) (v := .ref a0_16) (C := RX8) (T := TX8) (N := 40) hx hb hts zi_X8_seenLine_8 hown hK hP 0 rfl rfl 16 (by decide) (hts (.fieldLink RX8 23 "WaxTurnsModel" "fresh" "[I") (zm_X8_seenLine_r1 (List.mem_of_getElem? (i := 1) rfl))) (fun _ h9 => h9) rfl dX8_seenLine_130 ?_
                refine lv_bipush (v := 6) hx hb dX8_seenLine_133 zk_bipush_6 ?_
                refine lv_dup2_11 hx hb dX8_seenLine_135 rfl rfl ?_
                refine va_iald hx hb hK hP 1 0 rfl rfl (by unfold vp_in; decide +kernel) dX8_seenLine_136 ?_
                refine lv_topi (fun x136 ex136 => ?_)
                have bx136 : (0 : Int) ≤ x136.toInt ∧ x136.toInt ≤ 6 := by rw [ex136]; exact ai_rd bf128.2.2.2.2.2.2.1 zq15 zq16 (by decide) (by decide) (by decide)
                have fqx136 := congrArg Int32.toInt ex136
                have hF0 := hF0.trans (fl_lt_eq (show x136.toInt = (fl_A f128) (6) from fqx136))
                have u136z_x136 : x136.toInt ≤ (5 : Int) := fg_le (m := 6) ex136 (by have uef128 := fg_u ef128 (by omega) (m := 6) (by omega); rw [uef128]; have uef119 := fg_u ef119 (by omega) (m := 6) (by omega); rw [uef119]; exact h6)
                refine lv_iconst (v := 1) hx hb dX8_seenLine_137 zk_iconst_1 ?_
                refine lv_iadd hx hb dX8_seenLine_138 ?_
                refine lv_topi (fun x138 ex138 => ?_)
                have qx138 : x138.toInt = x136.toInt + (1 : Int32).toInt := ai_add ex138 ⟨bx136.1, u136z_x136⟩ ⟨zq1, zq0⟩ (by decide) (by decide)
                have bx138 : (1 : Int) ≤ x138.toInt ∧ x138.toInt ≤ 6 := ⟨by rw [qx138]; exact Int.add_le_add bx136.1 zq1, by rw [qx138]; exact Int.add_le_add u136z_x136 zq0⟩
                have wx138 : x138.toInt = x136.toInt + 1 := qx138
                have hF0 := hF0.trans (fl_lt_eq (show x138.toInt = x136.toInt + 1 from qx138))
                refine va_iast hx hb hK hP hD hS 1 0 rfl rfl (by unfold vp_in; decide +kernel) dX8_seenLine_139 (fun H locs hP hD hS => ?_)
                obtain ⟨f139, ef139⟩ : ∃ g9 : Nat → Int32, g9 = upd f128 (6 : Int32).toNatClampNeg x138 := ⟨_, rfl⟩
                refine zs_1 (y := (a0_16, .inl (ka0_16, 156, .inl (f139)))) hP hD (by rw [ef139]) (fun hP hD => ?_)
                have bf139 : ((∀ k : Nat, 0 ≤ k → k ≤ 0 → (0 : Int) ≤ (f139 k).toInt ∧ (f139 k).toInt ≤ 9) ∧ (∀ k : Nat, 1 ≤ k → k ≤ 1 → (0 : Int) ≤ (f139 k).toInt ∧ (f139 k).toInt ≤ 20) ∧ (∀ k : Nat, 2 ≤ k → k ≤ 2 → (0 : Int) ≤ (f139 k).toInt ∧ (f139 k).toInt ≤ 8) ∧ (∀ k : Nat, 3 ≤ k → k ≤ 3 → (0 : Int) ≤ (f139 k).toInt ∧ (f139 k).toInt ≤ 100) ∧ (∀ k : Nat, 4 ≤ k → k ≤ 4 → (0 : Int) ≤ (f139 k).toInt ∧ (f139 k).toInt ≤ 9) ∧ (∀ k : Nat, 5 ≤ k → k ≤ 5 → (0 : Int) ≤ (f139 k).toInt ∧ (f139 k).toInt ≤ 3) ∧ (∀ k : Nat, 6 ≤ k → k ≤ 6 → (0 : Int) ≤ (f139 k).toInt ∧ (f139 k).toInt ≤ 6) ∧ (∀ k : Nat, 7 ≤ k → k ≤ 9 → (0 : Int) ≤ (f139 k).toInt ∧ (f139 k).toInt ≤ 8) ∧ (∀ k : Nat, 10 ≤ k → k ≤ 11 → (0 : Int) ≤ (f139 k).toInt ∧ (f139 k).toInt ≤ 1) ∧ (∀ k : Nat, 12 ≤ k → k ≤ 29 → (0 : Int) ≤ (f139 k).toInt ∧ (f139 k).toInt ≤ 20) ∧ (∀ k : Nat, 30 ≤ k → k ≤ 35 → (0 : Int) ≤ (f139 k).toInt ∧ (f139 k).toInt ≤ 8) ∧ (∀ k : Nat, 36 ≤ k → k ≤ 47 → (0 : Int) ≤ (f139 k).toInt ∧ (f139 k).toInt ≤ 999) ∧ (∀ k : Nat, 48 ≤ k → k ≤ 59 → (0 : Int) ≤ (f139 k).toInt ∧ (f139 k).toInt ≤ 8) ∧ ((1 : Int) ≤ (f139 11).toInt → (2 : Int) ≤ (f139 0).toInt ∧ (1 : Int) ≤ (f139 1).toInt) ∧ (∀ (j i0 i : Int32), (0 : Int) ≤ j.toInt → j.toInt ≤ 8 → i0.toInt = 12 + 2 * j.toInt → i.toInt = 13 + 2 * j.toInt → (f139 i0.toNatClampNeg).toInt = (1 : Int32).toInt → (1 : Int) ≤ (f139 i.toNatClampNeg).toInt)) := by rw [ef139]; exact ⟨ai_updO bf128.1 _ (Or.inr (ai_ngt_of zq15 (by decide) (by decide))), ai_updO bf128.2.1 _ (Or.inr (ai_ngt_of zq15 (by decide) (by decide))), ai_updO bf128.2.2.1 _ (Or.inr (ai_ngt_of zq15 (by decide) (by decide))), ai_updO bf128.2.2.2.1 _ (Or.inr (ai_ngt_of zq15 (by decide) (by decide))), ai_updO bf128.2.2.2.2.1 _ (Or.inr (ai_ngt_of zq15 (by decide) (by decide))), ai_updO bf128.2.2.2.2.2.1 _ (Or.inr (ai_ngt_of zq15 (by decide) (by decide))), ai_updS bf128.2.2.2.2.2.2.1 _ ⟨(Int.le_trans zq4 bx138.1), bx138.2⟩, ai_updO bf128.2.2.2.2.2.2.2.1 _ (Or.inl (ai_nlt_of zq15 zq16 (by decide) (by decide))), ai_updO bf128.2.2.2.2.2.2.2.2.1 _ (Or.inl (ai_nlt_of zq15 zq16 (by decide) (by decide))), ai_updO bf128.2.2.2.2.2.2.2.2.2.1 _ (Or.inl (ai_nlt_of zq15 zq16 (by decide) (by decide))), ai_updO bf128.2.2.2.2.2.2.2.2.2.2.1 _ (Or.inl (ai_nlt_of zq15 zq16 (by decide) (by decide))), ai_updO bf128.2.2.2.2.2.2.2.2.2.2.2.1 _ (Or.inl (ai_nlt_of zq15 zq16 (by decide) (by decide))), ai_updO bf128.2.2.2.2.2.2.2.2.2.2.2.2.1 _ (Or.inl (ai_nlt_of zq15 zq16 (by decide) (by decide))), fg_o bf128.2.2.2.2.2.2.2.2.2.2.2.2.2.1 (by decide +kernel), fg_ko bf128.2.2.2.2.2.2.2.2.2.2.2.2.2.2 (by decide +kernel)⟩
                have kf139_6 : f139 6 = x138 := by rw [ef139]; exact ai_k1 (by decide +kernel)
                have fqf139 := fl_up_eq ef139
                have hF0 := hF0.trans (fl_lt_eq (show (fl_A f139) = fl_up (fl_A f128) (6) x138.toInt from fqf139))
                have hFe : FX = (v102na0_4.toInt, v102na0_5.toInt, v102na0_6.toInt, v102na0_7.toInt, v102na0_8.toInt, j49a0_9.toInt, j49a0_10.toInt, 0, (fl_A f139), (fl_A v102nfa0_12)) := hF0
                exact W.vret hx hb hr (fun t ht hW => ⟨⟨(), rfl, trivial, v102na0_4, v102na0_5, v102na0_6, v102na0_7, v102na0_8, j49a0_9, j49a0_10, 0, f139, v102nfa0_12, ⟨bv102na0_5.1, bv102na0_5.2⟩, ⟨bv102na0_8.1, bv102na0_8.2⟩, ⟨zq5, Int.le_trans zq6 (by decide)⟩, bf139, (Or.inr rfl), (em_t em49 hraw102_1), hFe, by rw [ht]; exact hP, va_K.moved hW.alike hK, hD⟩, hS.F ht⟩) hS.2.2 dX8_seenLine_140
              · have gc58 := ai_nle c58
                have u58f_j49l4 : j49l4.toInt ≤ (4 : Int) := ai_lthi gc58 u57z_x57
                have l58f_x57 : (1 : Int) ≤ x57.toInt := ai_ltlo gc58 bj49l4_l
                have hF1 := hF1.trans (if_neg (show ¬ (x57.toInt ≤ j49l4.toInt) from Int.not_le.mpr gc58))
                refine lv_aload_n hx hb dX8_seenLine_61 rfl (lv_at hl 0 rfl) ?_
                refine va_get (D := (dC, dI)) (ci := 8) (v := .int 0) (C := RX8) (T := TX8) (N := 40) hx hb hts zi_X8_seenLine_8 hown hK hP 0 rfl rfl 13 (by decide) (hts (.fieldLink RX8 97 "WaxTurnsModel" "failed" "Z") (zm_X8_seenLine_r1 (List.mem_of_getElem? (i := 0) rfl))) (fun _ h9 => h9) rfl dX8_seenLine_62 ?_
                refine lv_if_ne (tgt := 95) hx hb dX8_seenLine_65 (by decide) (fun c65 => absurd (by decide +kernel) c65) (fun _ => ?_)
                refine lv_aload_n hx hb dX8_seenLine_68 rfl (lv_at hl 0 rfl) ?_
                refine va_get (D := (dC, dI)) (ci := 8) (v := .ref a0_16) (C := RX8) (T := TX8) (N := 40) hx hb hts zi_X8_seenLine_8 hown hK hP 0 rfl rfl 16 (by decide) (hts (.fieldLink RX8 23 "WaxTurnsModel" "fresh" "[I") (zm_X8_seenLine_r1 (List.mem_of_getElem? (i := 1) rfl))) (fun _ h9 => h9) rfl dX8_seenLine_69 ?_
                refine lv_bipush (v := 36) hx hb dX8_seenLine_72 zk_bipush_36 ?_
                refine lv_iconst (v := 2) hx hb dX8_seenLine_74 zk_iconst_2 ?_
                refine lv_iload hx hb dX8_seenLine_75 (lv_at hl 4 rfl) ?_
                refine lv_imul hx hb dX8_seenLine_77 ?_
                refine lv_topi (fun x77 ex77 => ?_)
                have qx77 : x77.toInt = (2 : Int32).toInt * j49l4.toInt ∧ (0 : Int) ≤ x77.toInt ∧ x77.toInt ≤ 8 := ai_mul ex77 ⟨zq12, zq13⟩ ⟨bj49l4_l, u58f_j49l4⟩ (by decide) (by decide) zq238
                have wx77 : x77.toInt = 2 * j49l4.toInt := qx77.1
                have hF1 := hF1.trans (fl_lt_eq (show x77.toInt = 2 * j49l4.toInt from qx77.1))
                refine lv_iadd hx hb dX8_seenLine_78 ?_
                refine lv_topi (fun x78 ex78 => ?_)
                have qx78 : x78.toInt = (36 : Int32).toInt + x77.toInt := ai_add ex78 ⟨zq182, zq183⟩ ⟨qx77.2.1, qx77.2.2⟩ (by decide) (by decide)
                have bx78 : (36 : Int) ≤ x78.toInt ∧ x78.toInt ≤ 44 := ⟨by rw [qx78]; exact Int.add_le_add zq182 qx77.2.1, by rw [qx78]; exact Int.add_le_add zq183 qx77.2.2⟩
                have wx78 : x78.toInt = 36 + x77.toInt := qx78
                have hF1 := hF1.trans (fl_lt_eq (show x78.toInt = 36 + x77.toInt from qx78))
                refine lv_iconst (v := 1) hx hb dX8_seenLine_79 zk_iconst_1 ?_
                refine lv_iadd hx hb dX8_seenLine_80 ?_
                refine lv_topi (fun x80 ex80 => ?_)
                have qx80 : x80.toInt = x78.toInt + (1 : Int32).toInt := ai_add ex80 ⟨bx78.1, bx78.2⟩ ⟨zq1, zq0⟩ (by decide) (by decide)
                have bx80 : (37 : Int) ≤ x80.toInt ∧ x80.toInt ≤ 45 := ⟨by rw [qx80]; exact Int.add_le_add bx78.1 zq1, by rw [qx80]; exact Int.add_le_add bx78.2 zq0⟩
                have wx80 : x80.toInt = x78.toInt + 1 := qx80
                have hF1 := hF1.trans (fl_lt_eq (show x80.toInt = x78.toInt + 1 from qx80))
                refine va_iald hx hb hK hP 1 0 rfl rfl (ai_in bx80.1 bx80.2 (by decide) (by decide)) dX8_seenLine_81 ?_
                refine lv_topi (fun x81 ex81 => ?_)
                have bx81 : (0 : Int) ≤ x81.toInt ∧ x81.toInt ≤ 999 := by rw [ex81]; exact ai_rd bfa0_16.2.2.2.2.2.2.2.2.2.2.2.1 bx80.1 bx80.2 (by decide) (by decide) (by decide)
                have fqx81 := congrArg Int32.toInt ex81
                have hF1 := hF1.trans (fl_lt_eq (show x81.toInt = (fl_A fa0_16) (x80.toInt.toNat) from fqx81))
                refine lv_iload_n hx hb dX8_seenLine_82 rfl (lv_at hl 3 rfl) ?_
                refine lv_icmp_ne (tgt := 95) hx hb dX8_seenLine_83 (by decide) (fun c83 => ?_) (fun c83 => ?_)
                · have gc83 := ai_ne c83
                  have hF1 := hF1.trans (if_neg (show ¬ (x81.toInt = j49l3.toInt) from  gc83))
                  obtain ⟨x95, ex95⟩ : ∃ y : Int32, y = j49l4 + Int32.ofInt 1 := ⟨_, rfl⟩
                  have qx95 : x95.toInt = j49l4.toInt + 1 := ai_inc ex95 (by decide) (by decide) u58f_j49l4 (by decide)
                  have bx95 : (1 : Int) ≤ x95.toInt ∧ x95.toInt ≤ 5 := ⟨by rw [qx95]; exact Int.add_le_add bj49l4_l (Int.le_refl _), by rw [qx95]; exact Int.add_le_add u58f_j49l4 (Int.le_refl _)⟩
                  refine lv_iinc (v := x95) (lv' := [(4, .int x95), (0, .ref a0), (1, .int x19), (2, .int r27), (3, .int j49l3)]) hx hb dX8_seenLine_95 hl (k := 4) rfl ex95.symm (by decide) rfl (fun ls hl => ?_)
                  have hF1 := hF1.trans (fl_lt_eq (show x95.toInt = j49l4.toInt + 1 from qx95))
                  refine lv_goto (tgt := 49) hx hb dX8_seenLine_98 (by decide) ?_
                  exact (hK0 _ _ _).mp (ih49 x95 j49l3 j49a0_4 j49a0_5 j49a0_6 j49a0_7 j49a0_8 j49a0_9 j49a0_10 0 j49a0_12_a _ _ _ (by first | exact zg_s hm49 qx95 | (have h0 := qx95; omega)) (Int.le_trans zq4 bx95.1) bx95.2 wb49.1 wb49.2 bj49a0_5_l bj49a0_5_u bj49a0_8_l bj49a0_8_u zq5 (Int.le_trans zq6 zq4) (by omega) ⟨wa49.1, wa49.2⟩ ⟨wb49.1, wb49.2⟩ (by rw [show (0 : Int32).toInt = 0 from by decide]; exact (hF0.trans (fl_wh_l (hSX49.trans hF1)))) hP hD hS (lv_sub hl [1, 2, 3, 4, 0] rfl))
                · have gc83 := ai_eq c83
                  have u83f_x81 : x81.toInt ≤ (999 : Int) := bx81.2
                  have l83f_x81 : (0 : Int) ≤ x81.toInt := bx81.1
                  have u83f_j49l3 : j49l3.toInt ≤ (999 : Int) := wb49.2
                  have l83f_j49l3 : (0 : Int) ≤ j49l3.toInt := wb49.1
                  have hF1 := hF1.trans (if_pos (show x81.toInt = j49l3.toInt from gc83))
                  refine lv_aload_n hx hb dX8_seenLine_86 rfl (lv_at hl 0 rfl) ?_
                  refine lv_iconst (v := 3) hx hb dX8_seenLine_87 zk_iconst_3 ?_
                  refine lv_aload_n hx hb dX8_seenLine_88 rfl (lv_at hl 0 rfl) ?_
                  refine va_get (D := (dC, dI)) (ci := 8) (v := .int j49a0_4) (C := RX8) (T := TX8) (N := 40) hx hb hts zi_X8_seenLine_8 hown hK hP 0 rfl rfl 4 (by decide) (hts (.fieldLink RX8 78 "WaxTurnsModel" "at" "I") (zm_X8_seenLine_r1 (List.mem_of_getElem? (i := 2) rfl))) (fun _ h9 => h9) rfl dX8_seenLine_89 ?_
                  refine va_callv (va_runV (As := [.int 3, .int j49a0_4]) (rest := []) ⟨hx, hb, hml, hown, hts⟩ (fG_X8_wrong l dC dI H.size a0 3 j49a0_4 a0g_0 (Value.ref a0_1) a0g_2 (Value.int a0_3) (Value.int j49a0_4) (Value.int j49a0_5) (Value.int j49a0_6) (Value.int j49a0_7) (Value.int j49a0_8) a0g_11 (Value.ref a0_12) a0g_14 a0g_15 (Value.ref a0_16) a0g_17 a0g_18 a0g_19 a0g_20 a0g_21 a0g_22 a0g_23 a0g_24 a0g_25 a0g_26 a0g_27 a0g_28 a0g_29 a0g_30 a0g_31 a0g_32 a0g_33 a0g_34 a0g_35 a0g_36 a0g_37 a0g_38 a0g_39 j49a0_9 j49a0_10 ) (cwV 2 hts gX8_seenLine_X8_wrong rfl rfl rfl zd_X8_wrong ⟨Nat.le_of_ble_eq_true rfl, Nat.le_of_ble_eq_true rfl⟩) ⟨ax_blind (fun _ _ _ _ _ => trivial), zr_8 (zp_K hK) (zp_P1 hP) (q0 := 0) rfl, ax_pre (zp_P1 hP) (zp_K hK) (zp_D1 hD) (fun _ _ => trivial)⟩ rfl rfl hl.1 rfl (lv_room (Nat.le_of_ble_eq_true rfl)) dX8_seenLine_92 ⟨Nat.le_of_ble_eq_true rfl, Nat.le_of_ble_eq_true rfl⟩) hS (fun q _ h => zp_F1 hD hS hA q h) (zp_F1 hD hS hA) (fun u t H locs ht hvm hw => zx_2 (fun v92na0_9 v92na0_10 => zy_1 (fun hraw92_0 hB hz1 hk1 hS1 => zo1 hB ht hP hD hk1 (zp_F1 hD hS hA) hS1 (fun hP hK1 hD hS => ?_))))
                  rw [show (3 : Int32).toInt = 3 from by decide] at hraw92_0
                  have hc92 : FfG_X8_wrong 3 j49a0_4.toInt = (v92na0_9.toInt, v92na0_10.toInt) := hraw92_0
                  have hF1 := hF1.trans (fl_c2_eq hc92)
                  obtain ⟨x95, ex95⟩ : ∃ y : Int32, y = j49l4 + Int32.ofInt 1 := ⟨_, rfl⟩
                  have qx95 : x95.toInt = j49l4.toInt + 1 := ai_inc ex95 (by decide) (by decide) u58f_j49l4 (by decide)
                  have bx95 : (1 : Int) ≤ x95.toInt ∧ x95.toInt ≤ 5 := ⟨by rw [qx95]; exact Int.add_le_add bj49l4_l (Int.le_refl _), by rw [qx95]; exact Int.add_le_add u58f_j49l4 (Int.le_refl _)⟩
                  refine lv_iinc (v := x95) (lv' := [(4, .int x95), (0, .ref a0), (1, .int x19), (2, .int r27), (3, .int j49l3)]) hx hb dX8_seenLine_95 hl (k := 4) rfl ex95.symm (by decide) rfl (fun ls hl => ?_)
                  have hF1 := hF1.trans (fl_lt_eq (show x95.toInt = j49l4.toInt + 1 from qx95))
                  refine lv_goto (tgt := 49) hx hb dX8_seenLine_98 (by decide) ?_
                  exact (hK0 _ _ _).mp (ih49 x95 j49l3 j49a0_4 j49a0_5 j49a0_6 j49a0_7 j49a0_8 v92na0_9 v92na0_10 1 j49a0_12_a _ _ _ (by first | exact zg_s hm49 qx95 | (have h0 := qx95; omega)) (Int.le_trans zq4 bx95.1) bx95.2 l83f_j49l3 u83f_j49l3 bj49a0_5_l bj49a0_5_u bj49a0_8_l bj49a0_8_u (Int.le_trans zq4 zq1) zq0 (by omega) ⟨wa49.1, wa49.2⟩ ⟨l83f_j49l3, u83f_j49l3⟩ (by rw [show (1 : Int32).toInt = 1 from by decide]; exact (hF0.trans (fl_wh_l (hSX49.trans hF1)))) hP hD hS (lv_sub hl [1, 2, 3, 4, 0] rfl))
            · subst hv49
              have hF1 := hF1.trans (if_neg (by decide))
              refine lv_iload hx hb dX8_seenLine_49 (lv_at hl 4 rfl) ?_
              refine lv_aload_n hx hb dX8_seenLine_51 rfl (lv_at hl 0 rfl) ?_
              refine va_get (D := (dC, dI)) (ci := 8) (v := .ref a0_16) (C := RX8) (T := TX8) (N := 40) hx hb hts zi_X8_seenLine_8 hown hK hP 0 rfl rfl 16 (by decide) (hts (.fieldLink RX8 23 "WaxTurnsModel" "fresh" "[I") (zm_X8_seenLine_r1 (List.mem_of_getElem? (i := 1) rfl))) (fun _ h9 => h9) rfl dX8_seenLine_52 ?_
              refine lv_bipush (v := 6) hx hb dX8_seenLine_55 zk_bipush_6 ?_
              refine va_iald hx hb hK hP 1 0 rfl rfl (by unfold vp_in; decide +kernel) dX8_seenLine_57 ?_
              refine lv_topi (fun x57 ex57 => ?_)
              have bx57 : (0 : Int) ≤ x57.toInt ∧ x57.toInt ≤ 6 := by rw [ex57]; exact ai_rd bfa0_16.2.2.2.2.2.2.1 zq15 zq16 (by decide) (by decide) (by decide)
              have fqx57 := congrArg Int32.toInt ex57
              have hF1 := hF1.trans (fl_lt_eq (show x57.toInt = (fl_A fa0_16) (6) from fqx57))
              have u57z_x57 : x57.toInt ≤ (5 : Int) := fg_le (m := 6) ex57 h6
              refine lv_icmp_ge (tgt := 101) hx hb dX8_seenLine_58 (by decide) (fun c58 => ?_) (fun c58 => ?_)
              · have gc58 := ai_le c58
                have u58t_x57 : x57.toInt ≤ (5 : Int) := u57z_x57
                have l58t_j49l4 : (0 : Int) ≤ j49l4.toInt := bj49l4_l
                have hF1 := hF1.trans (if_pos (show x57.toInt ≤ j49l4.toInt from gc58))
                have hF0 := hF0.trans (fl_wh_r (hSX49.trans hF1))
                refine lv_aload_n hx hb dX8_seenLine_101 rfl (lv_at hl 0 rfl) ?_
                refine va_callv (va_runV (As := []) (rest := []) ⟨hx, hb, hml, hown, hts⟩ (fF_X8_pass l dC dI H.size a0 a0g_0 (Value.ref a0_1) a0g_2 (Value.int a0_3) (Value.int j49a0_4) (Value.int j49a0_5) (Value.int j49a0_6) (Value.int j49a0_7) (Value.int j49a0_8) (Value.int j49a0_9) (Value.int j49a0_10) a0g_11 (Value.ref a0_12) a0g_14 a0g_15 (Value.ref a0_16) a0g_17 a0g_18 a0g_19 a0g_20 a0g_21 a0g_22 a0g_23 a0g_24 a0g_25 a0g_26 a0g_27 a0g_28 a0g_29 a0g_30 a0g_31 a0g_32 a0g_33 a0g_34 a0g_35 a0g_36 a0g_37 a0g_38 a0g_39 ) (cwV 0 hts gX8_seenLine_X8_pass rfl rfl rfl zd_X8_pass ⟨Nat.le_of_ble_eq_true rfl, Nat.le_of_ble_eq_true rfl⟩) ⟨ax_blind (fun _ _ _ _ _ => trivial), zr_8 (zp_K hK) (zp_P1 hP) (q0 := 0) rfl, ax_pre (zp_P1 hP) (zp_K hK) (zp_D1 hD) (fun _ _ => trivial)⟩ rfl rfl hl.1 rfl (lv_room (Nat.le_of_ble_eq_true rfl)) dX8_seenLine_102 ⟨Nat.le_of_ble_eq_true rfl, Nat.le_of_ble_eq_true rfl⟩) hS (fun q _ h => zp_F1 hD hS hA q h) (zp_F1 hD hS hA) (fun u t H locs ht hvm hw hB hz1 hk1 hS1 => zo1 hB ht hP hD hk1 (zp_F1 hD hS hA) hS1 (fun hP hK1 hD hS => ?_))
                refine lv_aload_n hx hb dX8_seenLine_105 rfl (lv_at hl 0 rfl) ?_
                refine va_get (D := (dC, dI)) (ci := 8) (v := .int 1) (C := RX8) (T := TX8) (N := 40) hx hb hts zi_X8_seenLine_8 hown hK hP 0 rfl rfl 13 (by decide) (hts (.fieldLink RX8 97 "WaxTurnsModel" "failed" "Z") (zm_X8_seenLine_r1 (List.mem_of_getElem? (i := 0) rfl))) (fun _ h9 => h9) rfl dX8_seenLine_106 ?_
                refine lv_if_eq (tgt := 113) hx hb dX8_seenLine_109 (by decide) (fun c109 => absurd c109 (by decide +kernel)) (fun _ => ?_)
                have hFe : FX = (j49a0_4.toInt, j49a0_5.toInt, j49a0_6.toInt, j49a0_7.toInt, j49a0_8.toInt, j49a0_9.toInt, j49a0_10.toInt, 1, (fl_A fa0_16), (fl_A j49a0_12_a)) := hF0
                exact W.vret hx hb hr (fun t ht hW => ⟨⟨(), rfl, trivial, j49a0_4, j49a0_5, j49a0_6, j49a0_7, j49a0_8, j49a0_9, j49a0_10, 1, fa0_16, j49a0_12_a, ⟨bj49a0_5_l, bj49a0_5_u⟩, ⟨bj49a0_8_l, bj49a0_8_u⟩, ⟨Int.le_trans (by decide) zq1, zq0⟩, bfa0_16, (Or.inl rfl), em49, hFe, by rw [ht]; exact hP, va_K.moved hW.alike hK, hD⟩, hS.F ht⟩) hS.2.2 dX8_seenLine_112
              · have gc58 := ai_nle c58
                have u58f_j49l4 : j49l4.toInt ≤ (4 : Int) := ai_lthi gc58 u57z_x57
                have l58f_x57 : (1 : Int) ≤ x57.toInt := ai_ltlo gc58 bj49l4_l
                have hF1 := hF1.trans (if_neg (show ¬ (x57.toInt ≤ j49l4.toInt) from Int.not_le.mpr gc58))
                refine lv_aload_n hx hb dX8_seenLine_61 rfl (lv_at hl 0 rfl) ?_
                refine va_get (D := (dC, dI)) (ci := 8) (v := .int 1) (C := RX8) (T := TX8) (N := 40) hx hb hts zi_X8_seenLine_8 hown hK hP 0 rfl rfl 13 (by decide) (hts (.fieldLink RX8 97 "WaxTurnsModel" "failed" "Z") (zm_X8_seenLine_r1 (List.mem_of_getElem? (i := 0) rfl))) (fun _ h9 => h9) rfl dX8_seenLine_62 ?_
                refine lv_if_ne (tgt := 95) hx hb dX8_seenLine_65 (by decide) (fun _ => ?_) (fun c65 => absurd c65 (by decide +kernel))
                obtain ⟨x95, ex95⟩ : ∃ y : Int32, y = j49l4 + Int32.ofInt 1 := ⟨_, rfl⟩
                have qx95 : x95.toInt = j49l4.toInt + 1 := ai_inc ex95 (by decide) (by decide) u58f_j49l4 (by decide)
                have bx95 : (1 : Int) ≤ x95.toInt ∧ x95.toInt ≤ 5 := ⟨by rw [qx95]; exact Int.add_le_add bj49l4_l (Int.le_refl _), by rw [qx95]; exact Int.add_le_add u58f_j49l4 (Int.le_refl _)⟩
                refine lv_iinc (v := x95) (lv' := [(4, .int x95), (0, .ref a0), (1, .int x19), (2, .int r27), (3, .int j49l3)]) hx hb dX8_seenLine_95 hl (k := 4) rfl ex95.symm (by decide) rfl (fun ls hl => ?_)
                have hF1 := hF1.trans (fl_lt_eq (show x95.toInt = j49l4.toInt + 1 from qx95))
                refine lv_goto (tgt := 49) hx hb dX8_seenLine_98 (by decide) ?_
                exact (hK0 _ _ _).mp (ih49 x95 j49l3 j49a0_4 j49a0_5 j49a0_6 j49a0_7 j49a0_8 j49a0_9 j49a0_10 1 j49a0_12_a _ _ _ (by first | exact zg_s hm49 qx95 | (have h0 := qx95; omega)) (Int.le_trans zq4 bx95.1) bx95.2 wb49.1 wb49.2 bj49a0_5_l bj49a0_5_u bj49a0_8_l bj49a0_8_u (Int.le_trans zq4 zq1) zq0 (by omega) ⟨wa49.1, wa49.2⟩ ⟨wb49.1, wb49.2⟩ (by rw [show (1 : Int32).toInt = 1 from by decide]; exact (hF0.trans (fl_wh_l (hSX49.trans hF1)))) hP hD hS (lv_sub hl [1, 2, 3, 4, 0] rfl))
        exact (hK0 _ _ _).mp (J49 6 0 r42 v34na0_4 v34na0_5 v34na0_6 v34na0_7 v34na0_8 v42na0_9 v42na0_10 0 v34nfa0_12 _ _ _ (by first | decide +kernel | (have h1 : (0 : Int) ≤ (0 : Int32).toInt := zq5; have h2 : (0 : Int32).toInt ≤ (0 : Int) := zq6; omega)) zq5 (Int.le_trans zq6 zq224) (Int.le_trans zq5 h42.1) (Int.le_trans h42.2 zq79) bv34na0_5.1 bv34na0_5.2 bv34na0_8.1 bv34na0_8.2 zq5 (Int.le_trans zq6 zq4) (by omega) ⟨(Int.le_trans zq5 h27.1), (Int.le_trans h27.2 h24_1)⟩ ⟨(Int.le_trans zq5 h42.1), (Int.le_trans h42.2 zq79)⟩ (by rw [show (0 : Int32).toInt = 0 from by decide]; exact hF0) hP hD hS (lv_sub hl [4, 3, 2, 1, 0] rfl))
