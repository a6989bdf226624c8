section P312_07_f
set_option maxHeartbeats 4000000 in
set_option maxRecDepth 100000 in
theorem fG_X8_watcherLine (l : Launch) (dC : Nat → ClassId) (dI : Nat → Nat → Nat) (sz : Nat) (a0 : Nat) (a0g_0 a0g_2 a0g_11 a0g_14 a0g_15 a0g_17 a0g_18 a0g_19 a0g_20 a0g_21 a0g_22 a0g_23 a0g_24 a0g_25 a0g_26 a0g_27 a0g_28 a0g_29 a0g_30 a0g_31 a0g_32 a0g_33 a0g_34 a0g_35 a0g_36 a0g_37 a0g_38 a0g_39 : Value) (a0_1 : Nat) (a0_3 : Int32) (a0_4 : Int32) (a0_5 : Int32) (a0_6 : Int32) (a0_7 : Int32) (a0_8 : Int32) (a0_9 : Int32) (a0_10 : Int32) (a0_12 : Nat) (a0_16 : Nat) (ka0_16 : ClassId) (fa0_16 : Nat → Int32) (ka0_12 : ClassId) (fa0_12 : Nat → Int32) (ka0_1 : ClassId) (fa0_1 : Nat → Int32) (ad : Nat → Nat) (ba0_3_l : (0 : Int) ≤ a0_3.toInt) (ba0_3_u : a0_3.toInt ≤ (900 : Int)) (ba0_5_l : (0 : Int) ≤ a0_5.toInt) (ba0_5_u : a0_5.toInt ≤ (900 : Int)) (ba0_8_l : (0 : Int) ≤ a0_8.toInt) (ba0_8_u : a0_8.toInt ≤ (900 : Int)) (bfa0_16 : ((∀ k : Nat, 0 ≤ k → k ≤ 0 → (0 : Int) ≤ (fa0_16 k).toInt ∧ (fa0_16 k).toInt ≤ 9) ∧ (∀ k : Nat, 1 ≤ k → k ≤ 1 → (0 : Int) ≤ (fa0_16 k).toInt ∧ (fa0_16 k).toInt ≤ 20) ∧ (∀ k : Nat, 2 ≤ k → k ≤ 2 → (0 : Int) ≤ (fa0_16 k).toInt ∧ (fa0_16 k).toInt ≤ 8) ∧ (∀ k : Nat, 3 ≤ k → k ≤ 3 → (0 : Int) ≤ (fa0_16 k).toInt ∧ (fa0_16 k).toInt ≤ 100) ∧ (∀ k : Nat, 4 ≤ k → k ≤ 4 → (0 : Int) ≤ (fa0_16 k).toInt ∧ (fa0_16 k).toInt ≤ 9) ∧ (∀ k : Nat, 5 ≤ k → k ≤ 5 → (0 : Int) ≤ (fa0_16 k).toInt ∧ (fa0_16 k).toInt ≤ 3) ∧ (∀ k : Nat, 6 ≤ k → k ≤ 6 → (0 : Int) ≤ (fa0_16 k).toInt ∧ (fa0_16 k).toInt ≤ 6) ∧ (∀ k : Nat, 7 ≤ k → k ≤ 9 → (0 : Int) ≤ (fa0_16 k).toInt ∧ (fa0_16 k).toInt ≤ 8) ∧ (∀ k : Nat, 10 ≤ k → k ≤ 11 → (0 : Int) ≤ (fa0_16 k).toInt ∧ (fa0_16 k).toInt ≤ 1) ∧ (∀ k : Nat, 12 ≤ k → k ≤ 29 → (0 : Int) ≤ (fa0_16 k).toInt ∧ (fa0_16 k).toInt ≤ 20) ∧ (∀ k : Nat, 30 ≤ k → k ≤ 35 → (0 : Int) ≤ (fa0_16 k).toInt ∧ (fa0_16 k).toInt ≤ 8) ∧ (∀ k : Nat, 36 ≤ k → k ≤ 47 → (0 : Int) ≤ (fa0_16 k).toInt ∧ (fa0_16 k).toInt ≤ 999) ∧ (∀ k : Nat, 48 ≤ k → k ≤ 59 → (0 : Int) ≤ (fa0_16 k).toInt ∧ (fa0_16 k).toInt ≤ 8) ∧ ((1 : Int) ≤ (fa0_16 11).toInt → (2 : Int) ≤ (fa0_16 0).toInt ∧ (1 : Int) ≤ (fa0_16 1).toInt) ∧ (∀ (j i0 i : Int32), (0 : Int) ≤ j.toInt → j.toInt ≤ 8 → i0.toInt = 12 + 2 * j.toInt → i.toInt = 13 + 2 * j.toInt → (fa0_16 i0.toNatClampNeg).toInt = (1 : Int32).toInt → (1 : Int) ≤ (fa0_16 i.toNatClampNeg).toInt))) (hR1 : (a0_6.toInt = 2 → a0_8.toInt ≤ 8)) (h5 : (fa0_16 5).toInt ≤ (2 : Int)) : zm l yX8_watcherLine wsX8_watcherLine ({ frames := 8, cells := 0, slots := 0, locals := 173 }) [.ref a0] dC dI sz [(a0, .inr (8, [a0g_0, Value.ref a0_1, a0g_2, Value.int a0_3, Value.int a0_4, Value.int a0_5, Value.int a0_6, Value.int a0_7, Value.int a0_8, Value.int a0_9, Value.int a0_10, a0g_11, Value.ref a0_12, Value.int 0, a0g_14, a0g_15, Value.ref a0_16, a0g_17, a0g_18, a0g_19, a0g_20, a0g_21, a0g_22, a0g_23, a0g_24, a0g_25, a0g_26, a0g_27, a0g_28, a0g_29, a0g_30, a0g_31, a0g_32, a0g_33, a0g_34, a0g_35, a0g_36, a0g_37, a0g_38, a0g_39])), (a0_16, .inl (ka0_16, 156, .inl (fa0_16))), (a0_12, .inl (ka0_12, 8, .inl (fa0_12))), (a0_1, .inl (ka0_1, 900, .inl (fa0_1)))] [(ka0_16, .int), (ka0_12, .int), (ka0_1, .int)] (fun A U => sxc_T ad A U) (fun A => va_Qv (fun (_ : Unit) => True) (fun (_ : Unit) (t : State) => ∃ na0_4 : Int32, ∃ na0_5 : Int32, ∃ na0_6 : Int32, ∃ na0_7 : Int32, ∃ na0_8 : Int32, ∃ na0_9 : Int32, ∃ na0_10 : Int32, ∃ na0_13 : Int32, ∃ nfa0_16 : Nat → Int32, ∃ nfa0_12 : Nat → Int32, ((0 : Int) ≤ na0_5.toInt ∧ na0_5.toInt ≤ 900) ∧ ((0 : Int) ≤ na0_8.toInt ∧ na0_8.toInt ≤ 900) ∧ ((0 : Int) ≤ na0_13.toInt ∧ na0_13.toInt ≤ 1) ∧ ((∀ k : Nat, 0 ≤ k → k ≤ 0 → (0 : Int) ≤ (nfa0_16 k).toInt ∧ (nfa0_16 k).toInt ≤ 9) ∧ (∀ k : Nat, 1 ≤ k → k ≤ 1 → (0 : Int) ≤ (nfa0_16 k).toInt ∧ (nfa0_16 k).toInt ≤ 20) ∧ (∀ k : Nat, 2 ≤ k → k ≤ 2 → (0 : Int) ≤ (nfa0_16 k).toInt ∧ (nfa0_16 k).toInt ≤ 8) ∧ (∀ k : Nat, 3 ≤ k → k ≤ 3 → (0 : Int) ≤ (nfa0_16 k).toInt ∧ (nfa0_16 k).toInt ≤ 100) ∧ (∀ k : Nat, 4 ≤ k → k ≤ 4 → (0 : Int) ≤ (nfa0_16 k).toInt ∧ (nfa0_16 k).toInt ≤ 9) ∧ (∀ k : Nat, 5 ≤ k → k ≤ 5 → (0 : Int) ≤ (nfa0_16 k).toInt ∧ (nfa0_16 k).toInt ≤ 3) ∧ (∀ k : Nat, 6 ≤ k → k ≤ 6 → (0 : Int) ≤ (nfa0_16 k).toInt ∧ (nfa0_16 k).toInt ≤ 6) ∧ (∀ k : Nat, 7 ≤ k → k ≤ 9 → (0 : Int) ≤ (nfa0_16 k).toInt ∧ (nfa0_16 k).toInt ≤ 8) ∧ (∀ k : Nat, 10 ≤ k → k ≤ 11 → (0 : Int) ≤ (nfa0_16 k).toInt ∧ (nfa0_16 k).toInt ≤ 1) ∧ (∀ k : Nat, 12 ≤ k → k ≤ 29 → (0 : Int) ≤ (nfa0_16 k).toInt ∧ (nfa0_16 k).toInt ≤ 20) ∧ (∀ k : Nat, 30 ≤ k → k ≤ 35 → (0 : Int) ≤ (nfa0_16 k).toInt ∧ (nfa0_16 k).toInt ≤ 8) ∧ (∀ k : Nat, 36 ≤ k → k ≤ 47 → (0 : Int) ≤ (nfa0_16 k).toInt ∧ (nfa0_16 k).toInt ≤ 999) ∧ (∀ k : Nat, 48 ≤ k → k ≤ 59 → (0 : Int) ≤ (nfa0_16 k).toInt ∧ (nfa0_16 k).toInt ≤ 8) ∧ ((1 : Int) ≤ (nfa0_16 11).toInt → (2 : Int) ≤ (nfa0_16 0).toInt ∧ (1 : Int) ≤ (nfa0_16 1).toInt) ∧ (∀ (j i0 i : Int32), (0 : Int) ≤ j.toInt → j.toInt ≤ 8 → i0.toInt = 12 + 2 * j.toInt → i.toInt = 13 + 2 * j.toInt → (nfa0_16 i0.toNatClampNeg).toInt = (1 : Int32).toInt → (1 : Int) ≤ (nfa0_16 i.toNatClampNeg).toInt)) ∧ (na0_13 = 1 ∨ na0_13 = 0) ∧ (a0_5.toInt ≤ na0_5.toInt ∧ ((na0_5.toInt = a0_5.toInt ∧ na0_6.toInt = a0_6.toInt) ∨ na0_6.toInt ≠ 59 ∨ a0_5.toInt < na0_5.toInt)) ∧ (FfG_X8_watcherLine a0_3.toInt a0_4.toInt a0_5.toInt a0_6.toInt a0_7.toInt a0_8.toInt a0_9.toInt a0_10.toInt (fl_A fa0_16) (fl_A fa0_12) (fl_A fa0_1) = (na0_4.toInt, na0_5.toInt, na0_6.toInt, na0_7.toInt, na0_8.toInt, na0_9.toInt, na0_10.toInt, na0_13.toInt, (fl_A nfa0_16), (fl_A nfa0_12))) ∧ ax_B dC dI A [(a0, .inr (8, [a0g_0, Value.ref a0_1, a0g_2, Value.int a0_3, Value.int na0_4, Value.int na0_5, Value.int na0_6, Value.int na0_7, Value.int na0_8, Value.int na0_9, Value.int na0_10, a0g_11, Value.ref a0_12, Value.int na0_13, a0g_14, a0g_15, Value.ref a0_16, a0g_17, a0g_18, a0g_19, a0g_20, a0g_21, a0g_22, a0g_23, a0g_24, a0g_25, a0g_26, a0g_27, a0g_28, a0g_29, a0g_30, a0g_31, a0g_32, a0g_33, a0g_34, a0g_35, a0g_36, a0g_37, a0g_38, a0g_39])), (a0_16, .inl (ka0_16, 156, .inl (nfa0_16))), (a0_12, .inl (ka0_12, 8, .inl (nfa0_12))), (a0_1, .inl (ka0_1, 900, .inl (fa0_1)))] [(ka0_16, .int), (ka0_12, .int), (ka0_1, .int)] t) A) := by
  refine zh (cc := cX8_watcherLine) (maxL := 2) (ret := none) zn_RX8 rfl (Nat.le_of_ble_eq_true rfl) (fun p e s m below meth c A ls hx hb hml hr hts (hown : s.vm.findClass RX8 = some m.cls) hlocks hA hS hP hK hD hE (hl : lv_has ls 2 [(0, .ref a0)]) => ?_)
  have hE0 := hE
  generalize hFX : FfG_X8_watcherLine a0_3.toInt a0_4.toInt a0_5.toInt a0_6.toInt a0_7.toInt a0_8.toInt a0_9.toInt a0_10.toInt (fl_A fa0_16) (fl_A fa0_12) (fl_A fa0_1) = FX at ⊢
  have hF0 := hFX.symm.trans (FfG_X8_watcherLine.eq_1 a0_3.toInt a0_4.toInt a0_5.toInt a0_6.toInt a0_7.toInt a0_8.toInt a0_9.toInt a0_10.toInt (fl_A fa0_16) (fl_A fa0_12) (fl_A fa0_1))
  refine lv_aload_n hx hb dX8_watcherLine_0 rfl (lv_at hl 0 rfl) ?_
  refine va_get (D := (dC, dI)) (ci := 8) (v := .int 0) (C := RX8) (T := TX8) (N := 40) hx hb hts zi_X8_watcherLine_8 hown hK hP 0 rfl rfl 13 (by decide) (hts (.fieldLink RX8 97 "WaxTurnsModel" "failed" "Z") (zm_X8_watcherLine_r1 (List.mem_of_getElem? (i := 0) rfl))) (fun _ h9 => h9) rfl dX8_watcherLine_1 ?_
  refine lv_if_eq (tgt := 8) hx hb dX8_watcherLine_4 (by decide) (fun _ => ?_) (fun c4 => absurd (by decide +kernel) c4)
  refine lv_bipush (v := 30) hx hb dX8_watcherLine_8 zk_bipush_30 ?_
  refine lv_iconst (v := 2) hx hb dX8_watcherLine_10 zk_iconst_2 ?_
  refine lv_aload_n hx hb dX8_watcherLine_11 rfl (lv_at hl 0 rfl) ?_
  refine va_get (D := (dC, dI)) (ci := 8) (v := .ref a0_16) (C := RX8) (T := TX8) (N := 40) hx hb hts zi_X8_watcherLine_8 hown hK hP 0 rfl rfl 16 (by decide) (hts (.fieldLink RX8 23 "WaxTurnsModel" "fresh" "[I") (zm_X8_watcherLine_r1 (List.mem_of_getElem? (i := 1) rfl))) (fun _ h9 => h9) rfl dX8_watcherLine_12 ?_
  refine lv_iconst (v := 5) hx hb dX8_watcherLine_15 zk_iconst_5 ?_
  refine va_iald hx hb hK hP 1 0 rfl rfl (by unfold vp_in; decide +kernel) dX8_watcherLine_16 ?_
  refine lv_topi (fun x16 ex16 => ?_)
  have bx16 : (0 : Int) ≤ x16.toInt ∧ x16.toInt ≤ 3 := by rw [ex16]; exact ai_rd bfa0_16.2.2.2.2.2.1 zq112 zq113 (by decide) (by decide) (by decide)
  have fqx16 := congrArg Int32.toInt ex16
  have hF0 := hF0.trans (fl_lt_eq (show x16.toInt = (fl_A fa0_16) (5) from fqx16))
  have u16z_x16 : x16.toInt ≤ (2 : Int) := fg_le (m := 5) ex16 h5
  refine lv_imul hx hb dX8_watcherLine_17 ?_
  refine lv_topi (fun x17 ex17 => ?_)
  have qx17 : x17.toInt = (2 : Int32).toInt * x16.toInt ∧ (0 : Int) ≤ x17.toInt ∧ x17.toInt ≤ 4 := ai_mul ex17 ⟨zq12, zq13⟩ ⟨bx16.1, u16z_x16⟩ (by decide) (by decide) zq150
  have wx17 : x17.toInt = 2 * x16.toInt := qx17.1
  have hF0 := hF0.trans (fl_lt_eq (show x17.toInt = 2 * x16.toInt from qx17.1))
  refine lv_iadd hx hb dX8_watcherLine_18 ?_
  refine lv_topi (fun x18 ex18 => ?_)
  have qx18 : x18.toInt = (30 : Int32).toInt + x17.toInt := ai_add ex18 ⟨zq151, zq152⟩ ⟨qx17.2.1, qx17.2.2⟩ (by decide) (by decide)
  have bx18 : (30 : Int) ≤ x18.toInt ∧ x18.toInt ≤ 34 := ⟨by rw [qx18]; exact Int.add_le_add zq151 qx17.2.1, by rw [qx18]; exact Int.add_le_add zq152 qx17.2.2⟩
  have wx18 : x18.toInt = 30 + x17.toInt := qx18
  have hF0 := hF0.trans (fl_lt_eq (show x18.toInt = 30 + x17.toInt from qx18))
  refine lv_istore_n (lv' := [(1, .int x18), (0, .ref a0)]) hx hb dX8_watcherLine_19 rfl hl (by decide) rfl (fun ls hl => ?_)
  refine lv_aload_n hx hb dX8_watcherLine_20 rfl (lv_at hl 1 rfl) ?_
  refine lv_bipush (v := 9) hx hb dX8_watcherLine_21 zk_bipush_9 ?_
  refine lv_aload_n hx hb dX8_watcherLine_23 rfl (lv_at hl 1 rfl) ?_
  refine va_get (D := (dC, dI)) (ci := 8) (v := .ref a0_16) (C := RX8) (T := TX8) (N := 40) hx hb hts zi_X8_watcherLine_8 hown hK hP 0 rfl rfl 16 (by decide) (hts (.fieldLink RX8 23 "WaxTurnsModel" "fresh" "[I") (zm_X8_watcherLine_r1 (List.mem_of_getElem? (i := 1) rfl))) (fun _ h9 => h9) rfl dX8_watcherLine_24 ?_
  refine lv_iconst (v := 5) hx hb dX8_watcherLine_27 zk_iconst_5 ?_
  refine va_iald hx hb hK hP 1 0 rfl rfl (by unfold vp_in; decide +kernel) dX8_watcherLine_28 ?_
  refine ax_ti x16 ex16.symm ?_
  have u28z_x16 : x16.toInt ≤ (2 : Int) := u16z_x16
  refine lv_iadd hx hb dX8_watcherLine_29 ?_
  refine lv_topi (fun x29 ex29 => ?_)
  have qx29 : x29.toInt = (9 : Int32).toInt + x16.toInt := ai_add ex29 ⟨zq2, zq3⟩ ⟨bx16.1, u28z_x16⟩ (by decide) (by decide)
  have bx29 : (9 : Int) ≤ x29.toInt ∧ x29.toInt ≤ 11 := ⟨by rw [qx29]; exact Int.add_le_add zq2 bx16.1, by rw [qx29]; exact Int.add_le_add zq3 u28z_x16⟩
  have wx29 : x29.toInt = 9 + x16.toInt := qx29
  have hF0 := hF0.trans (fl_lt_eq (show x29.toInt = 9 + x16.toInt from qx29))
  refine zc_cutc (wc := [(a0, .inr (8, [a0g_0, Value.ref a0_1, a0g_2, Value.int a0_3, Value.int a0_4, Value.int a0_5, Value.int a0_6, Value.int a0_7, Value.int a0_8, Value.int a0_9, Value.int a0_10, a0g_11, Value.ref a0_12, Value.int 0, a0g_14, a0g_15, Value.ref a0_16, a0g_17, a0g_18, a0g_19, a0g_20, a0g_21, a0g_22, a0g_23, a0g_24, a0g_25, a0g_26, a0g_27, a0g_28, a0g_29, a0g_30, a0g_31, a0g_32, a0g_33, a0g_34, a0g_35, a0g_36, a0g_37, a0g_38, a0g_39])), (a0_12, .inl (ka0_12, 8, .inl (fa0_12))), (a0_16, .inl (ka0_16, 156, .inl (fa0_16))), (a0_1, .inl (ka0_1, 900, .inl (fa0_1)))]) hP hD hS hA [0, 2, 1, 3] (by decide +kernel) rfl (fun hPc hDc hFc hCc => ?_)
  have hKc := hK.sub (tys' := [(ka0_12, .int), (ka0_16, .int), (ka0_1, .int)]) [1, 0, 2] rfl
  refine va_callv (va_runV (As := [.int x29]) (rest := []) ⟨hx, hb, hml, hown, hts⟩ (fG_X8_newName l dC dI s.heap.size a0 x29 a0g_0 a0g_2 a0g_11 a0g_14 a0g_15 a0g_17 a0g_18 a0g_19 a0g_20 a0g_21 a0g_22 a0g_23 a0g_24 a0g_25 a0g_26 a0g_27 a0g_28 a0g_29 a0g_30 a0g_31 a0g_32 a0g_33 a0g_34 a0g_35 a0g_36 a0g_37 a0g_38 a0g_39 a0_1 a0_3 a0_4 a0_5 a0_6 a0_7 a0_8 a0_9 a0_10 a0_12 a0_16 ka0_12 fa0_12 ka0_16 fa0_16 ka0_1 fa0_1 ad (Int.le_trans zq7 bx29.1) bx29.2 ba0_3_l ba0_3_u ba0_5_l ba0_5_u ba0_8_l ba0_8_u bfa0_16 hR1) (cwV 1 hts gX8_watcherLine_X8_newName rfl rfl rfl zd_X8_newName ⟨Nat.le_of_ble_eq_true rfl, Nat.le_of_ble_eq_true rfl⟩) ⟨ax_blind (fun _ _ _ _ hq => sxc_T_same _ _ _ _ (hq)), zr_8 hKc hPc (q0 := 0) rfl, ax_preE hPc hKc hDc (fun U hU hW => sxc_T_to hE0 hS.2.1 hFc hU hW)⟩ rfl rfl hl.1 rfl (lv_room (Nat.le_of_ble_eq_true rfl)) dX8_watcherLine_30 ⟨Nat.le_of_ble_eq_true rfl, Nat.le_of_ble_eq_true rfl⟩) hS (fun q _ h => hFc q h) hFc (fun u t H locs ht hvm hw => zx_10 (fun v30na0_4 v30na0_5 v30na0_6 v30na0_7 v30na0_8 v30na0_9 v30na0_10 v30na0_13 v30nfa0_12 v30nfa0_16 => zy_8 (fun bv30na0_5 bv30na0_8 bv30na0_13 bv30nfa0_16 hraw30_0 hraw30_1 hraw30_2 hraw30_3 hB hz1 hk1 hS1 => zo hB ht hS1 (fun hP1 hK1 hD1 hS => ?_))))
  refine zc_backc (w := [(a0, .inr (8, [a0g_0, Value.ref a0_1, a0g_2, Value.int a0_3, Value.int v30na0_4, Value.int v30na0_5, Value.int v30na0_6, Value.int v30na0_7, Value.int v30na0_8, Value.int v30na0_9, Value.int v30na0_10, a0g_11, Value.ref a0_12, Value.int v30na0_13, a0g_14, a0g_15, Value.ref a0_16, a0g_17, a0g_18, a0g_19, a0g_20, a0g_21, a0g_22, a0g_23, a0g_24, a0g_25, a0g_26, a0g_27, a0g_28, a0g_29, a0g_30, a0g_31, a0g_32, a0g_33, a0g_34, a0g_35, a0g_36, a0g_37, a0g_38, a0g_39])), (a0_16, .inl (ka0_16, 156, .inl (v30nfa0_16))), (a0_12, .inl (ka0_12, 8, .inl (v30nfa0_12))), (a0_1, .inl (ka0_1, 900, .inl (fa0_1)))]) hP hD hCc hk1 hFc hP1 hD1 [.inr 0, .inr 2, .inr 1, .inr 3] (by decide +kernel) rfl (fun hP hD => ?_)
  have hc30 : FfG_X8_newName x29.toInt a0_3.toInt a0_4.toInt a0_5.toInt a0_6.toInt a0_7.toInt a0_8.toInt a0_9.toInt a0_10.toInt (fl_A fa0_12) (fl_A fa0_16) (fl_A fa0_1) = (v30na0_4.toInt, v30na0_5.toInt, v30na0_6.toInt, v30na0_7.toInt, v30na0_8.toInt, v30na0_9.toInt, v30na0_10.toInt, v30na0_13.toInt, (fl_A v30nfa0_12), (fl_A v30nfa0_16)) := hraw30_3
  have hF0 := hF0.trans (fl_c10_eq hc30)
  rcases hraw30_0 with hf30 | hf30
  · subst hf30
    have hF0 := hF0.trans (if_pos (by decide))
    refine lv_aload_n hx hb dX8_watcherLine_33 rfl (lv_at hl 1 rfl) ?_
    refine va_get (D := (dC, dI)) (ci := 8) (v := .ref a0_16) (C := RX8) (T := TX8) (N := 40) hx hb hts zi_X8_watcherLine_8 hown hK hP 0 rfl rfl 16 (by decide) (hts (.fieldLink RX8 23 "WaxTurnsModel" "fresh" "[I") (zm_X8_watcherLine_r1 (List.mem_of_getElem? (i := 1) rfl))) (fun _ h9 => h9) rfl dX8_watcherLine_34 ?_
    refine lv_iload_n hx hb dX8_watcherLine_37 rfl (lv_at hl 0 rfl) ?_
    refine lv_aload_n hx hb dX8_watcherLine_38 rfl (lv_at hl 1 rfl) ?_
    refine va_ldcS hx hb hown (sxc_R33 hE0) dX8_watcherLine_39 ?_
    refine lv_iconst (v := 0) hx hb dX8_watcherLine_41 zk_iconst_0 ?_
    refine lv_aload_n hx hb dX8_watcherLine_42 rfl (lv_at hl 1 rfl) ?_
    have hKc := hK.sub (tys' := [(ka0_16, .int)]) [0] rfl
    refine va_calli (va_runV (As := []) (rest := [.int 0, .ref (ad 33), .ref a0, .int x18, .ref a0_16]) ⟨hx, hb, hml, hown, hts⟩ (f_X8_last l dC dI H.size a0 a0g_0 (Value.ref a0_1) a0g_2 (Value.int a0_3) (Value.int v30na0_4) (Value.int v30na0_5) (Value.int v30na0_6) (Value.int v30na0_7) (Value.int v30na0_8) (Value.int v30na0_9) (Value.int v30na0_10) a0g_11 (Value.ref a0_12) (Value.int 1) a0g_14 a0g_15 a0g_17 a0g_18 a0g_19 a0g_20 a0g_21 a0g_22 a0g_23 a0g_24 a0g_25 a0g_26 a0g_27 a0g_28 a0g_29 a0g_30 a0g_31 a0g_32 a0g_33 a0g_34 a0g_35 a0g_36 a0g_37 a0g_38 a0g_39 a0_16 ka0_16 v30nfa0_16 bv30nfa0_16) (cwV 0 hts gX8_watcherLine_X8_last rfl rfl rfl zd_X8_last ⟨Nat.le_of_ble_eq_true rfl, Nat.le_of_ble_eq_true rfl⟩) ⟨ax_blind (fun _ _ _ _ _ => trivial), zr_8 hKc (zp_P2 hP) (q0 := 0) rfl, ax_pre (zp_P2 hP) hKc (zp_D2 hD) (fun _ _ => trivial)⟩ rfl rfl hl.1 rfl (lv_room (Nat.le_of_ble_eq_true rfl)) dX8_watcherLine_43 ⟨Nat.le_of_ble_eq_true rfl, Nat.le_of_ble_eq_true rfl⟩) hS (fun q _ h => zp_F2 hD hS hA q h) (zp_F2 hD hS hA) (fun r43 u t H locs ht hvm hw hB hz1 hk1 hS1 => zo2 hB ht hP hD hk1 (zp_F2 hD hS hA) hS1 (fun hP hK1 hD hS => ?_))
    obtain ⟨hw, hfr43⟩ := hw
    have hc43 : Ff_X8_last (fl_A v30nfa0_16) = r43.toInt := hfr43.symm
    have hF0 := hF0.trans (fl_lt_eq hc43.symm)
    have hw : (-1 : Int) ≤ r43.toInt ∧ r43.toInt ≤ (8 : Int) := hw
    obtain ⟨h43_0, h43_1⟩ := hw
    refine va_calli (va_runV (As := [.ref (ad 33), .int 0, .int r43]) (rest := [.int x18, .ref a0_16]) ⟨hx, hb, hml, hown, hts⟩ (fF_X8_after l dC dI H.size a0 (ad 33) 0 r43 a0g_0 (Value.ref a0_1) a0g_2 (Value.int a0_3) (Value.int v30na0_4) (Value.int v30na0_5) (Value.int v30na0_6) (Value.int v30na0_7) (Value.int v30na0_8) (Value.int v30na0_9) (Value.int v30na0_10) a0g_11 (Value.ref a0_12) a0g_14 a0g_15 (Value.ref a0_16) a0g_17 a0g_18 a0g_19 a0g_20 a0g_21 a0g_22 a0g_23 a0g_24 a0g_25 a0g_26 a0g_27 a0g_28 a0g_29 a0g_30 a0g_31 a0g_32 a0g_33 a0g_34 a0g_35 a0g_36 a0g_37 a0g_38 a0g_39 4 (sxc 33) ) (cwV 3 hts gX8_watcherLine_X8_after rfl rfl rfl zd_X8_after ⟨Nat.le_of_ble_eq_true rfl, Nat.le_of_ble_eq_true rfl⟩) ⟨ax_blind (fun _ _ _ _ hq => sxc_W_same _ _ _ _ (hq)), zr_8 (zp_K hK) (zp_P1 hP) (q0 := 0) rfl, ax_preE (zp_P1 hP) (zp_K hK) (zp_D1 hD) (fun U hU hW => sxc_W_to (sxc_T_w hE0 (i := 33) (by decide)) hS.2.1 (zp_F1 hD hS hA) hU hW)⟩ rfl rfl hl.1 rfl (lv_room (Nat.le_of_ble_eq_true rfl)) dX8_watcherLine_46 ⟨Nat.le_of_ble_eq_true rfl, Nat.le_of_ble_eq_true rfl⟩) hS (fun q _ h => zp_F1 hD hS hA q h) (zp_F1 hD hS hA) (fun r46 u t H locs ht hvm hw hB hz1 hk1 hS1 => zo1 hB ht hP hD hk1 (zp_F1 hD hS hA) hS1 (fun hP hK1 hD hS => ?_))
    obtain ⟨hw, hfr46⟩ := hw
    rw [show (0 : Int32).toInt = 0 from by decide] at hfr46
    have hc46 : FfF_X8_after 0 = r46.toInt := hfr46.symm
    have hF0 := hF0.trans (fl_lt_eq hc46.symm)
    have hw : r46 = 0 := hw
    have hw := hw.symm
    subst hw
    refine va_iast hx hb hK hP hD hS 1 0 rfl rfl (ai_in bx18.1 bx18.2 (by decide) (by decide)) dX8_watcherLine_49 (fun H locs hP hD hS => ?_)
    obtain ⟨f49, ef49⟩ : ∃ g9 : Nat → Int32, g9 = upd v30nfa0_16 (x18 : Int32).toNatClampNeg (0 : Int32) := ⟨_, rfl⟩
    refine zs_1 (y := (a0_16, .inl (ka0_16, 156, .inl (f49)))) hP hD (by rw [ef49]) (fun hP hD => ?_)
    have bf49 : ((∀ k : Nat, 0 ≤ k → k ≤ 0 → (0 : Int) ≤ (f49 k).toInt ∧ (f49 k).toInt ≤ 9) ∧ (∀ k : Nat, 1 ≤ k → k ≤ 1 → (0 : Int) ≤ (f49 k).toInt ∧ (f49 k).toInt ≤ 20) ∧ (∀ k : Nat, 2 ≤ k → k ≤ 2 → (0 : Int) ≤ (f49 k).toInt ∧ (f49 k).toInt ≤ 8) ∧ (∀ k : Nat, 3 ≤ k → k ≤ 3 → (0 : Int) ≤ (f49 k).toInt ∧ (f49 k).toInt ≤ 100) ∧ (∀ k : Nat, 4 ≤ k → k ≤ 4 → (0 : Int) ≤ (f49 k).toInt ∧ (f49 k).toInt ≤ 9) ∧ (∀ k : Nat, 5 ≤ k → k ≤ 5 → (0 : Int) ≤ (f49 k).toInt ∧ (f49 k).toInt ≤ 3) ∧ (∀ k : Nat, 6 ≤ k → k ≤ 6 → (0 : Int) ≤ (f49 k).toInt ∧ (f49 k).toInt ≤ 6) ∧ (∀ k : Nat, 7 ≤ k → k ≤ 9 → (0 : Int) ≤ (f49 k).toInt ∧ (f49 k).toInt ≤ 8) ∧ (∀ k : Nat, 10 ≤ k → k ≤ 11 → (0 : Int) ≤ (f49 k).toInt ∧ (f49 k).toInt ≤ 1) ∧ (∀ k : Nat, 12 ≤ k → k ≤ 29 → (0 : Int) ≤ (f49 k).toInt ∧ (f49 k).toInt ≤ 20) ∧ (∀ k : Nat, 30 ≤ k → k ≤ 35 → (0 : Int) ≤ (f49 k).toInt ∧ (f49 k).toInt ≤ 8) ∧ (∀ k : Nat, 36 ≤ k → k ≤ 47 → (0 : Int) ≤ (f49 k).toInt ∧ (f49 k).toInt ≤ 999) ∧ (∀ k : Nat, 48 ≤ k → k ≤ 59 → (0 : Int) ≤ (f49 k).toInt ∧ (f49 k).toInt ≤ 8) ∧ ((1 : Int) ≤ (f49 11).toInt → (2 : Int) ≤ (f49 0).toInt ∧ (1 : Int) ≤ (f49 1).toInt) ∧ (∀ (j i0 i : Int32), (0 : Int) ≤ j.toInt → j.toInt ≤ 8 → i0.toInt = 12 + 2 * j.toInt → i.toInt = 13 + 2 * j.toInt → (f49 i0.toNatClampNeg).toInt = (1 : Int32).toInt → (1 : Int) ≤ (f49 i.toNatClampNeg).toInt)) := by rw [ef49]; exact ⟨ai_updO bv30nfa0_16.1 _ (Or.inr (ai_ngt_of bx18.1 (by decide) (by decide))), ai_updO bv30nfa0_16.2.1 _ (Or.inr (ai_ngt_of bx18.1 (by decide) (by decide))), ai_updO bv30nfa0_16.2.2.1 _ (Or.inr (ai_ngt_of bx18.1 (by decide) (by decide))), ai_updO bv30nfa0_16.2.2.2.1 _ (Or.inr (ai_ngt_of bx18.1 (by decide) (by decide))), ai_updO bv30nfa0_16.2.2.2.2.1 _ (Or.inr (ai_ngt_of bx18.1 (by decide) (by decide))), ai_updO bv30nfa0_16.2.2.2.2.2.1 _ (Or.inr (ai_ngt_of bx18.1 (by decide) (by decide))), ai_updO bv30nfa0_16.2.2.2.2.2.2.1 _ (Or.inr (ai_ngt_of bx18.1 (by decide) (by decide))), ai_updO bv30nfa0_16.2.2.2.2.2.2.2.1 _ (Or.inr (ai_ngt_of bx18.1 (by decide) (by decide))), ai_updO bv30nfa0_16.2.2.2.2.2.2.2.2.1 _ (Or.inr (ai_ngt_of bx18.1 (by decide) (by decide))), ai_updO bv30nfa0_16.2.2.2.2.2.2.2.2.2.1 _ (Or.inr (ai_ngt_of bx18.1 (by decide) (by decide))), ai_updS bv30nfa0_16.2.2.2.2.2.2.2.2.2.2.1 _ ⟨zq5, (Int.le_trans zq6 zq20)⟩, ai_updO bv30nfa0_16.2.2.2.2.2.2.2.2.2.2.2.1 _ (Or.inl (ai_nlt_of bx18.1 bx18.2 (by decide) (by decide))), ai_updO bv30nfa0_16.2.2.2.2.2.2.2.2.2.2.2.2.1 _ (Or.inl (ai_nlt_of bx18.1 bx18.2 (by decide) (by decide))), fg_o bv30nfa0_16.2.2.2.2.2.2.2.2.2.2.2.2.2.1 (by have h1 := ai_natge (n := 30) bx18.1 (by decide); have h2 := ai_natle (n := 34) bx18.2 (by decide); omega), fg_ko bv30nfa0_16.2.2.2.2.2.2.2.2.2.2.2.2.2.2 (by have h1 := ai_natge (n := 30) bx18.1 (by decide); have h2 := ai_natle (n := 34) bx18.2 (by decide); omega)⟩
    have fqf49 := fl_up_eq ef49
    have hF0 := hF0.trans (fl_lt_eq (show (fl_A f49) = fl_up (fl_A v30nfa0_16) (x18.toInt.toNat) 0 from fqf49))
    refine lv_aload_n hx hb dX8_watcherLine_50 rfl (lv_at hl 1 rfl) ?_
    refine va_get (D := (dC, dI)) (ci := 8) (v := .ref a0_16) (C := RX8) (T := TX8) (N := 40) hx hb hts zi_X8_watcherLine_8 hown hK hP 0 rfl rfl 16 (by decide) (hts (.fieldLink RX8 23 "WaxTurnsModel" "fresh" "[I") (zm_X8_watcherLine_r1 (List.mem_of_getElem? (i := 1) rfl))) (fun _ h9 => h9) rfl dX8_watcherLine_51 ?_
    refine lv_iload_n hx hb dX8_watcherLine_54 rfl (lv_at hl 0 rfl) ?_
    refine lv_iconst (v := 1) hx hb dX8_watcherLine_55 zk_iconst_1 ?_
    refine lv_iadd hx hb dX8_watcherLine_56 ?_
    refine lv_topi (fun x56 ex56 => ?_)
    have qx56 : x56.toInt = x18.toInt + (1 : Int32).toInt := ai_add ex56 ⟨bx18.1, bx18.2⟩ ⟨zq1, zq0⟩ (by decide) (by decide)
    have bx56 : (31 : Int) ≤ x56.toInt ∧ x56.toInt ≤ 35 := ⟨by rw [qx56]; exact Int.add_le_add bx18.1 zq1, by rw [qx56]; exact Int.add_le_add bx18.2 zq0⟩
    have wx56 : x56.toInt = x18.toInt + 1 := qx56
    have hF0 := hF0.trans (fl_lt_eq (show x56.toInt = x18.toInt + 1 from qx56))
    refine lv_aload_n hx hb dX8_watcherLine_57 rfl (lv_at hl 1 rfl) ?_
    refine va_ldcS hx hb hown (sxc_R34 hE0) dX8_watcherLine_58 ?_
    refine lv_iconst (v := 0) hx hb dX8_watcherLine_60 zk_iconst_0 ?_
    refine lv_aload_n hx hb dX8_watcherLine_61 rfl (lv_at hl 1 rfl) ?_
    have hKc := hK.sub (tys' := [(ka0_16, .int)]) [0] rfl
    refine va_calli (va_runV (As := []) (rest := [.int 0, .ref (ad 34), .ref a0, .int x56, .ref a0_16]) ⟨hx, hb, hml, hown, hts⟩ (f_X8_last l dC dI H.size a0 a0g_0 (Value.ref a0_1) a0g_2 (Value.int a0_3) (Value.int v30na0_4) (Value.int v30na0_5) (Value.int v30na0_6) (Value.int v30na0_7) (Value.int v30na0_8) (Value.int v30na0_9) (Value.int v30na0_10) a0g_11 (Value.ref a0_12) (Value.int 1) a0g_14 a0g_15 a0g_17 a0g_18 a0g_19 a0g_20 a0g_21 a0g_22 a0g_23 a0g_24 a0g_25 a0g_26 a0g_27 a0g_28 a0g_29 a0g_30 a0g_31 a0g_32 a0g_33 a0g_34 a0g_35 a0g_36 a0g_37 a0g_38 a0g_39 a0_16 ka0_16 f49 bf49) (cwV 0 hts gX8_watcherLine_X8_last rfl rfl rfl zd_X8_last ⟨Nat.le_of_ble_eq_true rfl, Nat.le_of_ble_eq_true rfl⟩) ⟨ax_blind (fun _ _ _ _ _ => trivial), zr_8 hKc (zp_P2 hP) (q0 := 0) rfl, ax_pre (zp_P2 hP) hKc (zp_D2 hD) (fun _ _ => trivial)⟩ rfl rfl hl.1 rfl (lv_room (Nat.le_of_ble_eq_true rfl)) dX8_watcherLine_62 ⟨Nat.le_of_ble_eq_true rfl, Nat.le_of_ble_eq_true rfl⟩) hS (fun q _ h => zp_F2 hD hS hA q h) (zp_F2 hD hS hA) (fun r62 u t H locs ht hvm hw hB hz1 hk1 hS1 => zo2 hB ht hP hD hk1 (zp_F2 hD hS hA) hS1 (fun hP hK1 hD hS => ?_))
    obtain ⟨hw, hfr62⟩ := hw
    have hc62 : Ff_X8_last (fl_A f49) = r62.toInt := hfr62.symm
    have hF0 := hF0.trans (fl_lt_eq hc62.symm)
    have hw : (-1 : Int) ≤ r62.toInt ∧ r62.toInt ≤ (8 : Int) := hw
    obtain ⟨h62_0, h62_1⟩ := hw
    refine va_calli (va_runV (As := [.ref (ad 34), .int 0, .int r62]) (rest := [.int x56, .ref a0_16]) ⟨hx, hb, hml, hown, hts⟩ (fF_X8_after l dC dI H.size a0 (ad 34) 0 r62 a0g_0 (Value.ref a0_1) a0g_2 (Value.int a0_3) (Value.int v30na0_4) (Value.int v30na0_5) (Value.int v30na0_6) (Value.int v30na0_7) (Value.int v30na0_8) (Value.int v30na0_9) (Value.int v30na0_10) a0g_11 (Value.ref a0_12) a0g_14 a0g_15 (Value.ref a0_16) a0g_17 a0g_18 a0g_19 a0g_20 a0g_21 a0g_22 a0g_23 a0g_24 a0g_25 a0g_26 a0g_27 a0g_28 a0g_29 a0g_30 a0g_31 a0g_32 a0g_33 a0g_34 a0g_35 a0g_36 a0g_37 a0g_38 a0g_39 2 (sxc 34) ) (cwV 3 hts gX8_watcherLine_X8_after rfl rfl rfl zd_X8_after ⟨Nat.le_of_ble_eq_true rfl, Nat.le_of_ble_eq_true rfl⟩) ⟨ax_blind (fun _ _ _ _ hq => sxc_W_same _ _ _ _ (hq)), zr_8 (zp_K hK) (zp_P1 hP) (q0 := 0) rfl, ax_preE (zp_P1 hP) (zp_K hK) (zp_D1 hD) (fun U hU hW => sxc_W_to (sxc_T_w hE0 (i := 34) (by decide)) hS.2.1 (zp_F1 hD hS hA) hU hW)⟩ rfl rfl hl.1 rfl (lv_room (Nat.le_of_ble_eq_true rfl)) dX8_watcherLine_65 ⟨Nat.le_of_ble_eq_true rfl, Nat.le_of_ble_eq_true rfl⟩) hS (fun q _ h => zp_F1 hD hS hA q h) (zp_F1 hD hS hA) (fun r65 u t H locs ht hvm hw hB hz1 hk1 hS1 => zo1 hB ht hP hD hk1 (zp_F1 hD hS hA) hS1 (fun hP hK1 hD hS => ?_))
    obtain ⟨hw, hfr65⟩ := hw
    rw [show (0 : Int32).toInt = 0 from by decide] at hfr65
    have hc65 : FfF_X8_after 0 = r65.toInt := hfr65.symm
    have hF0 := hF0.trans (fl_lt_eq hc65.symm)
    have hw : r65 = 0 := hw
    have hw := hw.symm
    subst hw
    refine va_iast hx hb hK hP hD hS 1 0 rfl rfl (ai_in bx56.1 bx56.2 (by decide) (by decide)) dX8_watcherLine_68 (fun H locs hP hD hS => ?_)
    obtain ⟨f68, ef68⟩ : ∃ g9 : Nat → Int32, g9 = upd f49 (x56 : Int32).toNatClampNeg (0 : Int32) := ⟨_, rfl⟩
    refine zs_1 (y := (a0_16, .inl (ka0_16, 156, .inl (f68)))) hP hD (by rw [ef68]) (fun hP hD => ?_)
    have bf68 : ((∀ k : Nat, 0 ≤ k → k ≤ 0 → (0 : Int) ≤ (f68 k).toInt ∧ (f68 k).toInt ≤ 9) ∧ (∀ k : Nat, 1 ≤ k → k ≤ 1 → (0 : Int) ≤ (f68 k).toInt ∧ (f68 k).toInt ≤ 20) ∧ (∀ k : Nat, 2 ≤ k → k ≤ 2 → (0 : Int) ≤ (f68 k).toInt ∧ (f68 k).toInt ≤ 8) ∧ (∀ k : Nat, 3 ≤ k → k ≤ 3 → (0 : Int) ≤ (f68 k).toInt ∧ (f68 k).toInt ≤ 100) ∧ (∀ k : Nat, 4 ≤ k → k ≤ 4 → (0 : Int) ≤ (f68 k).toInt ∧ (f68 k).toInt ≤ 9) ∧ (∀ k : Nat, 5 ≤ k → k ≤ 5 → (0 : Int) ≤ (f68 k).toInt ∧ (f68 k).toInt ≤ 3) ∧ (∀ k : Nat, 6 ≤ k → k ≤ 6 → (0 : Int) ≤ (f68 k).toInt ∧ (f68 k).toInt ≤ 6) ∧ (∀ k : Nat, 7 ≤ k → k ≤ 9 → (0 : Int) ≤ (f68 k).toInt ∧ (f68 k).toInt ≤ 8) ∧ (∀ k : Nat, 10 ≤ k → k ≤ 11 → (0 : Int) ≤ (f68 k).toInt ∧ (f68 k).toInt ≤ 1) ∧ (∀ k : Nat, 12 ≤ k → k ≤ 29 → (0 : Int) ≤ (f68 k).toInt ∧ (f68 k).toInt ≤ 20) ∧ (∀ k : Nat, 30 ≤ k → k ≤ 35 → (0 : Int) ≤ (f68 k).toInt ∧ (f68 k).toInt ≤ 8) ∧ (∀ k : Nat, 36 ≤ k → k ≤ 47 → (0 : Int) ≤ (f68 k).toInt ∧ (f68 k).toInt ≤ 999) ∧ (∀ k : Nat, 48 ≤ k → k ≤ 59 → (0 : Int) ≤ (f68 k).toInt ∧ (f68 k).toInt ≤ 8) ∧ ((1 : Int) ≤ (f68 11).toInt → (2 : Int) ≤ (f68 0).toInt ∧ (1 : Int) ≤ (f68 1).toInt) ∧ (∀ (j i0 i : Int32), (0 : Int) ≤ j.toInt → j.toInt ≤ 8 → i0.toInt = 12 + 2 * j.toInt → i.toInt = 13 + 2 * j.toInt → (f68 i0.toNatClampNeg).toInt = (1 : Int32).toInt → (1 : Int) ≤ (f68 i.toNatClampNeg).toInt)) := by rw [ef68]; exact ⟨ai_updO bf49.1 _ (Or.inr (ai_ngt_of bx56.1 (by decide) (by decide))), ai_updO bf49.2.1 _ (Or.inr (ai_ngt_of bx56.1 (by decide) (by decide))), ai_updO bf49.2.2.1 _ (Or.inr (ai_ngt_of bx56.1 (by decide) (by decide))), ai_updO bf49.2.2.2.1 _ (Or.inr (ai_ngt_of bx56.1 (by decide) (by decide))), ai_updO bf49.2.2.2.2.1 _ (Or.inr (ai_ngt_of bx56.1 (by decide) (by decide))), ai_updO bf49.2.2.2.2.2.1 _ (Or.inr (ai_ngt_of bx56.1 (by decide) (by decide))), ai_updO bf49.2.2.2.2.2.2.1 _ (Or.inr (ai_ngt_of bx56.1 (by decide) (by decide))), ai_updO bf49.2.2.2.2.2.2.2.1 _ (Or.inr (ai_ngt_of bx56.1 (by decide) (by decide))), ai_updO bf49.2.2.2.2.2.2.2.2.1 _ (Or.inr (ai_ngt_of bx56.1 (by decide) (by decide))), ai_updO bf49.2.2.2.2.2.2.2.2.2.1 _ (Or.inr (ai_ngt_of bx56.1 (by decide) (by decide))), ai_updS bf49.2.2.2.2.2.2.2.2.2.2.1 _ ⟨zq5, (Int.le_trans zq6 zq20)⟩, ai_updO bf49.2.2.2.2.2.2.2.2.2.2.2.1 _ (Or.inl (ai_nlt_of bx56.1 bx56.2 (by decide) (by decide))), ai_updO bf49.2.2.2.2.2.2.2.2.2.2.2.2.1 _ (Or.inl (ai_nlt_of bx56.1 bx56.2 (by decide) (by decide))), fg_o bf49.2.2.2.2.2.2.2.2.2.2.2.2.2.1 (by have h1 := ai_natge (n := 31) bx56.1 (by decide); have h2 := ai_natle (n := 35) bx56.2 (by decide); omega), fg_ko bf49.2.2.2.2.2.2.2.2.2.2.2.2.2.2 (by have h1 := ai_natge (n := 31) bx56.1 (by decide); have h2 := ai_natle (n := 35) bx56.2 (by decide); omega)⟩
    have fqf68 := fl_up_eq ef68
    have hF0 := hF0.trans (fl_lt_eq (show (fl_A f68) = fl_up (fl_A f49) (x56.toInt.toNat) 0 from fqf68))
    refine lv_aload_n hx hb dX8_watcherLine_69 rfl (lv_at hl 1 rfl) ?_
    refine va_get (D := (dC, dI)) (ci := 8) (v := .int 1) (C := RX8) (T := TX8) (N := 40) hx hb hts zi_X8_watcherLine_8 hown hK hP 0 rfl rfl 13 (by decide) (hts (.fieldLink RX8 97 "WaxTurnsModel" "failed" "Z") (zm_X8_watcherLine_r1 (List.mem_of_getElem? (i := 0) rfl))) (fun _ h9 => h9) rfl dX8_watcherLine_70 ?_
    refine lv_if_ne (tgt := 86) hx hb dX8_watcherLine_73 (by decide) (fun _ => ?_) (fun c73 => absurd c73 (by decide +kernel))
    have hFe : FX = (v30na0_4.toInt, v30na0_5.toInt, v30na0_6.toInt, v30na0_7.toInt, v30na0_8.toInt, v30na0_9.toInt, v30na0_10.toInt, 1, (fl_A f68), (fl_A v30nfa0_12)) := hF0
    exact W.vret hx hb hr (fun t ht hW => ⟨⟨(), rfl, trivial, v30na0_4, v30na0_5, v30na0_6, v30na0_7, v30na0_8, v30na0_9, v30na0_10, 1, f68, v30nfa0_12, ⟨bv30na0_5.1, bv30na0_5.2⟩, ⟨bv30na0_8.1, bv30na0_8.2⟩, ⟨Int.le_trans (by decide) zq1, zq0⟩, bf68, (Or.inl rfl), hraw30_1, hFe, by rw [ht]; exact hP, va_K.moved hW.alike hK, hD⟩, hS.F ht⟩) hS.2.2 dX8_watcherLine_86
  · subst hf30
    have hF0 := hF0.trans (if_neg (by decide))
    refine lv_aload_n hx hb dX8_watcherLine_33 rfl (lv_at hl 1 rfl) ?_
    refine va_get (D := (dC, dI)) (ci := 8) (v := .ref a0_16) (C := RX8) (T := TX8) (N := 40) hx hb hts zi_X8_watcherLine_8 hown hK hP 0 rfl rfl 16 (by decide) (hts (.fieldLink RX8 23 "WaxTurnsModel" "fresh" "[I") (zm_X8_watcherLine_r1 (List.mem_of_getElem? (i := 1) rfl))) (fun _ h9 => h9) rfl dX8_watcherLine_34 ?_
    refine lv_iload_n hx hb dX8_watcherLine_37 rfl (lv_at hl 0 rfl) ?_
    refine lv_aload_n hx hb dX8_watcherLine_38 rfl (lv_at hl 1 rfl) ?_
    refine va_ldcS hx hb hown (sxc_R33 hE0) dX8_watcherLine_39 ?_
    refine lv_iconst (v := 0) hx hb dX8_watcherLine_41 zk_iconst_0 ?_
    refine lv_aload_n hx hb dX8_watcherLine_42 rfl (lv_at hl 1 rfl) ?_
    have hKc := hK.sub (tys' := [(ka0_16, .int)]) [0] rfl
    refine va_calli (va_runV (As := []) (rest := [.int 0, .ref (ad 33), .ref a0, .int x18, .ref a0_16]) ⟨hx, hb, hml, hown, hts⟩ (f_X8_last l dC dI H.size a0 a0g_0 (Value.ref a0_1) a0g_2 (Value.int a0_3) (Value.int v30na0_4) (Value.int v30na0_5) (Value.int v30na0_6) (Value.int v30na0_7) (Value.int v30na0_8) (Value.int v30na0_9) (Value.int v30na0_10) a0g_11 (Value.ref a0_12) (Value.int 0) a0g_14 a0g_15 a0g_17 a0g_18 a0g_19 a0g_20 a0g_21 a0g_22 a0g_23 a0g_24 a0g_25 a0g_26 a0g_27 a0g_28 a0g_29 a0g_30 a0g_31 a0g_32 a0g_33 a0g_34 a0g_35 a0g_36 a0g_37 a0g_38 a0g_39 a0_16 ka0_16 v30nfa0_16 bv30nfa0_16) (cwV 0 hts gX8_watcherLine_X8_last rfl rfl rfl zd_X8_last ⟨Nat.le_of_ble_eq_true rfl, Nat.le_of_ble_eq_true rfl⟩) ⟨ax_blind (fun _ _ _ _ _ => trivial), zr_8 hKc (zp_P2 hP) (q0 := 0) rfl, ax_pre (zp_P2 hP) hKc (zp_D2 hD) (fun _ _ => trivial)⟩ rfl rfl hl.1 rfl (lv_room (Nat.le_of_ble_eq_true rfl)) dX8_watcherLine_43 ⟨Nat.le_of_ble_eq_true rfl, Nat.le_of_ble_eq_true rfl⟩) hS (fun q _ h => zp_F2 hD hS hA q h) (zp_F2 hD hS hA) (fun r43 u t H locs ht hvm hw hB hz1 hk1 hS1 => zo2 hB ht hP hD hk1 (zp_F2 hD hS hA) hS1 (fun hP hK1 hD hS => ?_))
    obtain ⟨hw, hfr43⟩ := hw
    have hc43 : Ff_X8_last (fl_A v30nfa0_16) = r43.toInt := hfr43.symm
    have hF0 := hF0.trans (fl_lt_eq hc43.symm)
    have hw : (-1 : Int) ≤ r43.toInt ∧ r43.toInt ≤ (8 : Int) := hw
    obtain ⟨h43_0, h43_1⟩ := hw
    refine zc_cutc (wc := [(a0, .inr (8, [a0g_0, Value.ref a0_1, a0g_2, Value.int a0_3, Value.int v30na0_4, Value.int v30na0_5, Value.int v30na0_6, Value.int v30na0_7, Value.int v30na0_8, Value.int v30na0_9, Value.int v30na0_10, a0g_11, Value.ref a0_12, Value.int 0, a0g_14, a0g_15, Value.ref a0_16, a0g_17, a0g_18, a0g_19, a0g_20, a0g_21, a0g_22, a0g_23, a0g_24, a0g_25, a0g_26, a0g_27, a0g_28, a0g_29, a0g_30, a0g_31, a0g_32, a0g_33, a0g_34, a0g_35, a0g_36, a0g_37, a0g_38, a0g_39])), (a0_12, .inl (ka0_12, 8, .inl (v30nfa0_12))), (a0_1, .inl (ka0_1, 900, .inl (fa0_1)))]) hP hD hS hA [0, 2, 3] (by decide +kernel) rfl (fun hPc hDc hFc hCc => ?_)
    have hKc := hK.sub (tys' := [(ka0_12, .int), (ka0_1, .int)]) [1, 2] rfl
    refine va_calli (va_runV (As := [.ref (ad 33), .int 0, .int r43]) (rest := [.int x18, .ref a0_16]) ⟨hx, hb, hml, hown, hts⟩ (fG_X8_after l dC dI H.size a0 (ad 33) 0 r43 a0g_0 a0g_2 a0g_11 a0g_14 a0g_15 (Value.ref a0_16) a0g_17 a0g_18 a0g_19 a0g_20 a0g_21 a0g_22 a0g_23 a0g_24 a0g_25 a0g_26 a0g_27 a0g_28 a0g_29 a0g_30 a0g_31 a0g_32 a0g_33 a0g_34 a0g_35 a0g_36 a0g_37 a0g_38 a0g_39 a0_1 a0_3 v30na0_4 v30na0_5 v30na0_6 v30na0_7 v30na0_8 v30na0_9 v30na0_10 a0_12 ka0_12 v30nfa0_12 ka0_1 fa0_1 4 (sxc 33) ba0_3_l ba0_3_u bv30na0_5.1 bv30na0_5.2 bv30na0_8.1 bv30na0_8.2) (cwV 3 hts gX8_watcherLine_X8_after rfl rfl rfl zd_X8_after ⟨Nat.le_of_ble_eq_true rfl, Nat.le_of_ble_eq_true rfl⟩) ⟨ax_blind (fun _ _ _ _ hq => sxc_W_same _ _ _ _ (hq)), zr_8 hKc hPc (q0 := 0) rfl, ax_preE hPc hKc hDc (fun U hU hW => sxc_W_to (sxc_T_w hE0 (i := 33) (by decide)) hS.2.1 hFc hU hW)⟩ rfl rfl hl.1 rfl (lv_room (Nat.le_of_ble_eq_true rfl)) dX8_watcherLine_46 ⟨Nat.le_of_ble_eq_true rfl, Nat.le_of_ble_eq_true rfl⟩) hS (fun q _ h => hFc q h) hFc (fun r46 v46na0_13 t H1 locs ht hvm hw => zx_8 (fun v46na0_4 v46na0_5 v46na0_6 v46na0_7 v46na0_8 v46na0_9 v46na0_10 v46nfa0_12 => zy_5 (fun bv46na0_5 bv46na0_8 bv46na0_13 hraw46_0 hraw46_1 hB hz1 hk1 hS1 => zo hB ht hS1 (fun hP1 hK1 hD1 hS => ?_))))
    refine zc_backc (w := [(a0, .inr (8, [a0g_0, Value.ref a0_1, a0g_2, Value.int a0_3, Value.int v46na0_4, Value.int v46na0_5, Value.int v46na0_6, Value.int v46na0_7, Value.int v46na0_8, Value.int v46na0_9, Value.int v46na0_10, a0g_11, Value.ref a0_12, Value.int v46na0_13, a0g_14, a0g_15, Value.ref a0_16, a0g_17, a0g_18, a0g_19, a0g_20, a0g_21, a0g_22, a0g_23, a0g_24, a0g_25, a0g_26, a0g_27, a0g_28, a0g_29, a0g_30, a0g_31, a0g_32, a0g_33, a0g_34, a0g_35, a0g_36, a0g_37, a0g_38, a0g_39])), (a0_16, .inl (ka0_16, 156, .inl (v30nfa0_16))), (a0_12, .inl (ka0_12, 8, .inl (v46nfa0_12))), (a0_1, .inl (ka0_1, 900, .inl (fa0_1)))]) hP hD hCc hk1 hFc hP1 hD1 [.inr 0, .inl 1, .inr 1, .inr 2] (by decide +kernel) rfl (fun hP hD => ?_)
    generalize H1 = H at hP hS ⊢
    obtain ⟨hw, hfr46⟩ := hw
    rw [show (0 : Int32).toInt = 0 from by decide, show ((4 : Nat) : Int) = 4 from rfl] at hfr46 hraw46_1
    have hc46 : FfG_X8_after 0 r43.toInt a0_3.toInt v30na0_4.toInt v30na0_5.toInt v30na0_6.toInt v30na0_7.toInt v30na0_8.toInt v30na0_9.toInt v30na0_10.toInt (fl_A v30nfa0_12) (fl_A fa0_1) 4 (fl_A (sxc 33)) = (r46.toInt, v46na0_4.toInt, v46na0_5.toInt, v46na0_6.toInt, v46na0_7.toInt, v46na0_8.toInt, v46na0_9.toInt, v46na0_10.toInt, v46na0_13.toInt, (fl_A v46nfa0_12)) := Prod.ext hfr46.symm hraw46_1
    have hF0 := hF0.trans (fl_c10_eq hc46)
    rcases hw with hw | hw
    · obtain ⟨hw, h46⟩ := hw
      subst hw
      have hF0 := hF0.trans (if_pos (by decide))
      refine va_iast hx hb hK hP hD hS 1 0 rfl rfl (ai_in bx18.1 bx18.2 (by decide) (by decide)) dX8_watcherLine_49 (fun H locs hP hD hS => ?_)
      obtain ⟨f49, ef49⟩ : ∃ g9 : Nat → Int32, g9 = upd v30nfa0_16 (x18 : Int32).toNatClampNeg r46 := ⟨_, rfl⟩
      refine zs_1 (y := (a0_16, .inl (ka0_16, 156, .inl (f49)))) hP hD (by rw [ef49]) (fun hP hD => ?_)
      have bf49 : ((∀ k : Nat, 0 ≤ k → k ≤ 0 → (0 : Int) ≤ (f49 k).toInt ∧ (f49 k).toInt ≤ 9) ∧ (∀ k : Nat, 1 ≤ k → k ≤ 1 → (0 : Int) ≤ (f49 k).toInt ∧ (f49 k).toInt ≤ 20) ∧ (∀ k : Nat, 2 ≤ k → k ≤ 2 → (0 : Int) ≤ (f49 k).toInt ∧ (f49 k).toInt ≤ 8) ∧ (∀ k : Nat, 3 ≤ k → k ≤ 3 → (0 : Int) ≤ (f49 k).toInt ∧ (f49 k).toInt ≤ 100) ∧ (∀ k : Nat, 4 ≤ k → k ≤ 4 → (0 : Int) ≤ (f49 k).toInt ∧ (f49 k).toInt ≤ 9) ∧ (∀ k : Nat, 5 ≤ k → k ≤ 5 → (0 : Int) ≤ (f49 k).toInt ∧ (f49 k).toInt ≤ 3) ∧ (∀ k : Nat, 6 ≤ k → k ≤ 6 → (0 : Int) ≤ (f49 k).toInt ∧ (f49 k).toInt ≤ 6) ∧ (∀ k : Nat, 7 ≤ k → k ≤ 9 → (0 : Int) ≤ (f49 k).toInt ∧ (f49 k).toInt ≤ 8) ∧ (∀ k : Nat, 10 ≤ k → k ≤ 11 → (0 : Int) ≤ (f49 k).toInt ∧ (f49 k).toInt ≤ 1) ∧ (∀ k : Nat, 12 ≤ k → k ≤ 29 → (0 : Int) ≤ (f49 k).toInt ∧ (f49 k).toInt ≤ 20) ∧ (∀ k : Nat, 30 ≤ k → k ≤ 35 → (0 : Int) ≤ (f49 k).toInt ∧ (f49 k).toInt ≤ 8) ∧ (∀ k : Nat, 36 ≤ k → k ≤ 47 → (0 : Int) ≤ (f49 k).toInt ∧ (f49 k).toInt ≤ 999) ∧ (∀ k : Nat, 48 ≤ k → k ≤ 59 → (0 : Int) ≤ (f49 k).toInt ∧ (f49 k).toInt ≤ 8) ∧ ((1 : Int) ≤ (f49 11).toInt → (2 : Int) ≤ (f49 0).toInt ∧ (1 : Int) ≤ (f49 1).toInt) ∧ (∀ (j i0 i : Int32), (0 : Int) ≤ j.toInt → j.toInt ≤ 8 → i0.toInt = 12 + 2 * j.toInt → i.toInt = 13 + 2 * j.toInt → (f49 i0.toNatClampNeg).toInt = (1 : Int32).toInt → (1 : Int) ≤ (f49 i.toNatClampNeg).toInt)) := by rw [ef49]; exact ⟨ai_updO bv30nfa0_16.1 _ (Or.inr (ai_ngt_of bx18.1 (by decide) (by decide))), ai_updO bv30nfa0_16.2.1 _ (Or.inr (ai_ngt_of bx18.1 (by decide) (by decide))), ai_updO bv30nfa0_16.2.2.1 _ (Or.inr (ai_ngt_of bx18.1 (by decide) (by decide))), ai_updO bv30nfa0_16.2.2.2.1 _ (Or.inr (ai_ngt_of bx18.1 (by decide) (by decide))), ai_updO bv30nfa0_16.2.2.2.2.1 _ (Or.inr (ai_ngt_of bx18.1 (by decide) (by decide))), ai_updO bv30nfa0_16.2.2.2.2.2.1 _ (Or.inr (ai_ngt_of bx18.1 (by decide) (by decide))), ai_updO bv30nfa0_16.2.2.2.2.2.2.1 _ (Or.inr (ai_ngt_of bx18.1 (by decide) (by decide))), ai_updO bv30nfa0_16.2.2.2.2.2.2.2.1 _ (Or.inr (ai_ngt_of bx18.1 (by decide) (by decide))), ai_updO bv30nfa0_16.2.2.2.2.2.2.2.2.1 _ (Or.inr (ai_ngt_of bx18.1 (by decide) (by decide))), ai_updO bv30nfa0_16.2.2.2.2.2.2.2.2.2.1 _ (Or.inr (ai_ngt_of bx18.1 (by decide) (by decide))), ai_updS bv30nfa0_16.2.2.2.2.2.2.2.2.2.2.1 _ ⟨(Int.le_trans zq5 (Int.le_of_eq (congrArg Int32.toInt h46).symm)), (Int.le_trans (Int.le_trans (Int.le_of_eq (congrArg Int32.toInt h46)) zq6) zq20)⟩, ai_updO bv30nfa0_16.2.2.2.2.2.2.2.2.2.2.2.1 _ (Or.inl (ai_nlt_of bx18.1 bx18.2 (by decide) (by decide))), ai_updO bv30nfa0_16.2.2.2.2.2.2.2.2.2.2.2.2.1 _ (Or.inl (ai_nlt_of bx18.1 bx18.2 (by decide) (by decide))), fg_o bv30nfa0_16.2.2.2.2.2.2.2.2.2.2.2.2.2.1 (by have h1 := ai_natge (n := 30) bx18.1 (by decide); have h2 := ai_natle (n := 34) bx18.2 (by decide); omega), fg_ko bv30nfa0_16.2.2.2.2.2.2.2.2.2.2.2.2.2.2 (by have h1 := ai_natge (n := 30) bx18.1 (by decide); have h2 := ai_natle (n := 34) bx18.2 (by decide); omega)⟩
      have fqf49 := fl_up_eq ef49
      have hF0 := hF0.trans (fl_lt_eq (show (fl_A f49) = fl_up (fl_A v30nfa0_16) (x18.toInt.toNat) r46.toInt from fqf49))
      refine lv_aload_n hx hb dX8_watcherLine_50 rfl (lv_at hl 1 rfl) ?_
      refine va_get (D := (dC, dI)) (ci := 8) (v := .ref a0_16) (C := RX8) (T := TX8) (N := 40) hx hb hts zi_X8_watcherLine_8 hown hK hP 0 rfl rfl 16 (by decide) (hts (.fieldLink RX8 23 "WaxTurnsModel" "fresh" "[I") (zm_X8_watcherLine_r1 (List.mem_of_getElem? (i := 1) rfl))) (fun _ h9 => h9) rfl dX8_watcherLine_51 ?_
      refine lv_iload_n hx hb dX8_watcherLine_54 rfl (lv_at hl 0 rfl) ?_
      refine lv_iconst (v := 1) hx hb dX8_watcherLine_55 zk_iconst_1 ?_
      refine lv_iadd hx hb dX8_watcherLine_56 ?_
      refine lv_topi (fun x56 ex56 => ?_)
      have qx56 : x56.toInt = x18.toInt + (1 : Int32).toInt := ai_add ex56 ⟨bx18.1, bx18.2⟩ ⟨zq1, zq0⟩ (by decide) (by decide)
      have bx56 : (31 : Int) ≤ x56.toInt ∧ x56.toInt ≤ 35 := ⟨by rw [qx56]; exact Int.add_le_add bx18.1 zq1, by rw [qx56]; exact Int.add_le_add bx18.2 zq0⟩
      have wx56 : x56.toInt = x18.toInt + 1 := qx56
      have hF0 := hF0.trans (fl_lt_eq (show x56.toInt = x18.toInt + 1 from qx56))
      refine lv_aload_n hx hb dX8_watcherLine_57 rfl (lv_at hl 1 rfl) ?_
      refine va_ldcS hx hb hown (sxc_R34 hE0) dX8_watcherLine_58 ?_
      refine lv_iconst (v := 0) hx hb dX8_watcherLine_60 zk_iconst_0 ?_
      refine lv_aload_n hx hb dX8_watcherLine_61 rfl (lv_at hl 1 rfl) ?_
      have hKc := hK.sub (tys' := [(ka0_16, .int)]) [0] rfl
      refine va_calli (va_runV (As := []) (rest := [.int 0, .ref (ad 34), .ref a0, .int x56, .ref a0_16]) ⟨hx, hb, hml, hown, hts⟩ (f_X8_last l dC dI H.size a0 a0g_0 (Value.ref a0_1) a0g_2 (Value.int a0_3) (Value.int v46na0_4) (Value.int v46na0_5) (Value.int v46na0_6) (Value.int v46na0_7) (Value.int v46na0_8) (Value.int v46na0_9) (Value.int v46na0_10) a0g_11 (Value.ref a0_12) (Value.int 1) a0g_14 a0g_15 a0g_17 a0g_18 a0g_19 a0g_20 a0g_21 a0g_22 a0g_23 a0g_24 a0g_25 a0g_26 a0g_27 a0g_28 a0g_29 a0g_30 a0g_31 a0g_32 a0g_33 a0g_34 a0g_35 a0g_36 a0g_37 a0g_38 a0g_39 a0_16 ka0_16 f49 bf49) (cwV 0 hts gX8_watcherLine_X8_last rfl rfl rfl zd_X8_last ⟨Nat.le_of_ble_eq_true rfl, Nat.le_of_ble_eq_true rfl⟩) ⟨ax_blind (fun _ _ _ _ _ => trivial), zr_8 hKc (zp_P2 hP) (q0 := 0) rfl, ax_pre (zp_P2 hP) hKc (zp_D2 hD) (fun _ _ => trivial)⟩ rfl rfl hl.1 rfl (lv_room (Nat.le_of_ble_eq_true rfl)) dX8_watcherLine_62 ⟨Nat.le_of_ble_eq_true rfl, Nat.le_of_ble_eq_true rfl⟩) hS (fun q _ h => zp_F2 hD hS hA q h) (zp_F2 hD hS hA) (fun r62 u t H locs ht hvm hw hB hz1 hk1 hS1 => zo2 hB ht hP hD hk1 (zp_F2 hD hS hA) hS1 (fun hP hK1 hD hS => ?_))
      obtain ⟨hw, hfr62⟩ := hw
      have hc62 : Ff_X8_last (fl_A f49) = r62.toInt := hfr62.symm
      have hF0 := hF0.trans (fl_lt_eq hc62.symm)
      have hw : (-1 : Int) ≤ r62.toInt ∧ r62.toInt ≤ (8 : Int) := hw
      obtain ⟨h62_0, h62_1⟩ := hw
      refine va_calli (va_runV (As := [.ref (ad 34), .int 0, .int r62]) (rest := [.int x56, .ref a0_16]) ⟨hx, hb, hml, hown, hts⟩ (fF_X8_after l dC dI H.size a0 (ad 34) 0 r62 a0g_0 (Value.ref a0_1) a0g_2 (Value.int a0_3) (Value.int v46na0_4) (Value.int v46na0_5) (Value.int v46na0_6) (Value.int v46na0_7) (Value.int v46na0_8) (Value.int v46na0_9) (Value.int v46na0_10) a0g_11 (Value.ref a0_12) a0g_14 a0g_15 (Value.ref a0_16) a0g_17 a0g_18 a0g_19 a0g_20 a0g_21 a0g_22 a0g_23 a0g_24 a0g_25 a0g_26 a0g_27 a0g_28 a0g_29 a0g_30 a0g_31 a0g_32 a0g_33 a0g_34 a0g_35 a0g_36 a0g_37 a0g_38 a0g_39 2 (sxc 34) ) (cwV 3 hts gX8_watcherLine_X8_after rfl rfl rfl zd_X8_after ⟨Nat.le_of_ble_eq_true rfl, Nat.le_of_ble_eq_true rfl⟩) ⟨ax_blind (fun _ _ _ _ hq => sxc_W_same _ _ _ _ (hq)), zr_8 (zp_K hK) (zp_P1 hP) (q0 := 0) rfl, ax_preE (zp_P1 hP) (zp_K hK) (zp_D1 hD) (fun U hU hW => sxc_W_to (sxc_T_w hE0 (i := 34) (by decide)) hS.2.1 (zp_F1 hD hS hA) hU hW)⟩ rfl rfl hl.1 rfl (lv_room (Nat.le_of_ble_eq_true rfl)) dX8_watcherLine_65 ⟨Nat.le_of_ble_eq_true rfl, Nat.le_of_ble_eq_true rfl⟩) hS (fun q _ h => zp_F1 hD hS hA q h) (zp_F1 hD hS hA) (fun r65 u t H locs ht hvm hw hB hz1 hk1 hS1 => zo1 hB ht hP hD hk1 (zp_F1 hD hS hA) hS1 (fun hP hK1 hD hS => ?_))
      obtain ⟨hw, hfr65⟩ := hw
      rw [show (0 : Int32).toInt = 0 from by decide] at hfr65
      have hc65 : FfF_X8_after 0 = r65.toInt := hfr65.symm
      have hF0 := hF0.trans (fl_lt_eq hc65.symm)
      have hw : r65 = 0 := hw
      have hw := hw.symm
      subst hw
      refine va_iast hx hb hK hP hD hS 1 0 rfl rfl (ai_in bx56.1 bx56.2 (by decide) (by decide)) dX8_watcherLine_68 (fun H locs hP hD hS => ?_)
      obtain ⟨f68, ef68⟩ : ∃ g9 : Nat → Int32, g9 = upd f49 (x56 : Int32).toNatClampNeg (0 : Int32) := ⟨_, rfl⟩
      refine zs_1 (y := (a0_16, .inl (ka0_16, 156, .inl (f68)))) hP hD (by rw [ef68]) (fun hP hD => ?_)
      have bf68 : ((∀ k : Nat, 0 ≤ k → k ≤ 0 → (0 : Int) ≤ (f68 k).toInt ∧ (f68 k).toInt ≤ 9) ∧ (∀ k : Nat, 1 ≤ k → k ≤ 1 → (0 : Int) ≤ (f68 k).toInt ∧ (f68 k).toInt ≤ 20) ∧ (∀ k : Nat, 2 ≤ k → k ≤ 2 → (0 : Int) ≤ (f68 k).toInt ∧ (f68 k).toInt ≤ 8) ∧ (∀ k : Nat, 3 ≤ k → k ≤ 3 → (0 : Int) ≤ (f68 k).toInt ∧ (f68 k).toInt ≤ 100) ∧ (∀ k : Nat, 4 ≤ k → k ≤ 4 → (0 : Int) ≤ (f68 k).toInt ∧ (f68 k).toInt ≤ 9) ∧ (∀ k : Nat, 5 ≤ k → k ≤ 5 → (0 : Int) ≤ (f68 k).toInt ∧ (f68 k).toInt ≤ 3) ∧ (∀ k : Nat, 6 ≤ k → k ≤ 6 → (0 : Int) ≤ (f68 k).toInt ∧ (f68 k).toInt ≤ 6) ∧ (∀ k : Nat, 7 ≤ k → k ≤ 9 → (0 : Int) ≤ (f68 k).toInt ∧ (f68 k).toInt ≤ 8) ∧ (∀ k : Nat, 10 ≤ k → k ≤ 11 → (0 : Int) ≤ (f68 k).toInt ∧ (f68 k).toInt ≤ 1) ∧ (∀ k : Nat, 12 ≤ k → k ≤ 29 → (0 : Int) ≤ (f68 k).toInt ∧ (f68 k).toInt ≤ 20) ∧ (∀ k : Nat, 30 ≤ k → k ≤ 35 → (0 : Int) ≤ (f68 k).toInt ∧ (f68 k).toInt ≤ 8) ∧ (∀ k : Nat, 36 ≤ k → k ≤ 47 → (0 : Int) ≤ (f68 k).toInt ∧ (f68 k).toInt ≤ 999) ∧ (∀ k : Nat, 48 ≤ k → k ≤ 59 → (0 : Int) ≤ (f68 k).toInt ∧ (f68 k).toInt ≤ 8) ∧ ((1 : Int) ≤ (f68 11).toInt → (2 : Int) ≤ (f68 0).toInt ∧ (1 : Int) ≤ (f68 1).toInt) ∧ (∀ (j i0 i : Int32), (0 : Int) ≤ j.toInt → j.toInt ≤ 8 → i0.toInt = 12 + 2 * j.toInt → i.toInt = 13 + 2 * j.toInt → (f68 i0.toNatClampNeg).toInt = (1 : Int32).toInt → (1 : Int) ≤ (f68 i.toNatClampNeg).toInt)) := by rw [ef68]; exact ⟨ai_updO bf49.1 _ (Or.inr (ai_ngt_of bx56.1 (by decide) (by decide))), ai_updO bf49.2.1 _ (Or.inr (ai_ngt_of bx56.1 (by decide) (by decide))), ai_updO bf49.2.2.1 _ (Or.inr (ai_ngt_of bx56.1 (by decide) (by decide))), ai_updO bf49.2.2.2.1 _ (Or.inr (ai_ngt_of bx56.1 (by decide) (by decide))), ai_updO bf49.2.2.2.2.1 _ (Or.inr (ai_ngt_of bx56.1 (by decide) (by decide))), ai_updO bf49.2.2.2.2.2.1 _ (Or.inr (ai_ngt_of bx56.1 (by decide) (by decide))), ai_updO bf49.2.2.2.2.2.2.1 _ (Or.inr (ai_ngt_of bx56.1 (by decide) (by decide))), ai_updO bf49.2.2.2.2.2.2.2.1 _ (Or.inr (ai_ngt_of bx56.1 (by decide) (by decide))), ai_updO bf49.2.2.2.2.2.2.2.2.1 _ (Or.inr (ai_ngt_of bx56.1 (by decide) (by decide))), ai_updO bf49.2.2.2.2.2.2.2.2.2.1 _ (Or.inr (ai_ngt_of bx56.1 (by decide) (by decide))), ai_updS bf49.2.2.2.2.2.2.2.2.2.2.1 _ ⟨zq5, (Int.le_trans zq6 zq20)⟩, ai_updO bf49.2.2.2.2.2.2.2.2.2.2.2.1 _ (Or.inl (ai_nlt_of bx56.1 bx56.2 (by decide) (by decide))), ai_updO bf49.2.2.2.2.2.2.2.2.2.2.2.2.1 _ (Or.inl (ai_nlt_of bx56.1 bx56.2 (by decide) (by decide))), fg_o bf49.2.2.2.2.2.2.2.2.2.2.2.2.2.1 (by have h1 := ai_natge (n := 31) bx56.1 (by decide); have h2 := ai_natle (n := 35) bx56.2 (by decide); omega), fg_ko bf49.2.2.2.2.2.2.2.2.2.2.2.2.2.2 (by have h1 := ai_natge (n := 31) bx56.1 (by decide); have h2 := ai_natle (n := 35) bx56.2 (by decide); omega)⟩
      have fqf68 := fl_up_eq ef68
      have hF0 := hF0.trans (fl_lt_eq (show (fl_A f68) = fl_up (fl_A f49) (x56.toInt.toNat) 0 from fqf68))
      refine lv_aload_n hx hb dX8_watcherLine_69 rfl (lv_at hl 1 rfl) ?_
      refine va_get (D := (dC, dI)) (ci := 8) (v := .int 1) (C := RX8) (T := TX8) (N := 40) hx hb hts zi_X8_watcherLine_8 hown hK hP 0 rfl rfl 13 (by decide) (hts (.fieldLink RX8 97 "WaxTurnsModel" "failed" "Z") (zm_X8_watcherLine_r1 (List.mem_of_getElem? (i := 0) rfl))) (fun _ h9 => h9) rfl dX8_watcherLine_70 ?_
      refine lv_if_ne (tgt := 86) hx hb dX8_watcherLine_73 (by decide) (fun _ => ?_) (fun c73 => absurd c73 (by decide +kernel))
      have hFe : FX = (v46na0_4.toInt, v46na0_5.toInt, v46na0_6.toInt, v46na0_7.toInt, v46na0_8.toInt, v46na0_9.toInt, v46na0_10.toInt, 1, (fl_A f68), (fl_A v46nfa0_12)) := hF0
      exact W.vret hx hb hr (fun t ht hW => ⟨⟨(), rfl, trivial, v46na0_4, v46na0_5, v46na0_6, v46na0_7, v46na0_8, v46na0_9, v46na0_10, 1, f68, v46nfa0_12, ⟨bv46na0_5.1, bv46na0_5.2⟩, ⟨bv46na0_8.1, bv46na0_8.2⟩, ⟨Int.le_trans (by decide) zq1, zq0⟩, bf68, (Or.inl rfl), (em_t hraw30_1 hraw46_0), hFe, by rw [ht]; exact hP, va_K.moved hW.alike hK, hD⟩, hS.F ht⟩) hS.2.2 dX8_watcherLine_86
    · obtain ⟨hw, h46⟩ := hw
      subst hw
      have hF0 := hF0.trans (if_neg (by decide))
      refine va_iast hx hb hK hP hD hS 1 0 rfl rfl (ai_in bx18.1 bx18.2 (by decide) (by decide)) dX8_watcherLine_49 (fun H locs hP hD hS => ?_)
      obtain ⟨f49, ef49⟩ : ∃ g9 : Nat → Int32, g9 = upd v30nfa0_16 (x18 : Int32).toNatClampNeg r46 := ⟨_, rfl⟩
      refine zs_1 (y := (a0_16, .inl (ka0_16, 156, .inl (f49)))) hP hD (by rw [ef49]) (fun hP hD => ?_)
      have bf49 : ((∀ k : Nat, 0 ≤ k → k ≤ 0 → (0 : Int) ≤ (f49 k).toInt ∧ (f49 k).toInt ≤ 9) ∧ (∀ k : Nat, 1 ≤ k → k ≤ 1 → (0 : Int) ≤ (f49 k).toInt ∧ (f49 k).toInt ≤ 20) ∧ (∀ k : Nat, 2 ≤ k → k ≤ 2 → (0 : Int) ≤ (f49 k).toInt ∧ (f49 k).toInt ≤ 8) ∧ (∀ k : Nat, 3 ≤ k → k ≤ 3 → (0 : Int) ≤ (f49 k).toInt ∧ (f49 k).toInt ≤ 100) ∧ (∀ k : Nat, 4 ≤ k → k ≤ 4 → (0 : Int) ≤ (f49 k).toInt ∧ (f49 k).toInt ≤ 9) ∧ (∀ k : Nat, 5 ≤ k → k ≤ 5 → (0 : Int) ≤ (f49 k).toInt ∧ (f49 k).toInt ≤ 3) ∧ (∀ k : Nat, 6 ≤ k → k ≤ 6 → (0 : Int) ≤ (f49 k).toInt ∧ (f49 k).toInt ≤ 6) ∧ (∀ k : Nat, 7 ≤ k → k ≤ 9 → (0 : Int) ≤ (f49 k).toInt ∧ (f49 k).toInt ≤ 8) ∧ (∀ k : Nat, 10 ≤ k → k ≤ 11 → (0 : Int) ≤ (f49 k).toInt ∧ (f49 k).toInt ≤ 1) ∧ (∀ k : Nat, 12 ≤ k → k ≤ 29 → (0 : Int) ≤ (f49 k).toInt ∧ (f49 k).toInt ≤ 20) ∧ (∀ k : Nat, 30 ≤ k → k ≤ 35 → (0 : Int) ≤ (f49 k).toInt ∧ (f49 k).toInt ≤ 8) ∧ (∀ k : Nat, 36 ≤ k → k ≤ 47 → (0 : Int) ≤ (f49 k).toInt ∧ (f49 k).toInt ≤ 999) ∧ (∀ k : Nat, 48 ≤ k → k ≤ 59 → (0 : Int) ≤ (f49 k).toInt ∧ (f49 k).toInt ≤ 8) ∧ ((1 : Int) ≤ (f49 11).toInt → (2 : Int) ≤ (f49 0).toInt ∧ (1 : Int) ≤ (f49 1).toInt) ∧ (∀ (j i0 i : Int32), (0 : Int) ≤ j.toInt → j.toInt ≤ 8 → i0.toInt = 12 + 2 * j.toInt → i.toInt = 13 + 2 * j.toInt → (f49 i0.toNatClampNeg).toInt = (1 : Int32).toInt → (1 : Int) ≤ (f49 i.toNatClampNeg).toInt)) := by rw [ef49]; exact ⟨ai_updO bv30nfa0_16.1 _ (Or.inr (ai_ngt_of bx18.1 (by decide) (by decide))), ai_updO bv30nfa0_16.2.1 _ (Or.inr (ai_ngt_of bx18.1 (by decide) (by decide))), ai_updO bv30nfa0_16.2.2.1 _ (Or.inr (ai_ngt_of bx18.1 (by decide) (by decide))), ai_updO bv30nfa0_16.2.2.2.1 _ (Or.inr (ai_ngt_of bx18.1 (by decide) (by decide))), ai_updO bv30nfa0_16.2.2.2.2.1 _ (Or.inr (ai_ngt_of bx18.1 (by decide) (by decide))), ai_updO bv30nfa0_16.2.2.2.2.2.1 _ (Or.inr (ai_ngt_of bx18.1 (by decide) (by decide))), ai_updO bv30nfa0_16.2.2.2.2.2.2.1 _ (Or.inr (ai_ngt_of bx18.1 (by decide) (by decide))), ai_updO bv30nfa0_16.2.2.2.2.2.2.2.1 _ (Or.inr (ai_ngt_of bx18.1 (by decide) (by decide))), ai_updO bv30nfa0_16.2.2.2.2.2.2.2.2.1 _ (Or.inr (ai_ngt_of bx18.1 (by decide) (by decide))), ai_updO bv30nfa0_16.2.2.2.2.2.2.2.2.2.1 _ (Or.inr (ai_ngt_of bx18.1 (by decide) (by decide))), ai_updS bv30nfa0_16.2.2.2.2.2.2.2.2.2.2.1 _ ⟨(Int.le_trans zq5 h46.1), (Int.le_trans h46.2 h43_1)⟩, ai_updO bv30nfa0_16.2.2.2.2.2.2.2.2.2.2.2.1 _ (Or.inl (ai_nlt_of bx18.1 bx18.2 (by decide) (by decide))), ai_updO bv30nfa0_16.2.2.2.2.2.2.2.2.2.2.2.2.1 _ (Or.inl (ai_nlt_of bx18.1 bx18.2 (by decide) (by decide))), fg_o bv30nfa0_16.2.2.2.2.2.2.2.2.2.2.2.2.2.1 (by have h1 := ai_natge (n := 30) bx18.1 (by decide); have h2 := ai_natle (n := 34) bx18.2 (by decide); omega), fg_ko bv30nfa0_16.2.2.2.2.2.2.2.2.2.2.2.2.2.2 (by have h1 := ai_natge (n := 30) bx18.1 (by decide); have h2 := ai_natle (n := 34) bx18.2 (by decide); omega)⟩
      have fqf49 := fl_up_eq ef49
      have hF0 := hF0.trans (fl_lt_eq (show (fl_A f49) = fl_up (fl_A v30nfa0_16) (x18.toInt.toNat) r46.toInt from fqf49))
      refine lv_aload_n hx hb dX8_watcherLine_50 rfl (lv_at hl 1 rfl) ?_
      refine va_get (D := (dC, dI)) (ci := 8) (v := .ref a0_16) (C := RX8) (T := TX8) (N := 40) hx hb hts zi_X8_watcherLine_8 hown hK hP 0 rfl rfl 16 (by decide) (hts (.fieldLink RX8 23 "WaxTurnsModel" "fresh" "[I") (zm_X8_watcherLine_r1 (List.mem_of_getElem? (i := 1) rfl))) (fun _ h9 => h9) rfl dX8_watcherLine_51 ?_
      refine lv_iload_n hx hb dX8_watcherLine_54 rfl (lv_at hl 0 rfl) ?_
      refine lv_iconst (v := 1) hx hb dX8_watcherLine_55 zk_iconst_1 ?_
      refine lv_iadd hx hb dX8_watcherLine_56 ?_
      refine lv_topi (fun x56 ex56 => ?_)
      have qx56 : x56.toInt = x18.toInt + (1 : Int32).toInt := ai_add ex56 ⟨bx18.1, bx18.2⟩ ⟨zq1, zq0⟩ (by decide) (by decide)
      have bx56 : (31 : Int) ≤ x56.toInt ∧ x56.toInt ≤ 35 := ⟨by rw [qx56]; exact Int.add_le_add bx18.1 zq1, by rw [qx56]; exact Int.add_le_add bx18.2 zq0⟩
      have wx56 : x56.toInt = x18.toInt + 1 := qx56
      have hF0 := hF0.trans (fl_lt_eq (show x56.toInt = x18.toInt + 1 from qx56))
      refine lv_aload_n hx hb dX8_watcherLine_57 rfl (lv_at hl 1 rfl) ?_
      refine va_ldcS hx hb hown (sxc_R34 hE0) dX8_watcherLine_58 ?_
      refine lv_iconst (v := 0) hx hb dX8_watcherLine_60 zk_iconst_0 ?_
      refine lv_aload_n hx hb dX8_watcherLine_61 rfl (lv_at hl 1 rfl) ?_
      have hKc := hK.sub (tys' := [(ka0_16, .int)]) [0] rfl
      refine va_calli (va_runV (As := []) (rest := [.int 0, .ref (ad 34), .ref a0, .int x56, .ref a0_16]) ⟨hx, hb, hml, hown, hts⟩ (f_X8_last l dC dI H.size a0 a0g_0 (Value.ref a0_1) a0g_2 (Value.int a0_3) (Value.int v46na0_4) (Value.int v46na0_5) (Value.int v46na0_6) (Value.int v46na0_7) (Value.int v46na0_8) (Value.int v46na0_9) (Value.int v46na0_10) a0g_11 (Value.ref a0_12) (Value.int 0) a0g_14 a0g_15 a0g_17 a0g_18 a0g_19 a0g_20 a0g_21 a0g_22 a0g_23 a0g_24 a0g_25 a0g_26 a0g_27 a0g_28 a0g_29 a0g_30 a0g_31 a0g_32 a0g_33 a0g_34 a0g_35 a0g_36 a0g_37 a0g_38 a0g_39 a0_16 ka0_16 f49 bf49) (cwV 0 hts gX8_watcherLine_X8_last rfl rfl rfl zd_X8_last ⟨Nat.le_of_ble_eq_true rfl, Nat.le_of_ble_eq_true rfl⟩) ⟨ax_blind (fun _ _ _ _ _ => trivial), zr_8 hKc (zp_P2 hP) (q0 := 0) rfl, ax_pre (zp_P2 hP) hKc (zp_D2 hD) (fun _ _ => trivial)⟩ rfl rfl hl.1 rfl (lv_room (Nat.le_of_ble_eq_true rfl)) dX8_watcherLine_62 ⟨Nat.le_of_ble_eq_true rfl, Nat.le_of_ble_eq_true rfl⟩) hS (fun q _ h => zp_F2 hD hS hA q h) (zp_F2 hD hS hA) (fun r62 u t H locs ht hvm hw hB hz1 hk1 hS1 => zo2 hB ht hP hD hk1 (zp_F2 hD hS hA) hS1 (fun hP hK1 hD hS => ?_))
      obtain ⟨hw, hfr62⟩ := hw
      have hc62 : Ff_X8_last (fl_A f49) = r62.toInt := hfr62.symm
      have hF0 := hF0.trans (fl_lt_eq hc62.symm)
      have hw : (-1 : Int) ≤ r62.toInt ∧ r62.toInt ≤ (8 : Int) := hw
      obtain ⟨h62_0, h62_1⟩ := hw
      refine zc_cutc (wc := [(a0, .inr (8, [a0g_0, Value.ref a0_1, a0g_2, Value.int a0_3, Value.int v46na0_4, Value.int v46na0_5, Value.int v46na0_6, Value.int v46na0_7, Value.int v46na0_8, Value.int v46na0_9, Value.int v46na0_10, a0g_11, Value.ref a0_12, Value.int 0, a0g_14, a0g_15, Value.ref a0_16, a0g_17, a0g_18, a0g_19, a0g_20, a0g_21, a0g_22, a0g_23, a0g_24, a0g_25, a0g_26, a0g_27, a0g_28, a0g_29, a0g_30, a0g_31, a0g_32, a0g_33, a0g_34, a0g_35, a0g_36, a0g_37, a0g_38, a0g_39])), (a0_12, .inl (ka0_12, 8, .inl (v46nfa0_12))), (a0_1, .inl (ka0_1, 900, .inl (fa0_1)))]) hP hD hS hA [0, 2, 3] (by decide +kernel) rfl (fun hPc hDc hFc hCc => ?_)
      have hKc := hK.sub (tys' := [(ka0_12, .int), (ka0_1, .int)]) [1, 2] rfl
      refine va_calli (va_runV (As := [.ref (ad 34), .int 0, .int r62]) (rest := [.int x56, .ref a0_16]) ⟨hx, hb, hml, hown, hts⟩ (fG_X8_after l dC dI H.size a0 (ad 34) 0 r62 a0g_0 a0g_2 a0g_11 a0g_14 a0g_15 (Value.ref a0_16) a0g_17 a0g_18 a0g_19 a0g_20 a0g_21 a0g_22 a0g_23 a0g_24 a0g_25 a0g_26 a0g_27 a0g_28 a0g_29 a0g_30 a0g_31 a0g_32 a0g_33 a0g_34 a0g_35 a0g_36 a0g_37 a0g_38 a0g_39 a0_1 a0_3 v46na0_4 v46na0_5 v46na0_6 v46na0_7 v46na0_8 v46na0_9 v46na0_10 a0_12 ka0_12 v46nfa0_12 ka0_1 fa0_1 2 (sxc 34) ba0_3_l ba0_3_u bv46na0_5.1 bv46na0_5.2 bv46na0_8.1 bv46na0_8.2) (cwV 3 hts gX8_watcherLine_X8_after rfl rfl rfl zd_X8_after ⟨Nat.le_of_ble_eq_true rfl, Nat.le_of_ble_eq_true rfl⟩) ⟨ax_blind (fun _ _ _ _ hq => sxc_W_same _ _ _ _ (hq)), zr_8 hKc hPc (q0 := 0) rfl, ax_preE hPc hKc hDc (fun U hU hW => sxc_W_to (sxc_T_w hE0 (i := 34) (by decide)) hS.2.1 hFc hU hW)⟩ rfl rfl hl.1 rfl (lv_room (Nat.le_of_ble_eq_true rfl)) dX8_watcherLine_65 ⟨Nat.le_of_ble_eq_true rfl, Nat.le_of_ble_eq_true rfl⟩) hS (fun q _ h => hFc q h) hFc (fun r65 v65na0_13 t H1 locs ht hvm hw => zx_8 (fun v65na0_4 v65na0_5 v65na0_6 v65na0_7 v65na0_8 v65na0_9 v65na0_10 v65nfa0_12 => zy_5 (fun bv65na0_5 bv65na0_8 bv65na0_13 hraw65_0 hraw65_1 hB hz1 hk1 hS1 => zo hB ht hS1 (fun hP1 hK1 hD1 hS => ?_))))
      refine zc_backc (w := [(a0, .inr (8, [a0g_0, Value.ref a0_1, a0g_2, Value.int a0_3, Value.int v65na0_4, Value.int v65na0_5, Value.int v65na0_6, Value.int v65na0_7, Value.int v65na0_8, Value.int v65na0_9, Value.int v65na0_10, a0g_11, Value.ref a0_12, Value.int v65na0_13, a0g_14, a0g_15, Value.ref a0_16, a0g_17, a0g_18, a0g_19, a0g_20, a0g_21, a0g_22, a0g_23, a0g_24, a0g_25, a0g_26, a0g_27, a0g_28, a0g_29, a0g_30, a0g_31, a0g_32, a0g_33, a0g_34, a0g_35, a0g_36, a0g_37, a0g_38, a0g_39])), (a0_16, .inl (ka0_16, 156, .inl (f49))), (a0_12, .inl (ka0_12, 8, .inl (v65nfa0_12))), (a0_1, .inl (ka0_1, 900, .inl (fa0_1)))]) hP hD hCc hk1 hFc hP1 hD1 [.inr 0, .inl 1, .inr 1, .inr 2] (by decide +kernel) rfl (fun hP hD => ?_)
      generalize H1 = H at hP hS ⊢
      obtain ⟨hw, hfr65⟩ := hw
      rw [show (0 : Int32).toInt = 0 from by decide, show ((2 : Nat) : Int) = 2 from rfl] at hfr65 hraw65_1
      have hc65 : FfG_X8_after 0 r62.toInt a0_3.toInt v46na0_4.toInt v46na0_5.toInt v46na0_6.toInt v46na0_7.toInt v46na0_8.toInt v46na0_9.toInt v46na0_10.toInt (fl_A v46nfa0_12) (fl_A fa0_1) 2 (fl_A (sxc 34)) = (r65.toInt, v65na0_4.toInt, v65na0_5.toInt, v65na0_6.toInt, v65na0_7.toInt, v65na0_8.toInt, v65na0_9.toInt, v65na0_10.toInt, v65na0_13.toInt, (fl_A v65nfa0_12)) := Prod.ext hfr65.symm hraw65_1
      have hF0 := hF0.trans (fl_c10_eq hc65)
      rcases hw with hw | hw
      · obtain ⟨hw, h65⟩ := hw
        subst hw
        have hF0 := hF0.trans (if_pos (by decide))
        refine va_iast hx hb hK hP hD hS 1 0 rfl rfl (ai_in bx56.1 bx56.2 (by decide) (by decide)) dX8_watcherLine_68 (fun H locs hP hD hS => ?_)
        obtain ⟨f68, ef68⟩ : ∃ g9 : Nat → Int32, g9 = upd f49 (x56 : Int32).toNatClampNeg r65 := ⟨_, rfl⟩
        refine zs_1 (y := (a0_16, .inl (ka0_16, 156, .inl (f68)))) hP hD (by rw [ef68]) (fun hP hD => ?_)
        have bf68 : ((∀ k : Nat, 0 ≤ k → k ≤ 0 → (0 : Int) ≤ (f68 k).toInt ∧ (f68 k).toInt ≤ 9) ∧ (∀ k : Nat, 1 ≤ k → k ≤ 1 → (0 : Int) ≤ (f68 k).toInt ∧ (f68 k).toInt ≤ 20) ∧ (∀ k : Nat, 2 ≤ k → k ≤ 2 → (0 : Int) ≤ (f68 k).toInt ∧ (f68 k).toInt ≤ 8) ∧ (∀ k : Nat, 3 ≤ k → k ≤ 3 → (0 : Int) ≤ (f68 k).toInt ∧ (f68 k).toInt ≤ 100) ∧ (∀ k : Nat, 4 ≤ k → k ≤ 4 → (0 : Int) ≤ (f68 k).toInt ∧ (f68 k).toInt ≤ 9) ∧ (∀ k : Nat, 5 ≤ k → k ≤ 5 → (0 : Int) ≤ (f68 k).toInt ∧ (f68 k).toInt ≤ 3) ∧ (∀ k : Nat, 6 ≤ k → k ≤ 6 → (0 : Int) ≤ (f68 k).toInt ∧ (f68 k).toInt ≤ 6) ∧ (∀ k : Nat, 7 ≤ k → k ≤ 9 → (0 : Int) ≤ (f68 k).toInt ∧ (f68 k).toInt ≤ 8) ∧ (∀ k : Nat, 10 ≤ k → k ≤ 11 → (0 : Int) ≤ (f68 k).toInt ∧ (f68 k).toInt ≤ 1) ∧ (∀ k : Nat, 12 ≤ k → k ≤ 29 → (0 : Int) ≤ (f68 k).toInt ∧ (f68 k).toInt ≤ 20) ∧ (∀ k : Nat, 30 ≤ k → k ≤ 35 → (0 : Int) ≤ (f68 k).toInt ∧ (f68 k).toInt ≤ 8) ∧ (∀ k : Nat, 36 ≤ k → k ≤ 47 → (0 : Int) ≤ (f68 k).toInt ∧ (f68 k).toInt ≤ 999) ∧ (∀ k : Nat, 48 ≤ k → k ≤ 59 → (0 : Int) ≤ (f68 k).toInt ∧ (f68 k).toInt ≤ 8) ∧ ((1 : Int) ≤ (f68 11).toInt → (2 : Int) ≤ (f68 0).toInt ∧ (1 : Int) ≤ (f68 1).toInt) ∧ (∀ (j i0 i : Int32), (0 : Int) ≤ j.toInt → j.toInt ≤ 8 → i0.toInt = 12 + 2 * j.toInt → i.toInt = 13 + 2 * j.toInt → (f68 i0.toNatClampNeg).toInt = (1 : Int32).toInt → (1 : Int) ≤ (f68 i.toNatClampNeg).toInt)) := by rw [ef68]; exact ⟨ai_updO bf49.1 _ (Or.inr (ai_ngt_of bx56.1 (by decide) (by decide))), ai_updO bf49.2.1 _ (Or.inr (ai_ngt_of bx56.1 (by decide) (by decide))), ai_updO bf49.2.2.1 _ (Or.inr (ai_ngt_of bx56.1 (by decide) (by decide))), ai_updO bf49.2.2.2.1 _ (Or.inr (ai_ngt_of bx56.1 (by decide) (by decide))), ai_updO bf49.2.2.2.2.1 _ (Or.inr (ai_ngt_of bx56.1 (by decide) (by decide))), ai_updO bf49.2.2.2.2.2.1 _ (Or.inr (ai_ngt_of bx56.1 (by decide) (by decide))), ai_updO bf49.2.2.2.2.2.2.1 _ (Or.inr (ai_ngt_of bx56.1 (by decide) (by decide))), ai_updO bf49.2.2.2.2.2.2.2.1 _ (Or.inr (ai_ngt_of bx56.1 (by decide) (by decide))), ai_updO bf49.2.2.2.2.2.2.2.2.1 _ (Or.inr (ai_ngt_of bx56.1 (by decide) (by decide))), ai_updO bf49.2.2.2.2.2.2.2.2.2.1 _ (Or.inr (ai_ngt_of bx56.1 (by decide) (by decide))), ai_updS bf49.2.2.2.2.2.2.2.2.2.2.1 _ ⟨(Int.le_trans zq5 (Int.le_of_eq (congrArg Int32.toInt h65).symm)), (Int.le_trans (Int.le_trans (Int.le_of_eq (congrArg Int32.toInt h65)) zq6) zq20)⟩, ai_updO bf49.2.2.2.2.2.2.2.2.2.2.2.1 _ (Or.inl (ai_nlt_of bx56.1 bx56.2 (by decide) (by decide))), ai_updO bf49.2.2.2.2.2.2.2.2.2.2.2.2.1 _ (Or.inl (ai_nlt_of bx56.1 bx56.2 (by decide) (by decide))), fg_o bf49.2.2.2.2.2.2.2.2.2.2.2.2.2.1 (by have h1 := ai_natge (n := 31) bx56.1 (by decide); have h2 := ai_natle (n := 35) bx56.2 (by decide); omega), fg_ko bf49.2.2.2.2.2.2.2.2.2.2.2.2.2.2 (by have h1 := ai_natge (n := 31) bx56.1 (by decide); have h2 := ai_natle (n := 35) bx56.2 (by decide); omega)⟩
        have fqf68 := fl_up_eq ef68
        have hF0 := hF0.trans (fl_lt_eq (show (fl_A f68) = fl_up (fl_A f49) (x56.toInt.toNat) r65.toInt from fqf68))
        refine lv_aload_n hx hb dX8_watcherLine_69 rfl (lv_at hl 1 rfl) ?_
        refine va_get (D := (dC, dI)) (ci := 8) (v := .int 1) (C := RX8) (T := TX8) (N := 40) hx hb hts zi_X8_watcherLine_8 hown hK hP 0 rfl rfl 13 (by decide) (hts (.fieldLink RX8 97 "WaxTurnsModel" "failed" "Z") (zm_X8_watcherLine_r1 (List.mem_of_getElem? (i := 0) rfl))) (fun _ h9 => h9) rfl dX8_watcherLine_70 ?_
        refine lv_if_ne (tgt := 86) hx hb dX8_watcherLine_73 (by decide) (fun _ => ?_) (fun c73 => absurd c73 (by decide +kernel))
        have hFe : FX = (v65na0_4.toInt, v65na0_5.toInt, v65na0_6.toInt, v65na0_7.toInt, v65na0_8.toInt, v65na0_9.toInt, v65na0_10.toInt, 1, (fl_A f68), (fl_A v65nfa0_12)) := hF0
        exact W.vret hx hb hr (fun t ht hW => ⟨⟨(), rfl, trivial, v65na0_4, v65na0_5, v65na0_6, v65na0_7, v65na0_8, v65na0_9, v65na0_10, 1, f68, v65nfa0_12, ⟨bv65na0_5.1, bv65na0_5.2⟩, ⟨bv65na0_8.1, bv65na0_8.2⟩, ⟨Int.le_trans (by decide) zq1, zq0⟩, bf68, (Or.inl rfl), (em_t hraw30_1 (em_t hraw46_0 hraw65_0)), hFe, by rw [ht]; exact hP, va_K.moved hW.alike hK, hD⟩, hS.F ht⟩) hS.2.2 dX8_watcherLine_86
      · obtain ⟨hw, h65⟩ := hw
        subst hw
        have hF0 := hF0.trans (if_neg (by decide))
        refine va_iast hx hb hK hP hD hS 1 0 rfl rfl (ai_in bx56.1 bx56.2 (by decide) (by decide)) dX8_watcherLine_68 (fun H locs hP hD hS => ?_)
        obtain ⟨f68, ef68⟩ : ∃ g9 : Nat → Int32, g9 = upd f49 (x56 : Int32).toNatClampNeg r65 := ⟨_, rfl⟩
        refine zs_1 (y := (a0_16, .inl (ka0_16, 156, .inl (f68)))) hP hD (by rw [ef68]) (fun hP hD => ?_)
        have bf68 : ((∀ k : Nat, 0 ≤ k → k ≤ 0 → (0 : Int) ≤ (f68 k).toInt ∧ (f68 k).toInt ≤ 9) ∧ (∀ k : Nat, 1 ≤ k → k ≤ 1 → (0 : Int) ≤ (f68 k).toInt ∧ (f68 k).toInt ≤ 20) ∧ (∀ k : Nat, 2 ≤ k → k ≤ 2 → (0 : Int) ≤ (f68 k).toInt ∧ (f68 k).toInt ≤ 8) ∧ (∀ k : Nat, 3 ≤ k → k ≤ 3 → (0 : Int) ≤ (f68 k).toInt ∧ (f68 k).toInt ≤ 100) ∧ (∀ k : Nat, 4 ≤ k → k ≤ 4 → (0 : Int) ≤ (f68 k).toInt ∧ (f68 k).toInt ≤ 9) ∧ (∀ k : Nat, 5 ≤ k → k ≤ 5 → (0 : Int) ≤ (f68 k).toInt ∧ (f68 k).toInt ≤ 3) ∧ (∀ k : Nat, 6 ≤ k → k ≤ 6 → (0 : Int) ≤ (f68 k).toInt ∧ (f68 k).toInt ≤ 6) ∧ (∀ k : Nat, 7 ≤ k → k ≤ 9 → (0 : Int) ≤ (f68 k).toInt ∧ (f68 k).toInt ≤ 8) ∧ (∀ k : Nat, 10 ≤ k → k ≤ 11 → (0 : Int) ≤ (f68 k).toInt ∧ (f68 k).toInt ≤ 1) ∧ (∀ k : Nat, 12 ≤ k → k ≤ 29 → (0 : Int) ≤ (f68 k).toInt ∧ (f68 k).toInt ≤ 20) ∧ (∀ k : Nat, 30 ≤ k → k ≤ 35 → (0 : Int) ≤ (f68 k).toInt ∧ (f68 k).toInt ≤ 8) ∧ (∀ k : Nat, 36 ≤ k → k ≤ 47 → (0 : Int) ≤ (f68 k).toInt ∧ (f68 k).toInt ≤ 999) ∧ (∀ k : Nat, 48 ≤ k → k ≤ 59 → (0 : Int) ≤ (f68 k).toInt ∧ (f68 k).toInt ≤ 8) ∧ ((1 : Int) ≤ (f68 11).toInt → (2 : Int) ≤ (f68 0).toInt ∧ (1 : Int) ≤ (f68 1).toInt) ∧ (∀ (j i0 i : Int32), (0 : Int) ≤ j.toInt → j.toInt ≤ 8 → i0.toInt = 12 + 2 * j.toInt → i.toInt = 13 + 2 * j.toInt → (f68 i0.toNatClampNeg).toInt = (1 : Int32).toInt → (1 : Int) ≤ (f68 i.toNatClampNeg).toInt)) := by rw [ef68]; exact ⟨ai_updO bf49.1 _ (Or.inr (ai_ngt_of bx56.1 (by decide) (by decide))), ai_updO bf49.2.1 _ (Or.inr (ai_ngt_of bx56.1 (by decide) (by decide))), ai_updO bf49.2.2.1 _ (Or.inr (ai_ngt_of bx56.1 (by decide) (by decide))), ai_updO bf49.2.2.2.1 _ (Or.inr (ai_ngt_of bx56.1 (by decide) (by decide))), ai_updO bf49.2.2.2.2.1 _ (Or.inr (ai_ngt_of bx56.1 (by decide) (by decide))), ai_updO bf49.2.2.2.2.2.1 _ (Or.inr (ai_ngt_of bx56.1 (by decide) (by decide))), ai_updO bf49.2.2.2.2.2.2.1 _ (Or.inr (ai_ngt_of bx56.1 (by decide) (by decide))), ai_updO bf49.2.2.2.2.2.2.2.1 _ (Or.inr (ai_ngt_of bx56.1 (by decide) (by decide))), ai_updO bf49.2.2.2.2.2.2.2.2.1 _ (Or.inr (ai_ngt_of bx56.1 (by decide) (by decide))), ai_updO bf49.2.2.2.2.2.2.2.2.2.1 _ (Or.inr (ai_ngt_of bx56.1 (by decide) (by decide))), ai_updS bf49.2.2.2.2.2.2.2.2.2.2.1 _ ⟨(Int.le_trans zq5 h65.1), (Int.le_trans h65.2 h62_1)⟩, ai_updO bf49.2.2.2.2.2.2.2.2.2.2.2.1 _ (Or.inl (ai_nlt_of bx56.1 bx56.2 (by decide) (by decide))), ai_updO bf49.2.2.2.2.2.2.2.2.2.2.2.2.1 _ (Or.inl (ai_nlt_of bx56.1 bx56.2 (by decide) (by decide))), fg_o bf49.2.2.2.2.2.2.2.2.2.2.2.2.2.1 (by have h1 := ai_natge (n := 31) bx56.1 (by decide); have h2 := ai_natle (n := 35) bx56.2 (by decide); omega), fg_ko bf49.2.2.2.2.2.2.2.2.2.2.2.2.2.2 (by have h1 := ai_natge (n := 31) bx56.1 (by decide); have h2 := ai_natle (n := 35) bx56.2 (by decide); omega)⟩
        have fqf68 := fl_up_eq ef68
        have hF0 := hF0.trans (fl_lt_eq (show (fl_A f68) = fl_up (fl_A f49) (x56.toInt.toNat) r65.toInt from fqf68))
        refine lv_aload_n hx hb dX8_watcherLine_69 rfl (lv_at hl 1 rfl) ?_
        refine va_get (D := (dC, dI)) (ci := 8) (v := .int 0) (C := RX8) (T := TX8) (N := 40) hx hb hts zi_X8_watcherLine_8 hown hK hP 0 rfl rfl 13 (by decide) (hts (.fieldLink RX8 97 "WaxTurnsModel" "failed" "Z") (zm_X8_watcherLine_r1 (List.mem_of_getElem? (i := 0) rfl))) (fun _ h9 => h9) rfl dX8_watcherLine_70 ?_
        refine lv_if_ne (tgt := 86) hx hb dX8_watcherLine_73 (by decide) (fun c73 => absurd (by decide +kernel) c73) (fun _ => ?_)
        refine lv_aload_n hx hb dX8_watcherLine_76 rfl (lv_at hl 1 rfl) ?_
        refine va_get (D := (dC, dI)) (ci := 8) (v := .ref a0_16) (C := RX8) (T := TX8) (N := 40) hx hb hts zi_X8_watcherLine_8 hown hK hP 0 rfl rfl 16 (by decide) (hts (.fieldLink RX8 23 "WaxTurnsModel" "fresh" "[I") (zm_X8_watcherLine_r1 (List.mem_of_getElem? (i := 1) rfl))) (fun _ h9 => h9) rfl dX8_watcherLine_77 ?_
        refine lv_iconst (v := 5) hx hb dX8_watcherLine_80 zk_iconst_5 ?_
        refine lv_dup2_11 hx hb dX8_watcherLine_81 rfl rfl ?_
        refine va_iald hx hb hK hP 1 0 rfl rfl (by unfold vp_in; decide +kernel) dX8_watcherLine_82 ?_
        refine lv_topi (fun x82 ex82 => ?_)
        have bx82 : (0 : Int) ≤ x82.toInt ∧ x82.toInt ≤ 3 := by rw [ex82]; exact ai_rd bf68.2.2.2.2.2.1 zq112 zq113 (by decide) (by decide) (by decide)
        have fqx82 := congrArg Int32.toInt ex82
        have hF0 := hF0.trans (fl_lt_eq (show x82.toInt = (fl_A f68) (5) from fqx82))
        have u82z_x82 : x82.toInt ≤ (2 : Int) := fg_le (m := 5) ex82 (by have uef68 := fg_u ef68 (by omega) (m := 5) (by omega); rw [uef68]; have uef49 := fg_u ef49 (by omega) (m := 5) (by omega); rw [uef49]; rw [hraw30_2 5 (by omega)]; exact h5)
        refine lv_iconst (v := 1) hx hb dX8_watcherLine_83 zk_iconst_1 ?_
        refine lv_iadd hx hb dX8_watcherLine_84 ?_
        refine lv_topi (fun x84 ex84 => ?_)
        have qx84 : x84.toInt = x82.toInt + (1 : Int32).toInt := ai_add ex84 ⟨bx82.1, u82z_x82⟩ ⟨zq1, zq0⟩ (by decide) (by decide)
        have bx84 : (1 : Int) ≤ x84.toInt ∧ x84.toInt ≤ 3 := ⟨by rw [qx84]; exact Int.add_le_add bx82.1 zq1, by rw [qx84]; exact Int.add_le_add u82z_x82 zq0⟩
        have wx84 : x84.toInt = x82.toInt + 1 := qx84
        have hF0 := hF0.trans (fl_lt_eq (show x84.toInt = x82.toInt + 1 from qx84))
        refine va_iast hx hb hK hP hD hS 1 0 rfl rfl (by unfold vp_in; decide +kernel) dX8_watcherLine_85 (fun H locs hP hD hS => ?_)
        obtain ⟨f85, ef85⟩ : ∃ g9 : Nat → Int32, g9 = upd f68 (5 : Int32).toNatClampNeg x84 := ⟨_, rfl⟩
        refine zs_1 (y := (a0_16, .inl (ka0_16, 156, .inl (f85)))) hP hD (by rw [ef85]) (fun hP hD => ?_)
        have bf85 : ((∀ k : Nat, 0 ≤ k → k ≤ 0 → (0 : Int) ≤ (f85 k).toInt ∧ (f85 k).toInt ≤ 9) ∧ (∀ k : Nat, 1 ≤ k → k ≤ 1 → (0 : Int) ≤ (f85 k).toInt ∧ (f85 k).toInt ≤ 20) ∧ (∀ k : Nat, 2 ≤ k → k ≤ 2 → (0 : Int) ≤ (f85 k).toInt ∧ (f85 k).toInt ≤ 8) ∧ (∀ k : Nat, 3 ≤ k → k ≤ 3 → (0 : Int) ≤ (f85 k).toInt ∧ (f85 k).toInt ≤ 100) ∧ (∀ k : Nat, 4 ≤ k → k ≤ 4 → (0 : Int) ≤ (f85 k).toInt ∧ (f85 k).toInt ≤ 9) ∧ (∀ k : Nat, 5 ≤ k → k ≤ 5 → (0 : Int) ≤ (f85 k).toInt ∧ (f85 k).toInt ≤ 3) ∧ (∀ k : Nat, 6 ≤ k → k ≤ 6 → (0 : Int) ≤ (f85 k).toInt ∧ (f85 k).toInt ≤ 6) ∧ (∀ k : Nat, 7 ≤ k → k ≤ 9 → (0 : Int) ≤ (f85 k).toInt ∧ (f85 k).toInt ≤ 8) ∧ (∀ k : Nat, 10 ≤ k → k ≤ 11 → (0 : Int) ≤ (f85 k).toInt ∧ (f85 k).toInt ≤ 1) ∧ (∀ k : Nat, 12 ≤ k → k ≤ 29 → (0 : Int) ≤ (f85 k).toInt ∧ (f85 k).toInt ≤ 20) ∧ (∀ k : Nat, 30 ≤ k → k ≤ 35 → (0 : Int) ≤ (f85 k).toInt ∧ (f85 k).toInt ≤ 8) ∧ (∀ k : Nat, 36 ≤ k → k ≤ 47 → (0 : Int) ≤ (f85 k).toInt ∧ (f85 k).toInt ≤ 999) ∧ (∀ k : Nat, 48 ≤ k → k ≤ 59 → (0 : Int) ≤ (f85 k).toInt ∧ (f85 k).toInt ≤ 8) ∧ ((1 : Int) ≤ (f85 11).toInt → (2 : Int) ≤ (f85 0).toInt ∧ (1 : Int) ≤ (f85 1).toInt) ∧ (∀ (j i0 i : Int32), (0 : Int) ≤ j.toInt → j.toInt ≤ 8 → i0.toInt = 12 + 2 * j.toInt → i.toInt = 13 + 2 * j.toInt → (f85 i0.toNatClampNeg).toInt = (1 : Int32).toInt → (1 : Int) ≤ (f85 i.toNatClampNeg).toInt)) := by rw [ef85]; exact ⟨ai_updO bf68.1 _ (Or.inr (ai_ngt_of zq112 (by decide) (by decide))), ai_updO bf68.2.1 _ (Or.inr (ai_ngt_of zq112 (by decide) (by decide))), ai_updO bf68.2.2.1 _ (Or.inr (ai_ngt_of zq112 (by decide) (by decide))), ai_updO bf68.2.2.2.1 _ (Or.inr (ai_ngt_of zq112 (by decide) (by decide))), ai_updO bf68.2.2.2.2.1 _ (Or.inr (ai_ngt_of zq112 (by decide) (by decide))), ai_updS bf68.2.2.2.2.2.1 _ ⟨(Int.le_trans zq4 bx84.1), bx84.2⟩, ai_updO bf68.2.2.2.2.2.2.1 _ (Or.inl (ai_nlt_of zq112 zq113 (by decide) (by decide))), ai_updO bf68.2.2.2.2.2.2.2.1 _ (Or.inl (ai_nlt_of zq112 zq113 (by decide) (by decide))), ai_updO bf68.2.2.2.2.2.2.2.2.1 _ (Or.inl (ai_nlt_of zq112 zq113 (by decide) (by decide))), ai_updO bf68.2.2.2.2.2.2.2.2.2.1 _ (Or.inl (ai_nlt_of zq112 zq113 (by decide) (by decide))), ai_updO bf68.2.2.2.2.2.2.2.2.2.2.1 _ (Or.inl (ai_nlt_of zq112 zq113 (by decide) (by decide))), ai_updO bf68.2.2.2.2.2.2.2.2.2.2.2.1 _ (Or.inl (ai_nlt_of zq112 zq113 (by decide) (by decide))), ai_updO bf68.2.2.2.2.2.2.2.2.2.2.2.2.1 _ (Or.inl (ai_nlt_of zq112 zq113 (by decide) (by decide))), fg_o bf68.2.2.2.2.2.2.2.2.2.2.2.2.2.1 (by decide +kernel), fg_ko bf68.2.2.2.2.2.2.2.2.2.2.2.2.2.2 (by decide +kernel)⟩
        have kf85_5 : f85 5 = x84 := by rw [ef85]; exact ai_k1 (by decide +kernel)
        have fqf85 := fl_up_eq ef85
        have hF0 := hF0.trans (fl_lt_eq (show (fl_A f85) = fl_up (fl_A f68) (5) x84.toInt from fqf85))
        have hFe : FX = (v65na0_4.toInt, v65na0_5.toInt, v65na0_6.toInt, v65na0_7.toInt, v65na0_8.toInt, v65na0_9.toInt, v65na0_10.toInt, 0, (fl_A f85), (fl_A v65nfa0_12)) := hF0
        exact W.vret hx hb hr (fun t ht hW => ⟨⟨(), rfl, trivial, v65na0_4, v65na0_5, v65na0_6, v65na0_7, v65na0_8, v65na0_9, v65na0_10, 0, f85, v65nfa0_12, ⟨bv65na0_5.1, bv65na0_5.2⟩, ⟨bv65na0_8.1, bv65na0_8.2⟩, ⟨zq5, Int.le_trans zq6 (by decide)⟩, bf85, (Or.inr rfl), (em_t hraw30_1 (em_t hraw46_0 hraw65_0)), hFe, by rw [ht]; exact hP, va_K.moved hW.alike hK, hD⟩, hS.F ht⟩) hS.2.2 dX8_watcherLine_86
end P312_07_f
section P312_08_f
set_option maxHeartbeats 4000000 in
set_option maxRecDepth 100000 in
theorem fG_X8_seenLine (l : Launch) (dC : Nat → ClassId) (dI : Nat → Nat → Nat) (sz : Nat) (a0 : Nat) (a0g_0 a0g_2 a0g_11 a0g_14 a0g_15 a0g_17 a0g_18 a0g_19 a0g_20 a0g_21 a0g_22 a0g_23 a0g_24 a0g_25 a0g_26 a0g_27 a0g_28 a0g_29 a0g_30 a0g_31 a0g_32 a0g_33 a0g_34 a0g_35 a0g_36 a0g_37 a0g_38 a0g_39 : Value) (a0_1 : Nat) (a0_3 : Int32) (a0_4 : Int32) (a0_5 : Int32) (a0_6 : Int32) (a0_7 : Int32) (a0_8 : Int32) (a0_9 : Int32) (a0_10 : Int32) (a0_12 : Nat) (a0_16 : Nat) (ka0_16 : ClassId) (fa0_16 : Nat → Int32) (ka0_1 : ClassId) (fa0_1 : Nat → Int32) (ka0_12 : ClassId) (fa0_12 : Nat → Int32) (ad : Nat → Nat) (ba0_3_l : (0 : Int) ≤ a0_3.toInt) (ba0_3_u : a0_3.toInt ≤ (900 : Int)) (ba0_5_l : (0 : Int) ≤ a0_5.toInt) (ba0_5_u : a0_5.toInt ≤ (900 : Int)) (ba0_8_l : (0 : Int) ≤ a0_8.toInt) (ba0_8_u : a0_8.toInt ≤ (900 : Int)) (bfa0_16 : ((∀ k : Nat, 0 ≤ k → k ≤ 0 → (0 : Int) ≤ (fa0_16 k).toInt ∧ (fa0_16 k).toInt ≤ 9) ∧ (∀ k : Nat, 1 ≤ k → k ≤ 1 → (0 : Int) ≤ (fa0_16 k).toInt ∧ (fa0_16 k).toInt ≤ 20) ∧ (∀ k : Nat, 2 ≤ k → k ≤ 2 → (0 : Int) ≤ (fa0_16 k).toInt ∧ (fa0_16 k).toInt ≤ 8) ∧ (∀ k : Nat, 3 ≤ k → k ≤ 3 → (0 : Int) ≤ (fa0_16 k).toInt ∧ (fa0_16 k).toInt ≤ 100) ∧ (∀ k : Nat, 4 ≤ k → k ≤ 4 → (0 : Int) ≤ (fa0_16 k).toInt ∧ (fa0_16 k).toInt ≤ 9) ∧ (∀ k : Nat, 5 ≤ k → k ≤ 5 → (0 : Int) ≤ (fa0_16 k).toInt ∧ (fa0_16 k).toInt ≤ 3) ∧ (∀ k : Nat, 6 ≤ k → k ≤ 6 → (0 : Int) ≤ (fa0_16 k).toInt ∧ (fa0_16 k).toInt ≤ 6) ∧ (∀ k : Nat, 7 ≤ k → k ≤ 9 → (0 : Int) ≤ (fa0_16 k).toInt ∧ (fa0_16 k).toInt ≤ 8) ∧ (∀ k : Nat, 10 ≤ k → k ≤ 11 → (0 : Int) ≤ (fa0_16 k).toInt ∧ (fa0_16 k).toInt ≤ 1) ∧ (∀ k : Nat, 12 ≤ k → k ≤ 29 → (0 : Int) ≤ (fa0_16 k).toInt ∧ (fa0_16 k).toInt ≤ 20) ∧ (∀ k : Nat, 30 ≤ k → k ≤ 35 → (0 : Int) ≤ (fa0_16 k).toInt ∧ (fa0_16 k).toInt ≤ 8) ∧ (∀ k : Nat, 36 ≤ k → k ≤ 47 → (0 : Int) ≤ (fa0_16 k).toInt ∧ (fa0_16 k).toInt ≤ 999) ∧ (∀ k : Nat, 48 ≤ k → k ≤ 59 → (0 : Int) ≤ (fa0_16 k).toInt ∧ (fa0_16 k).toInt ≤ 8) ∧ ((1 : Int) ≤ (fa0_16 11).toInt → (2 : Int) ≤ (fa0_16 0).toInt ∧ (1 : Int) ≤ (fa0_16 1).toInt) ∧ (∀ (j i0 i : Int32), (0 : Int) ≤ j.toInt → j.toInt ≤ 8 → i0.toInt = 12 + 2 * j.toInt → i.toInt = 13 + 2 * j.toInt → (fa0_16 i0.toNatClampNeg).toInt = (1 : Int32).toInt → (1 : Int) ≤ (fa0_16 i.toNatClampNeg).toInt))) (h6 : (fa0_16 6).toInt ≤ (5 : Int)) : zm l yX8_seenLine wsX8_seenLine ({ frames := 7, cells := 0, slots := 0, locals := 150 }) [.ref a0] dC dI sz [(a0, .inr (8, [a0g_0, Value.ref a0_1, a0g_2, Value.int a0_3, Value.int a0_4, Value.int a0_5, Value.int a0_6, Value.int a0_7, Value.int a0_8, Value.int a0_9, Value.int a0_10, a0g_11, Value.ref a0_12, Value.int 0, a0g_14, a0g_15, Value.ref a0_16, a0g_17, a0g_18, a0g_19, a0g_20, a0g_21, a0g_22, a0g_23, a0g_24, a0g_25, a0g_26, a0g_27, a0g_28, a0g_29, a0g_30, a0g_31, a0g_32, a0g_33, a0g_34, a0g_35, a0g_36, a0g_37, a0g_38, a0g_39])), (a0_16, .inl (ka0_16, 156, .inl (fa0_16))), (a0_1, .inl (ka0_1, 900, .inl (fa0_1))), (a0_12, .inl (ka0_12, 8, .inl (fa0_12)))] [(ka0_16, .int), (ka0_1, .int), (ka0_12, .int)] (fun A U => sxc_T ad A U) (fun A => va_Qv (fun (_ : Unit) => True) (fun (_ : Unit) (t : State) => ∃ na0_4 : Int32, ∃ na0_5 : Int32, ∃ na0_6 : Int32, ∃ na0_7 : Int32, ∃ na0_8 : Int32, ∃ na0_9 : Int32, ∃ na0_10 : Int32, ∃ na0_13 : Int32, ∃ nfa0_16 : Nat → Int32, ∃ nfa0_12 : Nat → Int32, ((0 : Int) ≤ na0_5.toInt ∧ na0_5.toInt ≤ 900) ∧ ((0 : Int) ≤ na0_8.toInt ∧ na0_8.toInt ≤ 900) ∧ ((0 : Int) ≤ na0_13.toInt ∧ na0_13.toInt ≤ 1) ∧ ((∀ k : Nat, 0 ≤ k → k ≤ 0 → (0 : Int) ≤ (nfa0_16 k).toInt ∧ (nfa0_16 k).toInt ≤ 9) ∧ (∀ k : Nat, 1 ≤ k → k ≤ 1 → (0 : Int) ≤ (nfa0_16 k).toInt ∧ (nfa0_16 k).toInt ≤ 20) ∧ (∀ k : Nat, 2 ≤ k → k ≤ 2 → (0 : Int) ≤ (nfa0_16 k).toInt ∧ (nfa0_16 k).toInt ≤ 8) ∧ (∀ k : Nat, 3 ≤ k → k ≤ 3 → (0 : Int) ≤ (nfa0_16 k).toInt ∧ (nfa0_16 k).toInt ≤ 100) ∧ (∀ k : Nat, 4 ≤ k → k ≤ 4 → (0 : Int) ≤ (nfa0_16 k).toInt ∧ (nfa0_16 k).toInt ≤ 9) ∧ (∀ k : Nat, 5 ≤ k → k ≤ 5 → (0 : Int) ≤ (nfa0_16 k).toInt ∧ (nfa0_16 k).toInt ≤ 3) ∧ (∀ k : Nat, 6 ≤ k → k ≤ 6 → (0 : Int) ≤ (nfa0_16 k).toInt ∧ (nfa0_16 k).toInt ≤ 6) ∧ (∀ k : Nat, 7 ≤ k → k ≤ 9 → (0 : Int) ≤ (nfa0_16 k).toInt ∧ (nfa0_16 k).toInt ≤ 8) ∧ (∀ k : Nat, 10 ≤ k → k ≤ 11 → (0 : Int) ≤ (nfa0_16 k).toInt ∧ (nfa0_16 k).toInt ≤ 1) ∧ (∀ k : Nat, 12 ≤ k → k ≤ 29 → (0 : Int) ≤ (nfa0_16 k).toInt ∧ (nfa0_16 k).toInt ≤ 20) ∧ (∀ k : Nat, 30 ≤ k → k ≤ 35 → (0 : Int) ≤ (nfa0_16 k).toInt ∧ (nfa0_16 k).toInt ≤ 8) ∧ (∀ k : Nat, 36 ≤ k → k ≤ 47 → (0 : Int) ≤ (nfa0_16 k).toInt ∧ (nfa0_16 k).toInt ≤ 999) ∧ (∀ k : Nat, 48 ≤ k → k ≤ 59 → (0 : Int) ≤ (nfa0_16 k).toInt ∧ (nfa0_16 k).toInt ≤ 8) ∧ ((1 : Int) ≤ (nfa0_16 11).toInt → (2 : Int) ≤ (nfa0_16 0).toInt ∧ (1 : Int) ≤ (nfa0_16 1).toInt) ∧ (∀ (j i0 i : Int32), (0 : Int) ≤ j.toInt → j.toInt ≤ 8 → i0.toInt = 12 + 2 * j.toInt → i.toInt = 13 + 2 * j.toInt → (nfa0_16 i0.toNatClampNeg).toInt = (1 : Int32).toInt → (1 : Int) ≤ (nfa0_16 i.toNatClampNeg).toInt)) ∧ (na0_13 = 1 ∨ na0_13 = 0) ∧ (a0_5.toInt ≤ na0_5.toInt ∧ ((na0_5.toInt = a0_5.toInt ∧ na0_6.toInt = a0_6.toInt) ∨ na0_6.toInt ≠ 59 ∨ a0_5.toInt < na0_5.toInt)) ∧ (FfG_X8_seenLine a0_3.toInt a0_4.toInt a0_5.toInt a0_6.toInt a0_7.toInt a0_8.toInt a0_9.toInt a0_10.toInt (fl_A fa0_16) (fl_A fa0_1) (fl_A fa0_12) = (na0_4.toInt, na0_5.toInt, na0_6.toInt, na0_7.toInt, na0_8.toInt, na0_9.toInt, na0_10.toInt, na0_13.toInt, (fl_A nfa0_16), (fl_A nfa0_12))) ∧ ax_B dC dI A [(a0, .inr (8, [a0g_0, Value.ref a0_1, a0g_2, Value.int a0_3, Value.int na0_4, Value.int na0_5, Value.int na0_6, Value.int na0_7, Value.int na0_8, Value.int na0_9, Value.int na0_10, a0g_11, Value.ref a0_12, Value.int na0_13, a0g_14, a0g_15, Value.ref a0_16, a0g_17, a0g_18, a0g_19, a0g_20, a0g_21, a0g_22, a0g_23, a0g_24, a0g_25, a0g_26, a0g_27, a0g_28, a0g_29, a0g_30, a0g_31, a0g_32, a0g_33, a0g_34, a0g_35, a0g_36, a0g_37, a0g_38, a0g_39])), (a0_16, .inl (ka0_16, 156, .inl (nfa0_16))), (a0_1, .inl (ka0_1, 900, .inl (fa0_1))), (a0_12, .inl (ka0_12, 8, .inl (nfa0_12)))] [(ka0_16, .int), (ka0_1, .int), (ka0_12, .int)] t) A) := by
  refine zh (cc := cX8_seenLine) (maxL := 5) (ret := none) zn_RX8 rfl (Nat.le_of_ble_eq_true rfl) (fun p e s m below meth c A ls hx hb hml hr hts (hown : s.vm.findClass RX8 = some m.cls) hlocks hA hS hP hK hD hE (hl : lv_has ls 5 [(0, .ref a0)]) => ?_)
  have hE0 := hE
  generalize hFX : FfG_X8_seenLine a0_3.toInt a0_4.toInt a0_5.toInt a0_6.toInt a0_7.toInt a0_8.toInt a0_9.toInt a0_10.toInt (fl_A fa0_16) (fl_A fa0_1) (fl_A fa0_12) = FX at ⊢
  have hF0 := hFX.symm.trans (FfG_X8_seenLine.eq_1 a0_3.toInt a0_4.toInt a0_5.toInt a0_6.toInt a0_7.toInt a0_8.toInt a0_9.toInt a0_10.toInt (fl_A fa0_16) (fl_A fa0_1) (fl_A fa0_12))
  refine ai_open (fun K hK0 => ?_)
  refine (hK0 _ _ _).mpr ?_
  refine lv_aload_n hx hb dX8_seenLine_0 rfl (lv_at hl 0 rfl) ?_
  refine va_get (D := (dC, dI)) (ci := 8) (v := .int 0) (C := RX8) (T := TX8) (N := 40) hx hb hts zi_X8_seenLine_8 hown hK hP 0 rfl rfl 13 (by decide) (hts (.fieldLink RX8 97 "WaxTurnsModel" "failed" "Z") (zm_X8_seenLine_r1 (List.mem_of_getElem? (i := 0) rfl))) (fun _ h9 => h9) rfl dX8_seenLine_1 ?_
  refine lv_if_eq (tgt := 8) hx hb dX8_seenLine_4 (by decide) (fun _ => ?_) (fun c4 => absurd (by decide +kernel) c4)
  refine lv_bipush (v := 36) hx hb dX8_seenLine_8 zk_bipush_36 ?_
  refine lv_iconst (v := 2) hx hb dX8_seenLine_10 zk_iconst_2 ?_
  refine lv_aload_n hx hb dX8_seenLine_11 rfl (lv_at hl 0 rfl) ?_
  refine va_get (D := (dC, dI)) (ci := 8) (v := .ref a0_16) (C := RX8) (T := TX8) (N := 40) hx hb hts zi_X8_seenLine_8 hown hK hP 0 rfl rfl 16 (by decide) (hts (.fieldLink RX8 23 "WaxTurnsModel" "fresh" "[I") (zm_X8_seenLine_r1 (List.mem_of_getElem? (i := 1) rfl))) (fun _ h9 => h9) rfl dX8_seenLine_12 ?_
  refine lv_bipush (v := 6) hx hb dX8_seenLine_15 zk_bipush_6 ?_
  refine va_iald hx hb hK hP 1 0 rfl rfl (by unfold vp_in; decide +kernel) dX8_seenLine_17 ?_
  refine lv_topi (fun x17 ex17 => ?_)
  have bx17 : (0 : Int) ≤ x17.toInt ∧ x17.toInt ≤ 6 := by rw [ex17]; exact ai_rd bfa0_16.2.2.2.2.2.2.1 zq15 zq16 (by decide) (by decide) (by decide)
  have fqx17 := congrArg Int32.toInt ex17
  have hF0 := hF0.trans (fl_lt_eq (show x17.toInt = (fl_A fa0_16) (6) from fqx17))
  have u17z_x17 : x17.toInt ≤ (5 : Int) := fg_le (m := 6) ex17 h6
  refine lv_imul hx hb dX8_seenLine_18 ?_
  refine lv_topi (fun x18 ex18 => ?_)
  have qx18 : x18.toInt = (2 : Int32).toInt * x17.toInt ∧ (0 : Int) ≤ x18.toInt ∧ x18.toInt ≤ 10 := ai_mul ex18 ⟨zq12, zq13⟩ ⟨bx17.1, u17z_x17⟩ (by decide) (by decide) zq181
  have wx18 : x18.toInt = 2 * x17.toInt := qx18.1
  have hF0 := hF0.trans (fl_lt_eq (show x18.toInt = 2 * x17.toInt from qx18.1))
  refine lv_iadd hx hb dX8_seenLine_19 ?_
  refine lv_topi (fun x19 ex19 => ?_)
  have qx19 : x19.toInt = (36 : Int32).toInt + x18.toInt := ai_add ex19 ⟨zq182, zq183⟩ ⟨qx18.2.1, qx18.2.2⟩ (by decide) (by decide)
  have bx19 : (36 : Int) ≤ x19.toInt ∧ x19.toInt ≤ 46 := ⟨by rw [qx19]; exact Int.add_le_add zq182 qx18.2.1, by rw [qx19]; exact Int.add_le_add zq183 qx18.2.2⟩
  have wx19 : x19.toInt = 36 + x18.toInt := qx19
  have hF0 := hF0.trans (fl_lt_eq (show x19.toInt = 36 + x18.toInt from qx19))
  refine lv_istore_n (lv' := [(1, .int x19), (0, .ref a0)]) hx hb dX8_seenLine_20 rfl hl (by decide) rfl (fun ls hl => ?_)
  refine lv_aload_n hx hb dX8_seenLine_21 rfl (lv_at hl 1 rfl) ?_
  refine lv_iconst (v := 0) hx hb dX8_seenLine_22 zk_iconst_0 ?_
  refine lv_aload_n hx hb dX8_seenLine_23 rfl (lv_at hl 1 rfl) ?_
  have hKc := hK.sub (tys' := [(ka0_16, .int)]) [0] rfl
  refine va_calli (va_runV (As := []) (rest := [.int 0, .ref a0]) ⟨hx, hb, hml, hown, hts⟩ (f_X8_last l dC dI s.heap.size a0 a0g_0 (Value.ref a0_1) a0g_2 (Value.int a0_3) (Value.int a0_4) (Value.int a0_5) (Value.int a0_6) (Value.int a0_7) (Value.int a0_8) (Value.int a0_9) (Value.int a0_10) a0g_11 (Value.ref a0_12) (Value.int 0) a0g_14 a0g_15 a0g_17 a0g_18 a0g_19 a0g_20 a0g_21 a0g_22 a0g_23 a0g_24 a0g_25 a0g_26 a0g_27 a0g_28 a0g_29 a0g_30 a0g_31 a0g_32 a0g_33 a0g_34 a0g_35 a0g_36 a0g_37 a0g_38 a0g_39 a0_16 ka0_16 fa0_16 bfa0_16) (cwV 0 hts gX8_seenLine_X8_last rfl rfl rfl zd_X8_last ⟨Nat.le_of_ble_eq_true rfl, Nat.le_of_ble_eq_true rfl⟩) ⟨ax_blind (fun _ _ _ _ _ => trivial), zr_8 hKc (zp_P2 hP) (q0 := 0) rfl, ax_pre (zp_P2 hP) hKc (zp_D2 hD) (fun _ _ => trivial)⟩ rfl rfl hl.1 rfl (lv_room (Nat.le_of_ble_eq_true rfl)) dX8_seenLine_24 ⟨Nat.le_of_ble_eq_true rfl, Nat.le_of_ble_eq_true rfl⟩) hS (fun q _ h => zp_F2 hD hS hA q h) (zp_F2 hD hS hA) (fun r24 u t H locs ht hvm hw hB hz1 hk1 hS1 => zo2 hB ht hP hD hk1 (zp_F2 hD hS hA) hS1 (fun hP hK1 hD hS => ?_))
  obtain ⟨hw, hfr24⟩ := hw
  have hc24 : Ff_X8_last (fl_A fa0_16) = r24.toInt := hfr24.symm
  have hF0 := hF0.trans (fl_lt_eq hc24.symm)
  have hw : (-1 : Int) ≤ r24.toInt ∧ r24.toInt ≤ (8 : Int) := hw
  obtain ⟨h24_0, h24_1⟩ := hw
  refine zc_cutc (wc := [(a0, .inr (8, [a0g_0, Value.ref a0_1, a0g_2, Value.int a0_3, Value.int a0_4, Value.int a0_5, Value.int a0_6, Value.int a0_7, Value.int a0_8, Value.int a0_9, Value.int a0_10, a0g_11, Value.ref a0_12, Value.int 0, a0g_14, a0g_15, Value.ref a0_16, a0g_17, a0g_18, a0g_19, a0g_20, a0g_21, a0g_22, a0g_23, a0g_24, a0g_25, a0g_26, a0g_27, a0g_28, a0g_29, a0g_30, a0g_31, a0g_32, a0g_33, a0g_34, a0g_35, a0g_36, a0g_37, a0g_38, a0g_39])), (a0_1, .inl (ka0_1, 900, .inl (fa0_1))), (a0_12, .inl (ka0_12, 8, .inl (fa0_12)))]) hP hD hS hA [0, 2, 3] (by decide +kernel) rfl (fun hPc hDc hFc hCc => ?_)
  have hKc := hK.sub (tys' := [(ka0_1, .int), (ka0_12, .int)]) [1, 2] rfl
  refine va_calli (va_runV (As := [.int 0, .int r24]) (rest := []) ⟨hx, hb, hml, hown, hts⟩ (fG_X8_number l dC dI H.size a0 0 r24 a0g_0 a0g_2 a0g_11 a0g_14 a0g_15 (Value.ref a0_16) a0g_17 a0g_18 a0g_19 a0g_20 a0g_21 a0g_22 a0g_23 a0g_24 a0g_25 a0g_26 a0g_27 a0g_28 a0g_29 a0g_30 a0g_31 a0g_32 a0g_33 a0g_34 a0g_35 a0g_36 a0g_37 a0g_38 a0g_39 a0_1 a0_3 a0_4 a0_5 a0_6 a0_7 a0_8 a0_9 a0_10 a0_12 ka0_1 fa0_1 ka0_12 fa0_12 ba0_3_l ba0_3_u ba0_5_l ba0_5_u ba0_8_l ba0_8_u) (cwV 2 hts gX8_seenLine_X8_number rfl rfl rfl zd_X8_number ⟨Nat.le_of_ble_eq_true rfl, Nat.le_of_ble_eq_true rfl⟩) ⟨ax_blind (fun _ _ _ _ _ => trivial), zr_8 hKc hPc (q0 := 0) rfl, ax_pre hPc hKc hDc (fun _ _ => trivial)⟩ rfl rfl hl.1 rfl (lv_room (Nat.le_of_ble_eq_true rfl)) dX8_seenLine_27 ⟨Nat.le_of_ble_eq_true rfl, Nat.le_of_ble_eq_true rfl⟩) hS (fun q _ h => hFc q h) hFc (fun r27 v27na0_13 t H1 locs ht hvm hw => zx_8 (fun v27na0_4 v27na0_5 v27na0_6 v27na0_7 v27na0_8 v27na0_9 v27na0_10 v27nfa0_12 => zy_5 (fun bv27na0_5 bv27na0_8 bv27na0_13 hraw27_0 hraw27_1 hB hz1 hk1 hS1 => zo hB ht hS1 (fun hP1 hK1 hD1 hS => ?_))))
  refine zc_backc (w := [(a0, .inr (8, [a0g_0, Value.ref a0_1, a0g_2, Value.int a0_3, Value.int v27na0_4, Value.int v27na0_5, Value.int v27na0_6, Value.int v27na0_7, Value.int v27na0_8, Value.int v27na0_9, Value.int v27na0_10, a0g_11, Value.ref a0_12, Value.int v27na0_13, a0g_14, a0g_15, Value.ref a0_16, a0g_17, a0g_18, a0g_19, a0g_20, a0g_21, a0g_22, a0g_23, a0g_24, a0g_25, a0g_26, a0g_27, a0g_28, a0g_29, a0g_30, a0g_31, a0g_32, a0g_33, a0g_34, a0g_35, a0g_36, a0g_37, a0g_38, a0g_39])), (a0_16, .inl (ka0_16, 156, .inl (fa0_16))), (a0_1, .inl (ka0_1, 900, .inl (fa0_1))), (a0_12, .inl (ka0_12, 8, .inl (v27nfa0_12)))]) hP hD hCc hk1 hFc hP1 hD1 [.inr 0, .inl 1, .inr 1, .inr 2] (by decide +kernel) rfl (fun hP hD => ?_)
  generalize H1 = H at hP hS ⊢
  obtain ⟨hw, hfr27⟩ := hw
  rw [show (0 : Int32).toInt = 0 from by decide] at hfr27 hraw27_1
  have hc27 : FfG_X8_number 0 r24.toInt a0_3.toInt a0_4.toInt a0_5.toInt a0_6.toInt a0_7.toInt a0_8.toInt a0_9.toInt a0_10.toInt (fl_A fa0_1) (fl_A fa0_12) = (r27.toInt, v27na0_4.toInt, v27na0_5.toInt, v27na0_6.toInt, v27na0_7.toInt, v27na0_8.toInt, v27na0_9.toInt, v27na0_10.toInt, v27na0_13.toInt, (fl_A v27nfa0_12)) := Prod.ext hfr27.symm hraw27_1
  have hF0 := hF0.trans (fl_c10_eq hc27)
  rcases hw with hw | hw
  · obtain ⟨hw, h27⟩ := hw
    subst hw
    have hF0 := hF0.trans (if_pos (by decide))
    refine lv_istore_n (lv' := [(2, .int r27), (1, .int x19), (0, .ref a0)]) hx hb dX8_seenLine_30 rfl hl (by decide) rfl (fun ls hl => ?_)
    refine lv_aload_n hx hb dX8_seenLine_31 rfl (lv_at hl 2 rfl) ?_
    refine va_ldcS hx hb hown (sxc_R35 hE0) dX8_seenLine_32 ?_
    refine va_callv (va_runV (As := [.ref (ad 35)]) (rest := []) ⟨hx, hb, hml, hown, hts⟩ (fF_X8_must l dC dI H.size a0 (ad 35) a0g_0 (Value.ref a0_1) a0g_2 (Value.int a0_3) (Value.int v27na0_4) (Value.int v27na0_5) (Value.int v27na0_6) (Value.int v27na0_7) (Value.int v27na0_8) (Value.int v27na0_9) (Value.int v27na0_10) a0g_11 (Value.ref a0_12) a0g_14 a0g_15 (Value.ref a0_16) a0g_17 a0g_18 a0g_19 a0g_20 a0g_21 a0g_22 a0g_23 a0g_24 a0g_25 a0g_26 a0g_27 a0g_28 a0g_29 a0g_30 a0g_31 a0g_32 a0g_33 a0g_34 a0g_35 a0g_36 a0g_37 a0g_38 a0g_39 2 (sxc 35) ) (cwV 1 hts gX8_seenLine_X8_must rfl rfl rfl zd_X8_must ⟨Nat.le_of_ble_eq_true rfl, Nat.le_of_ble_eq_true rfl⟩) ⟨ax_blind (fun _ _ _ _ hq => sxc_W_same _ _ _ _ (hq)), zr_8 (zp_K hK) (zp_P1 hP) (q0 := 0) rfl, ax_preE (zp_P1 hP) (zp_K hK) (zp_D1 hD) (fun U hU hW => sxc_W_to (sxc_T_w hE0 (i := 35) (by decide)) hS.2.1 (zp_F1 hD hS hA) hU hW)⟩ rfl rfl hl.1 rfl (lv_room (Nat.le_of_ble_eq_true rfl)) dX8_seenLine_34 ⟨Nat.le_of_ble_eq_true rfl, Nat.le_of_ble_eq_true rfl⟩) hS (fun q _ h => zp_F1 hD hS hA q h) (zp_F1 hD hS hA) (fun u t H locs ht hvm hw hB hz1 hk1 hS1 => zo1 hB ht hP hD hk1 (zp_F1 hD hS hA) hS1 (fun hP hK1 hD hS => ?_))
    refine lv_aload_n hx hb dX8_seenLine_37 rfl (lv_at hl 2 rfl) ?_
    refine lv_iconst (v := 0) hx hb dX8_seenLine_38 zk_iconst_0 ?_
    refine lv_sipush (v := 999) hx hb dX8_seenLine_39 zk_sipush_999 ?_
    refine va_calli (va_runV (As := [.int 0, .int 999]) (rest := []) ⟨hx, hb, hml, hown, hts⟩ (fF_X8_numberHere l dC dI H.size a0 0 999 a0g_0 (Value.ref a0_1) a0g_2 (Value.int a0_3) (Value.int v27na0_4) (Value.int v27na0_5) (Value.int v27na0_6) (Value.int v27na0_7) (Value.int v27na0_8) (Value.int v27na0_9) (Value.int v27na0_10) a0g_11 (Value.ref a0_12) a0g_14 a0g_15 (Value.ref a0_16) a0g_17 a0g_18 a0g_19 a0g_20 a0g_21 a0g_22 a0g_23 a0g_24 a0g_25 a0g_26 a0g_27 a0g_28 a0g_29 a0g_30 a0g_31 a0g_32 a0g_33 a0g_34 a0g_35 a0g_36 a0g_37 a0g_38 a0g_39 ) (cwV 2 hts gX8_seenLine_X8_numberHere rfl rfl rfl zd_X8_numberHere ⟨Nat.le_of_ble_eq_true rfl, Nat.le_of_ble_eq_true rfl⟩) ⟨ax_blind (fun _ _ _ _ _ => trivial), zr_8 (zp_K hK) (zp_P1 hP) (q0 := 0) rfl, ax_pre (zp_P1 hP) (zp_K hK) (zp_D1 hD) (fun _ _ => trivial)⟩ rfl rfl hl.1 rfl (lv_room (Nat.le_of_ble_eq_true rfl)) dX8_seenLine_42 ⟨Nat.le_of_ble_eq_true rfl, Nat.le_of_ble_eq_true rfl⟩) hS (fun q _ h => zp_F1 hD hS hA q h) (zp_F1 hD hS hA) (fun r42 u t H locs ht hvm hw hB hz1 hk1 hS1 => zo1 hB ht hP hD hk1 (zp_F1 hD hS hA) hS1 (fun hP hK1 hD hS => ?_))
    obtain ⟨hw, hfr42⟩ := hw
    rw [show (0 : Int32).toInt = 0 from by decide] at hfr42
    have hc42 : FfF_X8_numberHere 0 = r42.toInt := hfr42.symm
    have hF0 := hF0.trans (fl_lt_eq hc42.symm)
    have hw : r42 = 0 := hw
    have hw := hw.symm
    subst hw
    refine lv_istore_n (lv' := [(3, .int 0), (2, .int r27), (1, .int x19), (0, .ref a0)]) hx hb dX8_seenLine_45 rfl hl (by decide) rfl (fun ls hl => ?_)
    refine lv_iconst (v := 0) hx hb dX8_seenLine_46 zk_iconst_0 ?_
    refine lv_istore (lv' := [(4, .int 0), (3, .int 0), (2, .int r27), (1, .int x19), (0, .ref a0)]) hx hb dX8_seenLine_47 hl (by decide) rfl (fun ls hl => ?_)
    have J49 : ∀ (n : Nat) (j49l4 : Int32) (j49l3 : Int32) (j49a0_4 : Int32) (j49a0_5 : Int32) (j49a0_6 : Int32) (j49a0_7 : Int32) (j49a0_8 : Int32) (j49a0_9 : Int32) (j49a0_10 : Int32) (j49a0_13 : Int32) (j49a0_12_a : Nat → Int32) (H : Heap) (locs : List Loc) (ls : Array Slot), (6 : Int) - j49l4.toInt ≤ (n : Int) → (0 : Int) ≤ j49l4.toInt → j49l4.toInt ≤ (5 : Int) → (0 : Int) ≤ j49l3.toInt → j49l3.toInt ≤ (999 : Int) → (0 : Int) ≤ j49a0_5.toInt → j49a0_5.toInt ≤ (900 : Int) → (0 : Int) ≤ j49a0_8.toInt → j49a0_8.toInt ≤ (900 : Int) → (0 : Int) ≤ j49a0_13.toInt → j49a0_13.toInt ≤ (1 : Int) → (a0_5.toInt ≤ j49a0_5.toInt ∧ ((j49a0_5.toInt = a0_5.toInt ∧ j49a0_6.toInt = a0_6.toInt) ∨ j49a0_6.toInt ≠ 59 ∨ a0_5.toInt < j49a0_5.toInt)) → ((0 : Int) ≤ r27.toInt ∧ r27.toInt ≤ 8) → ((0 : Int) ≤ j49l3.toInt ∧ j49l3.toInt ≤ 999) → (FX = fl_wh (fun t9 => SfG_X8_seenLine_49_1 a0_3.toInt (fl_A fa0_16) (fl_A fa0_1) x19.toInt r27.toInt t9.1 t9.2.1 t9.2.2.1 t9.2.2.2.1 t9.2.2.2.2.1 t9.2.2.2.2.2.1 t9.2.2.2.2.2.2.1 t9.2.2.2.2.2.2.2.1 t9.2.2.2.2.2.2.2.2.1 t9.2.2.2.2.2.2.2.2.2.1 t9.2.2.2.2.2.2.2.2.2.2) (0, 0, 0, 0, 0, 0, 0, 0, (fun _ => 0), (fun _ => 0)) n (j49l4.toInt, j49l3.toInt, j49a0_4.toInt, j49a0_5.toInt, j49a0_6.toInt, j49a0_7.toInt, j49a0_8.toInt, j49a0_9.toInt, j49a0_10.toInt, j49a0_13.toInt, (fl_A j49a0_12_a))) → va_P (dC, dI) vwCl [(a0, .inr (8, [a0g_0, Value.ref a0_1, a0g_2, Value.int a0_3, Value.int j49a0_4, Value.int j49a0_5, Value.int j49a0_6, Value.int j49a0_7, Value.int j49a0_8, Value.int j49a0_9, Value.int j49a0_10, a0g_11, Value.ref a0_12, Value.int j49a0_13, a0g_14, a0g_15, Value.ref a0_16, a0g_17, a0g_18, a0g_19, a0g_20, a0g_21, a0g_22, a0g_23, a0g_24, a0g_25, a0g_26, a0g_27, a0g_28, a0g_29, a0g_30, a0g_31, a0g_32, a0g_33, a0g_34, a0g_35, a0g_36, a0g_37, a0g_38, a0g_39])), (a0_16, .inl (ka0_16, 156, .inl (fa0_16))), (a0_1, .inl (ka0_1, 900, .inl (fa0_1))), (a0_12, .inl (ka0_12, 8, .inl (j49a0_12_a)))] H → va_D A [(a0, .inr (8, [a0g_0, Value.ref a0_1, a0g_2, Value.int a0_3, Value.int j49a0_4, Value.int j49a0_5, Value.int j49a0_6, Value.int j49a0_7, Value.int j49a0_8, Value.int j49a0_9, Value.int j49a0_10, a0g_11, Value.ref a0_12, Value.int j49a0_13, a0g_14, a0g_15, Value.ref a0_16, a0g_17, a0g_18, a0g_19, a0g_20, a0g_21, a0g_22, a0g_23, a0g_24, a0g_25, a0g_26, a0g_27, a0g_28, a0g_29, a0g_30, a0g_31, a0g_32, a0g_33, a0g_34, a0g_35, a0g_36, a0g_37, a0g_38, a0g_39])), (a0_16, .inl (ka0_16, 156, .inl (fa0_16))), (a0_1, .inl (ka0_1, 900, .inl (fa0_1))), (a0_12, .inl (ka0_12, 8, .inl (j49a0_12_a)))] → va_S A s.heap H locs → lv_has ls 5 [(0, .ref a0), (1, .int x19), (2, .int r27), (3, .int j49l3), (4, .int j49l4)] → K H locs (F0 m 49 ls []) := by
      intro n
      induction n with
      | zero =>
        intro j49l4 j49l3 j49a0_4 j49a0_5 j49a0_6 j49a0_7 j49a0_8 j49a0_9 j49a0_10 j49a0_13 j49a0_12_a H locs ls hm bj49l4_l bj49l4_u bj49l3_l bj49l3_u bj49a0_5_l bj49a0_5_u bj49a0_8_l bj49a0_8_u bj49a0_13_l bj49a0_13_u em49 wa49 wb49 hF0 hP hD hS hl
        first | exact zg_0 hm bj49l4_u (by decide) | (have h8 := ai_min j49l4; have h9 := ai_max j49l4; exact absurd hm (by omega))
      | succ n ih49 =>
        intro j49l4 j49l3 j49a0_4 j49a0_5 j49a0_6 j49a0_7 j49a0_8 j49a0_9 j49a0_10 j49a0_13 j49a0_12_a H locs ls hm bj49l4_l bj49l4_u bj49l3_l bj49l3_u bj49a0_5_l bj49a0_5_u bj49a0_8_l bj49a0_8_u bj49a0_13_l bj49a0_13_u em49 wa49 wb49 hF0 hP hD hS hl
        refine (hK0 _ _ _).mpr ?_
        have hm49 := hm
        obtain ⟨SX49, hSX49⟩ : ∃ q9, SfG_X8_seenLine_49_1 a0_3.toInt (fl_A fa0_16) (fl_A fa0_1) x19.toInt r27.toInt j49l4.toInt j49l3.toInt j49a0_4.toInt j49a0_5.toInt j49a0_6.toInt j49a0_7.toInt j49a0_8.toInt j49a0_9.toInt j49a0_10.toInt j49a0_13.toInt (fl_A j49a0_12_a) = q9 := ⟨_, rfl⟩
        have hF1 := hSX49.symm.trans (SfG_X8_seenLine_49_1.eq_1 a0_3.toInt (fl_A fa0_16) (fl_A fa0_1) x19.toInt r27.toInt j49l4.toInt j49l3.toInt j49a0_4.toInt j49a0_5.toInt j49a0_6.toInt j49a0_7.toInt j49a0_8.toInt j49a0_9.toInt j49a0_10.toInt j49a0_13.toInt (fl_A j49a0_12_a))
        have hv49 : j49a0_13 = 0 ∨ j49a0_13 = 1 := by
          have h1 : (0 : Int) ≤ j49a0_13.toInt := bj49a0_13_l
          have h2 : j49a0_13.toInt ≤ (1 : Int) := bj49a0_13_u
          rcases (show j49a0_13.toInt = 0 ∨ j49a0_13.toInt = 1 by omega) with h | h
          · exact Or.inl (Int32.toInt_inj.mp (h.trans (by decide)))
          · exact Or.inr (Int32.toInt_inj.mp (h.trans (by decide)))
        rcases hv49 with hv49 | hv49
        · subst hv49
          have hF1 := hF1.trans (if_pos (by decide))
          refine lv_iload hx hb dX8_seenLine_49 (lv_at hl 4 rfl) ?_
          refine lv_aload_n hx hb dX8_seenLine_51 rfl (lv_at hl 0 rfl) ?_
          refine va_get (D := (dC, dI)) (ci := 8) (v := .ref a0_16) (C := RX8) (T := TX8) (N := 40) hx hb hts zi_X8_seenLine_8 hown hK hP 0 rfl rfl 16 (by decide) (hts (.fieldLink RX8 23 "WaxTurnsModel" "fresh" "[I") (zm_X8_seenLine_r1 (List.mem_of_getElem? (i := 1) rfl))) (fun _ h9 => h9) rfl dX8_seenLine_52 ?_
          refine lv_bipush (v := 6) hx hb dX8_seenLine_55 zk_bipush_6 ?_
          refine va_iald hx hb hK hP 1 0 rfl rfl (by unfold vp_in; decide +kernel) dX8_seenLine_57 ?_
          refine lv_topi (fun x57 ex57 => ?_)
          have bx57 : (0 : Int) ≤ x57.toInt ∧ x57.toInt ≤ 6 := by rw [ex57]; exact ai_rd bfa0_16.2.2.2.2.2.2.1 zq15 zq16 (by decide) (by decide) (by decide)
          have fqx57 := congrArg Int32.toInt ex57
          have hF1 := hF1.trans (fl_lt_eq (show x57.toInt = (fl_A fa0_16) (6) from fqx57))
          have u57z_x57 : x57.toInt ≤ (5 : Int) := fg_le (m := 6) ex57 h6
          refine lv_icmp_ge (tgt := 101) hx hb dX8_seenLine_58 (by decide) (fun c58 => ?_) (fun c58 => ?_)
          · have gc58 := ai_le c58
            have u58t_x57 : x57.toInt ≤ (5 : Int) := u57z_x57
            have l58t_j49l4 : (0 : Int) ≤ j49l4.toInt := bj49l4_l
            have hF1 := hF1.trans (if_pos (show x57.toInt ≤ j49l4.toInt from gc58))
            have hF0 := hF0.trans (fl_wh_r (hSX49.trans hF1))
            refine lv_aload_n hx hb dX8_seenLine_101 rfl (lv_at hl 0 rfl) ?_
            refine zc_cutc (wc := [(a0, .inr (8, [a0g_0, Value.ref a0_1, a0g_2, Value.int a0_3, Value.int j49a0_4, Value.int j49a0_5, Value.int j49a0_6, Value.int j49a0_7, Value.int j49a0_8, Value.int j49a0_9, Value.int j49a0_10, a0g_11, Value.ref a0_12, Value.int 0, a0g_14, a0g_15, Value.ref a0_16, a0g_17, a0g_18, a0g_19, a0g_20, a0g_21, a0g_22, a0g_23, a0g_24, a0g_25, a0g_26, a0g_27, a0g_28, a0g_29, a0g_30, a0g_31, a0g_32, a0g_33, a0g_34, a0g_35, a0g_36, a0g_37, a0g_38, a0g_39])), (a0_1, .inl (ka0_1, 900, .inl (fa0_1))), (a0_12, .inl (ka0_12, 8, .inl (j49a0_12_a)))]) hP hD hS hA [0, 2, 3] (by decide +kernel) rfl (fun hPc hDc hFc hCc => ?_)
            have hKc := hK.sub (tys' := [(ka0_1, .int), (ka0_12, .int)]) [1, 2] rfl
            refine va_callv (va_runV (As := []) (rest := []) ⟨hx, hb, hml, hown, hts⟩ (fG_X8_pass l dC dI H.size a0 a0g_0 a0g_2 (Value.int j49a0_9) (Value.int j49a0_10) a0g_11 a0g_14 a0g_15 (Value.ref a0_16) a0g_17 a0g_18 a0g_19 a0g_20 a0g_21 a0g_22 a0g_23 a0g_24 a0g_25 a0g_26 a0g_27 a0g_28 a0g_29 a0g_30 a0g_31 a0g_32 a0g_33 a0g_34 a0g_35 a0g_36 a0g_37 a0g_38 a0g_39 a0_1 a0_3 j49a0_4 j49a0_5 j49a0_6 j49a0_7 j49a0_8 a0_12 ka0_1 fa0_1 ka0_12 j49a0_12_a ba0_3_l ba0_3_u bj49a0_5_l bj49a0_5_u bj49a0_8_l bj49a0_8_u) (cwV 0 hts gX8_seenLine_X8_pass rfl rfl rfl zd_X8_pass ⟨Nat.le_of_ble_eq_true rfl, Nat.le_of_ble_eq_true rfl⟩) ⟨ax_blind (fun _ _ _ _ _ => trivial), zr_8 hKc hPc (q0 := 0) rfl, ax_pre hPc hKc hDc (fun _ _ => trivial)⟩ rfl rfl hl.1 rfl (lv_room (Nat.le_of_ble_eq_true rfl)) dX8_seenLine_102 ⟨Nat.le_of_ble_eq_true rfl, Nat.le_of_ble_eq_true rfl⟩) hS (fun q _ h => hFc q h) hFc (fun u t H locs ht hvm hw => zx_6 (fun v102na0_4 v102na0_5 v102na0_6 v102na0_7 v102na0_8 v102nfa0_12 => zy_5 (fun bv102na0_5 bv102na0_8 hraw102_0 hraw102_1 hraw102_2 hB hz1 hk1 hS1 => zo hB ht hS1 (fun hP1 hK1 hD1 hS => ?_))))
            refine zc_backc (w := [(a0, .inr (8, [a0g_0, Value.ref a0_1, a0g_2, Value.int a0_3, Value.int v102na0_4, Value.int v102na0_5, Value.int v102na0_6, Value.int v102na0_7, Value.int v102na0_8, Value.int j49a0_9, Value.int j49a0_10, a0g_11, Value.ref a0_12, Value.int 0, a0g_14, a0g_15, Value.ref a0_16, a0g_17, a0g_18, a0g_19, a0g_20, a0g_21, a0g_22, a0g_23, a0g_24, a0g_25, a0g_26, a0g_27, a0g_28, a0g_29, a0g_30, a0g_31, a0g_32, a0g_33, a0g_34, a0g_35, a0g_36, a0g_37, a0g_38, a0g_39])), (a0_16, .inl (ka0_16, 156, .inl (fa0_16))), (a0_1, .inl (ka0_1, 900, .inl (fa0_1))), (a0_12, .inl (ka0_12, 8, .inl (v102nfa0_12)))]) hP hD hCc hk1 hFc hP1 hD1 [.inr 0, .inl 1, .inr 1, .inr 2] (by decide +kernel) rfl (fun hP hD => ?_)
            have hc102 : FfG_X8_pass a0_3.toInt j49a0_5.toInt (fl_A fa0_1) (fl_A j49a0_12_a) = (v102na0_4.toInt, v102na0_5.toInt, v102na0_6.toInt, v102na0_7.toInt, v102na0_8.toInt, (fl_A v102nfa0_12)) := hraw102_2
            have hF0 := hF0.trans (fl_c6_eq hc102)
            refine lv_aload_n hx hb dX8_seenLine_105 rfl (lv_at hl 0 rfl) ?_
            refine va_get (D := (dC, dI)) (ci := 8) (v := .int 0) (C := RX8) (T := TX8) (N := 40) hx hb hts zi_X8_seenLine_8 hown hK hP 0 rfl rfl 13 (by decide) (hts (.fieldLink RX8 97 "WaxTurnsModel" "failed" "Z") (zm_X8_seenLine_r1 (List.mem_of_getElem? (i := 0) rfl))) (fun _ h9 => h9) rfl dX8_seenLine_106 ?_
            refine lv_if_eq (tgt := 113) hx hb dX8_seenLine_109 (by decide) (fun _ => ?_) (fun c109 => absurd (by decide +kernel) c109)
            refine lv_aload_n hx hb dX8_seenLine_113 rfl (lv_at hl 0 rfl) ?_
            refine va_get (D := (dC, dI)) (ci := 8) (v := .ref a0_16) (C := RX8) (T := TX8) (N := 40) hx hb hts zi_X8_seenLine_8 hown hK hP 0 rfl rfl 16 (by decide) (hts (.fieldLink RX8 23 "WaxTurnsModel" "fresh" "[I") (zm_X8_seenLine_r1 (List.mem_of_getElem? (i := 1) rfl))) (fun _ h9 => h9) rfl dX8_seenLine_114 ?_
            refine lv_iload_n hx hb dX8_seenLine_117 rfl (lv_at hl 1 rfl) ?_
            refine lv_iload_n hx hb dX8_seenLine_118 rfl (lv_at hl 2 rfl) ?_
            refine va_iast hx hb hK hP hD hS 1 0 rfl rfl (ai_in bx19.1 bx19.2 (by decide) (by decide)) dX8_seenLine_119 (fun H locs hP hD hS => ?_)
            obtain ⟨f119, ef119⟩ : ∃ g9 : Nat → Int32, g9 = upd fa0_16 (x19 : Int32).toNatClampNeg r27 := ⟨_, rfl⟩
            refine zs_1 (y := (a0_16, .inl (ka0_16, 156, .inl (f119)))) hP hD (by rw [ef119]) (fun hP hD => ?_)
            have bf119 : ((∀ k : Nat, 0 ≤ k → k ≤ 0 → (0 : Int) ≤ (f119 k).toInt ∧ (f119 k).toInt ≤ 9) ∧ (∀ k : Nat, 1 ≤ k → k ≤ 1 → (0 : Int) ≤ (f119 k).toInt ∧ (f119 k).toInt ≤ 20) ∧ (∀ k : Nat, 2 ≤ k → k ≤ 2 → (0 : Int) ≤ (f119 k).toInt ∧ (f119 k).toInt ≤ 8) ∧ (∀ k : Nat, 3 ≤ k → k ≤ 3 → (0 : Int) ≤ (f119 k).toInt ∧ (f119 k).toInt ≤ 100) ∧ (∀ k : Nat, 4 ≤ k → k ≤ 4 → (0 : Int) ≤ (f119 k).toInt ∧ (f119 k).toInt ≤ 9) ∧ (∀ k : Nat, 5 ≤ k → k ≤ 5 → (0 : Int) ≤ (f119 k).toInt ∧ (f119 k).toInt ≤ 3) ∧ (∀ k : Nat, 6 ≤ k → k ≤ 6 → (0 : Int) ≤ (f119 k).toInt ∧ (f119 k).toInt ≤ 6) ∧ (∀ k : Nat, 7 ≤ k → k ≤ 9 → (0 : Int) ≤ (f119 k).toInt ∧ (f119 k).toInt ≤ 8) ∧ (∀ k : Nat, 10 ≤ k → k ≤ 11 → (0 : Int) ≤ (f119 k).toInt ∧ (f119 k).toInt ≤ 1) ∧ (∀ k : Nat, 12 ≤ k → k ≤ 29 → (0 : Int) ≤ (f119 k).toInt ∧ (f119 k).toInt ≤ 20) ∧ (∀ k : Nat, 30 ≤ k → k ≤ 35 → (0 : Int) ≤ (f119 k).toInt ∧ (f119 k).toInt ≤ 8) ∧ (∀ k : Nat, 36 ≤ k → k ≤ 47 → (0 : Int) ≤ (f119 k).toInt ∧ (f119 k).toInt ≤ 999) ∧ (∀ k : Nat, 48 ≤ k → k ≤ 59 → (0 : Int) ≤ (f119 k).toInt ∧ (f119 k).toInt ≤ 8) ∧ ((1 : Int) ≤ (f119 11).toInt → (2 : Int) ≤ (f119 0).toInt ∧ (1 : Int) ≤ (f119 1).toInt) ∧ (∀ (j i0 i : Int32), (0 : Int) ≤ j.toInt → j.toInt ≤ 8 → i0.toInt = 12 + 2 * j.toInt → i.toInt = 13 + 2 * j.toInt → (f119 i0.toNatClampNeg).toInt = (1 : Int32).toInt → (1 : Int) ≤ (f119 i.toNatClampNeg).toInt)) := by rw [ef119]; exact ⟨ai_updO bfa0_16.1 _ (Or.inr (ai_ngt_of bx19.1 (by decide) (by decide))), ai_updO bfa0_16.2.1 _ (Or.inr (ai_ngt_of bx19.1 (by decide) (by decide))), ai_updO bfa0_16.2.2.1 _ (Or.inr (ai_ngt_of bx19.1 (by decide) (by decide))), ai_updO bfa0_16.2.2.2.1 _ (Or.inr (ai_ngt_of bx19.1 (by decide) (by decide))), ai_updO bfa0_16.2.2.2.2.1 _ (Or.inr (ai_ngt_of bx19.1 (by decide) (by decide))), ai_updO bfa0_16.2.2.2.2.2.1 _ (Or.inr (ai_ngt_of bx19.1 (by decide) (by decide))), ai_updO bfa0_16.2.2.2.2.2.2.1 _ (Or.inr (ai_ngt_of bx19.1 (by decide) (by decide))), ai_updO bfa0_16.2.2.2.2.2.2.2.1 _ (Or.inr (ai_ngt_of bx19.1 (by decide) (by decide))), ai_updO bfa0_16.2.2.2.2.2.2.2.2.1 _ (Or.inr (ai_ngt_of bx19.1 (by decide) (by decide))), ai_updO bfa0_16.2.2.2.2.2.2.2.2.2.1 _ (Or.inr (ai_ngt_of bx19.1 (by decide) (by decide))), ai_updO bfa0_16.2.2.2.2.2.2.2.2.2.2.1 _ (Or.inr (ai_ngt_of bx19.1 (by decide) (by decide))), ai_updS bfa0_16.2.2.2.2.2.2.2.2.2.2.2.1 _ ⟨wa49.1, (Int.le_trans wa49.2 zq189)⟩, ai_updO bfa0_16.2.2.2.2.2.2.2.2.2.2.2.2.1 _ (Or.inl (ai_nlt_of bx19.1 bx19.2 (by decide) (by decide))), fg_o bfa0_16.2.2.2.2.2.2.2.2.2.2.2.2.2.1 (by have h1 := ai_natge (n := 36) bx19.1 (by decide); have h2 := ai_natle (n := 46) bx19.2 (by decide); omega), fg_ko bfa0_16.2.2.2.2.2.2.2.2.2.2.2.2.2.2 (by have h1 := ai_natge (n := 36) bx19.1 (by decide); have h2 := ai_natle (n := 46) bx19.2 (by decide); omega)⟩
            have fqf119 := fl_up_eq ef119
            have hF0 := hF0.trans (fl_lt_eq (show (fl_A f119) = fl_up (fl_A fa0_16) (x19.toInt.toNat) r27.toInt from fqf119))
            refine lv_aload_n hx hb dX8_seenLine_120 rfl (lv_at hl 0 rfl) ?_
            refine va_get (D := (dC, dI)) (ci := 8) (v := .ref a0_16) (C := RX8) (T := TX8) (N := 40) hx hb hts zi_X8_seenLine_8 hown hK hP 0 rfl rfl 16 (by decide) (hts (.fieldLink RX8 23 "WaxTurnsModel" "fresh" "[I") (zm_X8_seenLine_r1 (List.mem_of_getElem? (i := 1) rfl))) (fun _ h9 => h9) rfl dX8_seenLine_121 ?_
            refine lv_iload_n hx hb dX8_seenLine_124 rfl (lv_at hl 1 rfl) ?_
            refine lv_iconst (v := 1) hx hb dX8_seenLine_125 zk_iconst_1 ?_
            refine lv_iadd hx hb dX8_seenLine_126 ?_
            refine lv_topi (fun x126 ex126 => ?_)
            have qx126 : x126.toInt = x19.toInt + (1 : Int32).toInt := ai_add ex126 ⟨bx19.1, bx19.2⟩ ⟨zq1, zq0⟩ (by decide) (by decide)
            have bx126 : (37 : Int) ≤ x126.toInt ∧ x126.toInt ≤ 47 := ⟨by rw [qx126]; exact Int.add_le_add bx19.1 zq1, by rw [qx126]; exact Int.add_le_add bx19.2 zq0⟩
            have wx126 : x126.toInt = x19.toInt + 1 := qx126
            have hF0 := hF0.trans (fl_lt_eq (show x126.toInt = x19.toInt + 1 from qx126))
            refine lv_iload_n hx hb dX8_seenLine_127 rfl (lv_at hl 3 rfl) ?_
            refine va_iast hx hb hK hP hD hS 1 0 rfl rfl (ai_in bx126.1 bx126.2 (by decide) (by decide)) dX8_seenLine_128 (fun H locs hP hD hS => ?_)
            obtain ⟨f128, ef128⟩ : ∃ g9 : Nat → Int32, g9 = upd f119 (x126 : Int32).toNatClampNeg j49l3 := ⟨_, rfl⟩
            refine zs_1 (y := (a0_16, .inl (ka0_16, 156, .inl (f128)))) hP hD (by rw [ef128]) (fun hP hD => ?_)
            have bf128 : ((∀ k : Nat, 0 ≤ k → k ≤ 0 → (0 : Int) ≤ (f128 k).toInt ∧ (f128 k).toInt ≤ 9) ∧ (∀ k : Nat, 1 ≤ k → k ≤ 1 → (0 : Int) ≤ (f128 k).toInt ∧ (f128 k).toInt ≤ 20) ∧ (∀ k : Nat, 2 ≤ k → k ≤ 2 → (0 : Int) ≤ (f128 k).toInt ∧ (f128 k).toInt ≤ 8) ∧ (∀ k : Nat, 3 ≤ k → k ≤ 3 → (0 : Int) ≤ (f128 k).toInt ∧ (f128 k).toInt ≤ 100) ∧ (∀ k : Nat, 4 ≤ k → k ≤ 4 → (0 : Int) ≤ (f128 k).toInt ∧ (f128 k).toInt ≤ 9) ∧ (∀ k : Nat, 5 ≤ k → k ≤ 5 → (0 : Int) ≤ (f128 k).toInt ∧ (f128 k).toInt ≤ 3) ∧ (∀ k : Nat, 6 ≤ k → k ≤ 6 → (0 : Int) ≤ (f128 k).toInt ∧ (f128 k).toInt ≤ 6) ∧ (∀ k : Nat, 7 ≤ k → k ≤ 9 → (0 : Int) ≤ (f128 k).toInt ∧ (f128 k).toInt ≤ 8) ∧ (∀ k : Nat, 10 ≤ k → k ≤ 11 → (0 : Int) ≤ (f128 k).toInt ∧ (f128 k).toInt ≤ 1) ∧ (∀ k : Nat, 12 ≤ k → k ≤ 29 → (0 : Int) ≤ (f128 k).toInt ∧ (f128 k).toInt ≤ 20) ∧ (∀ k : Nat, 30 ≤ k → k ≤ 35 → (0 : Int) ≤ (f128 k).toInt ∧ (f128 k).toInt ≤ 8) ∧ (∀ k : Nat, 36 ≤ k → k ≤ 47 → (0 : Int) ≤ (f128 k).toInt ∧ (f128 k).toInt ≤ 999) ∧ (∀ k : Nat, 48 ≤ k → k ≤ 59 → (0 : Int) ≤ (f128 k).toInt ∧ (f128 k).toInt ≤ 8) ∧ ((1 : Int) ≤ (f128 11).toInt → (2 : Int) ≤ (f128 0).toInt ∧ (1 : Int) ≤ (f128 1).toInt) ∧ (∀ (j i0 i : Int32), (0 : Int) ≤ j.toInt → j.toInt ≤ 8 → i0.toInt = 12 + 2 * j.toInt → i.toInt = 13 + 2 * j.toInt → (f128 i0.toNatClampNeg).toInt = (1 : Int32).toInt → (1 : Int) ≤ (f128 i.toNatClampNeg).toInt)) := by rw [ef128]; exact ⟨ai_updO bf119.1 _ (Or.inr (ai_ngt_of bx126.1 (by decide) (by decide))), ai_updO bf119.2.1 _ (Or.inr (ai_ngt_of bx126.1 (by decide) (by decide))), ai_updO bf119.2.2.1 _ (Or.inr (ai_ngt_of bx126.1 (by decide) (by decide))), ai_updO bf119.2.2.2.1 _ (Or.inr (ai_ngt_of bx126.1 (by decide) (by decide))), ai_updO bf119.2.2.2.2.1 _ (Or.inr (ai_ngt_of bx126.1 (by decide) (by decide))), ai_updO bf119.2.2.2.2.2.1 _ (Or.inr (ai_ngt_of bx126.1 (by decide) (by decide))), ai_updO bf119.2.2.2.2.2.2.1 _ (Or.inr (ai_ngt_of bx126.1 (by decide) (by decide))), ai_updO bf119.2.2.2.2.2.2.2.1 _ (Or.inr (ai_ngt_of bx126.1 (by decide) (by decide))), ai_updO bf119.2.2.2.2.2.2.2.2.1 _ (Or.inr (ai_ngt_of bx126.1 (by decide) (by decide))), ai_updO bf119.2.2.2.2.2.2.2.2.2.1 _ (Or.inr (ai_ngt_of bx126.1 (by decide) (by decide))), ai_updO bf119.2.2.2.2.2.2.2.2.2.2.1 _ (Or.inr (ai_ngt_of bx126.1 (by decide) (by decide))), ai_updS bf119.2.2.2.2.2.2.2.2.2.2.2.1 _ ⟨wb49.1, wb49.2⟩, ai_updO bf119.2.2.2.2.2.2.2.2.2.2.2.2.1 _ (Or.inl (ai_nlt_of bx126.1 bx126.2 (by decide) (by decide))), fg_o bf119.2.2.2.2.2.2.2.2.2.2.2.2.2.1 (by have h1 := ai_natge (n := 37) bx126.1 (by decide); have h2 := ai_natle (n := 47) bx126.2 (by decide); omega), fg_ko bf119.2.2.2.2.2.2.2.2.2.2.2.2.2.2 (by have h1 := ai_natge (n := 37) bx126.1 (by decide); have h2 := ai_natle (n := 47) bx126.2 (by decide); omega)⟩
            have fqf128 := fl_up_eq ef128
            have hF0 := hF0.trans (fl_lt_eq (show (fl_A f128) = fl_up (fl_A f119) (x126.toInt.toNat) j49l3.toInt from fqf128))
            refine lv_aload_n hx hb dX8_seenLine_129 rfl (lv_at hl 0 rfl) ?_
            refine va_get (D := (dC, dI)) (ci := 8) (v := .ref a0_16) (C := RX8) (T := TX8) (N := 40) hx hb hts zi_X8_seenLine_8 hown hK hP 0 rfl rfl 16 (by decide) (hts (.fieldLink RX8 23 "WaxTurnsModel" "fresh" "[I") (zm_X8_seenLine_r1 (List.mem_of_getElem? (i := 1) rfl))) (fun _ h9 => h9) rfl dX8_seenLine_130 ?_
            refine lv_bipush (v := 6) hx hb dX8_seenLine_133 zk_bipush_6 ?_
            refine lv_dup2_11 hx hb dX8_seenLine_135 rfl rfl ?_
            refine va_iald hx hb hK hP 1 0 rfl rfl (by unfold vp_in; decide +kernel) dX8_seenLine_136 ?_
            refine lv_topi (fun x136 ex136 => ?_)
            have bx136 : (0 : Int) ≤ x136.toInt ∧ x136.toInt ≤ 6 := by rw [ex136]; exact ai_rd bf128.2.2.2.2.2.2.1 zq15 zq16 (by decide) (by decide) (by decide)
            have fqx136 := congrArg Int32.toInt ex136
            have hF0 := hF0.trans (fl_lt_eq (show x136.toInt = (fl_A f128) (6) from fqx136))
            have u136z_x136 : x136.toInt ≤ (5 : Int) := fg_le (m := 6) ex136 (by have uef128 := fg_u ef128 (by omega) (m := 6) (by omega); rw [uef128]; have uef119 := fg_u ef119 (by omega) (m := 6) (by omega); rw [uef119]; exact h6)
            refine lv_iconst (v := 1) hx hb dX8_seenLine_137 zk_iconst_1 ?_
            refine lv_iadd hx hb dX8_seenLine_138 ?_
            refine lv_topi (fun x138 ex138 => ?_)
            have qx138 : x138.toInt = x136.toInt + (1 : Int32).toInt := ai_add ex138 ⟨bx136.1, u136z_x136⟩ ⟨zq1, zq0⟩ (by decide) (by decide)
            have bx138 : (1 : Int) ≤ x138.toInt ∧ x138.toInt ≤ 6 := ⟨by rw [qx138]; exact Int.add_le_add bx136.1 zq1, by rw [qx138]; exact Int.add_le_add u136z_x136 zq0⟩
            have wx138 : x138.toInt = x136.toInt + 1 := qx138
            have hF0 := hF0.trans (fl_lt_eq (show x138.toInt = x136.toInt + 1 from qx138))
            refine va_iast hx hb hK hP hD hS 1 0 rfl rfl (by unfold vp_in; decide +kernel) dX8_seenLine_139 (fun H locs hP hD hS => ?_)
            obtain ⟨f139, ef139⟩ : ∃ g9 : Nat → Int32, g9 = upd f128 (6 : Int32).toNatClampNeg x138 := ⟨_, rfl⟩
            refine zs_1 (y := (a0_16, .inl (ka0_16, 156, .inl (f139)))) hP hD (by rw [ef139]) (fun hP hD => ?_)
            have bf139 : ((∀ k : Nat, 0 ≤ k → k ≤ 0 → (0 : Int) ≤ (f139 k).toInt ∧ (f139 k).toInt ≤ 9) ∧ (∀ k : Nat, 1 ≤ k → k ≤ 1 → (0 : Int) ≤ (f139 k).toInt ∧ (f139 k).toInt ≤ 20) ∧ (∀ k : Nat, 2 ≤ k → k ≤ 2 → (0 : Int) ≤ (f139 k).toInt ∧ (f139 k).toInt ≤ 8) ∧ (∀ k : Nat, 3 ≤ k → k ≤ 3 → (0 : Int) ≤ (f139 k).toInt ∧ (f139 k).toInt ≤ 100) ∧ (∀ k : Nat, 4 ≤ k → k ≤ 4 → (0 : Int) ≤ (f139 k).toInt ∧ (f139 k).toInt ≤ 9) ∧ (∀ k : Nat, 5 ≤ k → k ≤ 5 → (0 : Int) ≤ (f139 k).toInt ∧ (f139 k).toInt ≤ 3) ∧ (∀ k : Nat, 6 ≤ k → k ≤ 6 → (0 : Int) ≤ (f139 k).toInt ∧ (f139 k).toInt ≤ 6) ∧ (∀ k : Nat, 7 ≤ k → k ≤ 9 → (0 : Int) ≤ (f139 k).toInt ∧ (f139 k).toInt ≤ 8) ∧ (∀ k : Nat, 10 ≤ k → k ≤ 11 → (0 : Int) ≤ (f139 k).toInt ∧ (f139 k).toInt ≤ 1) ∧ (∀ k : Nat, 12 ≤ k → k ≤ 29 → (0 : Int) ≤ (f139 k).toInt ∧ (f139 k).toInt ≤ 20) ∧ (∀ k : Nat, 30 ≤ k → k ≤ 35 → (0 : Int) ≤ (f139 k).toInt ∧ (f139 k).toInt ≤ 8) ∧ (∀ k : Nat, 36 ≤ k → k ≤ 47 → (0 : Int) ≤ (f139 k).toInt ∧ (f139 k).toInt ≤ 999) ∧ (∀ k : Nat, 48 ≤ k → k ≤ 59 → (0 : Int) ≤ (f139 k).toInt ∧ (f139 k).toInt ≤ 8) ∧ ((1 : Int) ≤ (f139 11).toInt → (2 : Int) ≤ (f139 0).toInt ∧ (1 : Int) ≤ (f139 1).toInt) ∧ (∀ (j i0 i : Int32), (0 : Int) ≤ j.toInt → j.toInt ≤ 8 → i0.toInt = 12 + 2 * j.toInt → i.toInt = 13 + 2 * j.toInt → (f139 i0.toNatClampNeg).toInt = (1 : Int32).toInt → (1 : Int) ≤ (f139 i.toNatClampNeg).toInt)) := by rw [ef139]; exact ⟨ai_updO bf128.1 _ (Or.inr (ai_ngt_of zq15 (by decide) (by decide))), ai_updO bf128.2.1 _ (Or.inr (ai_ngt_of zq15 (by decide) (by decide))), ai_updO bf128.2.2.1 _ (Or.inr (ai_ngt_of zq15 (by decide) (by decide))), ai_updO bf128.2.2.2.1 _ (Or.inr (ai_ngt_of zq15 (by decide) (by decide))), ai_updO bf128.2.2.2.2.1 _ (Or.inr (ai_ngt_of zq15 (by decide) (by decide))), ai_updO bf128.2.2.2.2.2.1 _ (Or.inr (ai_ngt_of zq15 (by decide) (by decide))), ai_updS bf128.2.2.2.2.2.2.1 _ ⟨(Int.le_trans zq4 bx138.1), bx138.2⟩, ai_updO bf128.2.2.2.2.2.2.2.1 _ (Or.inl (ai_nlt_of zq15 zq16 (by decide) (by decide))), ai_updO bf128.2.2.2.2.2.2.2.2.1 _ (Or.inl (ai_nlt_of zq15 zq16 (by decide) (by decide))), ai_updO bf128.2.2.2.2.2.2.2.2.2.1 _ (Or.inl (ai_nlt_of zq15 zq16 (by decide) (by decide))), ai_updO bf128.2.2.2.2.2.2.2.2.2.2.1 _ (Or.inl (ai_nlt_of zq15 zq16 (by decide) (by decide))), ai_updO bf128.2.2.2.2.2.2.2.2.2.2.2.1 _ (Or.inl (ai_nlt_of zq15 zq16 (by decide) (by decide))), ai_updO bf128.2.2.2.2.2.2.2.2.2.2.2.2.1 _ (Or.inl (ai_nlt_of zq15 zq16 (by decide) (by decide))), fg_o bf128.2.2.2.2.2.2.2.2.2.2.2.2.2.1 (by decide +kernel), fg_ko bf128.2.2.2.2.2.2.2.2.2.2.2.2.2.2 (by decide +kernel)⟩
            have kf139_6 : f139 6 = x138 := by rw [ef139]; exact ai_k1 (by decide +kernel)
            have fqf139 := fl_up_eq ef139
            have hF0 := hF0.trans (fl_lt_eq (show (fl_A f139) = fl_up (fl_A f128) (6) x138.toInt from fqf139))
            have hFe : FX = (v102na0_4.toInt, v102na0_5.toInt, v102na0_6.toInt, v102na0_7.toInt, v102na0_8.toInt, j49a0_9.toInt, j49a0_10.toInt, 0, (fl_A f139), (fl_A v102nfa0_12)) := hF0
            exact W.vret hx hb hr (fun t ht hW => ⟨⟨(), rfl, trivial, v102na0_4, v102na0_5, v102na0_6, v102na0_7, v102na0_8, j49a0_9, j49a0_10, 0, f139, v102nfa0_12, ⟨bv102na0_5.1, bv102na0_5.2⟩, ⟨bv102na0_8.1, bv102na0_8.2⟩, ⟨zq5, Int.le_trans zq6 (by decide)⟩, bf139, (Or.inr rfl), (em_t em49 hraw102_1), hFe, by rw [ht]; exact hP, va_K.moved hW.alike hK, hD⟩, hS.F ht⟩) hS.2.2 dX8_seenLine_140
          · have gc58 := ai_nle c58
            have u58f_j49l4 : j49l4.toInt ≤ (4 : Int) := ai_lthi gc58 u57z_x57
            have l58f_x57 : (1 : Int) ≤ x57.toInt := ai_ltlo gc58 bj49l4_l
            have hF1 := hF1.trans (if_neg (show ¬ (x57.toInt ≤ j49l4.toInt) from Int.not_le.mpr gc58))
            refine lv_aload_n hx hb dX8_seenLine_61 rfl (lv_at hl 0 rfl) ?_
            refine va_get (D := (dC, dI)) (ci := 8) (v := .int 0) (C := RX8) (T := TX8) (N := 40) hx hb hts zi_X8_seenLine_8 hown hK hP 0 rfl rfl 13 (by decide) (hts (.fieldLink RX8 97 "WaxTurnsModel" "failed" "Z") (zm_X8_seenLine_r1 (List.mem_of_getElem? (i := 0) rfl))) (fun _ h9 => h9) rfl dX8_seenLine_62 ?_
            refine lv_if_ne (tgt := 95) hx hb dX8_seenLine_65 (by decide) (fun c65 => absurd (by decide +kernel) c65) (fun _ => ?_)
            refine lv_aload_n hx hb dX8_seenLine_68 rfl (lv_at hl 0 rfl) ?_
            refine va_get (D := (dC, dI)) (ci := 8) (v := .ref a0_16) (C := RX8) (T := TX8) (N := 40) hx hb hts zi_X8_seenLine_8 hown hK hP 0 rfl rfl 16 (by decide) (hts (.fieldLink RX8 23 "WaxTurnsModel" "fresh" "[I") (zm_X8_seenLine_r1 (List.mem_of_getElem? (i := 1) rfl))) (fun _ h9 => h9) rfl dX8_seenLine_69 ?_
            refine lv_bipush (v := 36) hx hb dX8_seenLine_72 zk_bipush_36 ?_
            refine lv_iconst (v := 2) hx hb dX8_seenLine_74 zk_iconst_2 ?_
            refine lv_iload hx hb dX8_seenLine_75 (lv_at hl 4 rfl) ?_
            refine lv_imul hx hb dX8_seenLine_77 ?_
            refine lv_topi (fun x77 ex77 => ?_)
            have qx77 : x77.toInt = (2 : Int32).toInt * j49l4.toInt ∧ (0 : Int) ≤ x77.toInt ∧ x77.toInt ≤ 8 := ai_mul ex77 ⟨zq12, zq13⟩ ⟨bj49l4_l, u58f_j49l4⟩ (by decide) (by decide) zq238
            have wx77 : x77.toInt = 2 * j49l4.toInt := qx77.1
            have hF1 := hF1.trans (fl_lt_eq (show x77.toInt = 2 * j49l4.toInt from qx77.1))
            refine lv_iadd hx hb dX8_seenLine_78 ?_
            refine lv_topi (fun x78 ex78 => ?_)
            have qx78 : x78.toInt = (36 : Int32).toInt + x77.toInt := ai_add ex78 ⟨zq182, zq183⟩ ⟨qx77.2.1, qx77.2.2⟩ (by decide) (by decide)
            have bx78 : (36 : Int) ≤ x78.toInt ∧ x78.toInt ≤ 44 := ⟨by rw [qx78]; exact Int.add_le_add zq182 qx77.2.1, by rw [qx78]; exact Int.add_le_add zq183 qx77.2.2⟩
            have wx78 : x78.toInt = 36 + x77.toInt := qx78
            have hF1 := hF1.trans (fl_lt_eq (show x78.toInt = 36 + x77.toInt from qx78))
            refine lv_iconst (v := 1) hx hb dX8_seenLine_79 zk_iconst_1 ?_
            refine lv_iadd hx hb dX8_seenLine_80 ?_
            refine lv_topi (fun x80 ex80 => ?_)
            have qx80 : x80.toInt = x78.toInt + (1 : Int32).toInt := ai_add ex80 ⟨bx78.1, bx78.2⟩ ⟨zq1, zq0⟩ (by decide) (by decide)
            have bx80 : (37 : Int) ≤ x80.toInt ∧ x80.toInt ≤ 45 := ⟨by rw [qx80]; exact Int.add_le_add bx78.1 zq1, by rw [qx80]; exact Int.add_le_add bx78.2 zq0⟩
            have wx80 : x80.toInt = x78.toInt + 1 := qx80
            have hF1 := hF1.trans (fl_lt_eq (show x80.toInt = x78.toInt + 1 from qx80))
            refine va_iald hx hb hK hP 1 0 rfl rfl (ai_in bx80.1 bx80.2 (by decide) (by decide)) dX8_seenLine_81 ?_
            refine lv_topi (fun x81 ex81 => ?_)
            have bx81 : (0 : Int) ≤ x81.toInt ∧ x81.toInt ≤ 999 := by rw [ex81]; exact ai_rd bfa0_16.2.2.2.2.2.2.2.2.2.2.2.1 bx80.1 bx80.2 (by decide) (by decide) (by decide)
            have fqx81 := congrArg Int32.toInt ex81
            have hF1 := hF1.trans (fl_lt_eq (show x81.toInt = (fl_A fa0_16) (x80.toInt.toNat) from fqx81))
            refine lv_iload_n hx hb dX8_seenLine_82 rfl (lv_at hl 3 rfl) ?_
            refine lv_icmp_ne (tgt := 95) hx hb dX8_seenLine_83 (by decide) (fun c83 => ?_) (fun c83 => ?_)
            · have gc83 := ai_ne c83
              have hF1 := hF1.trans (if_neg (show ¬ (x81.toInt = j49l3.toInt) from  gc83))
              obtain ⟨x95, ex95⟩ : ∃ y : Int32, y = j49l4 + Int32.ofInt 1 := ⟨_, rfl⟩
              have qx95 : x95.toInt = j49l4.toInt + 1 := ai_inc ex95 (by decide) (by decide) u58f_j49l4 (by decide)
              have bx95 : (1 : Int) ≤ x95.toInt ∧ x95.toInt ≤ 5 := ⟨by rw [qx95]; exact Int.add_le_add bj49l4_l (Int.le_refl _), by rw [qx95]; exact Int.add_le_add u58f_j49l4 (Int.le_refl _)⟩
              refine lv_iinc (v := x95) (lv' := [(4, .int x95), (0, .ref a0), (1, .int x19), (2, .int r27), (3, .int j49l3)]) hx hb dX8_seenLine_95 hl (k := 4) rfl ex95.symm (by decide) rfl (fun ls hl => ?_)
              have hF1 := hF1.trans (fl_lt_eq (show x95.toInt = j49l4.toInt + 1 from qx95))
              refine lv_goto (tgt := 49) hx hb dX8_seenLine_98 (by decide) ?_
              exact (hK0 _ _ _).mp (ih49 x95 j49l3 j49a0_4 j49a0_5 j49a0_6 j49a0_7 j49a0_8 j49a0_9 j49a0_10 0 j49a0_12_a _ _ _ (by first | exact zg_s hm49 qx95 | (have h0 := qx95; omega)) (Int.le_trans zq4 bx95.1) bx95.2 wb49.1 wb49.2 bj49a0_5_l bj49a0_5_u bj49a0_8_l bj49a0_8_u zq5 (Int.le_trans zq6 zq4) (by omega) ⟨wa49.1, wa49.2⟩ ⟨wb49.1, wb49.2⟩ (by rw [show (0 : Int32).toInt = 0 from by decide]; exact (hF0.trans (fl_wh_l (hSX49.trans hF1)))) hP hD hS (lv_sub hl [1, 2, 3, 4, 0] rfl))
            · have gc83 := ai_eq c83
              have u83f_x81 : x81.toInt ≤ (999 : Int) := bx81.2
              have l83f_x81 : (0 : Int) ≤ x81.toInt := bx81.1
              have u83f_j49l3 : j49l3.toInt ≤ (999 : Int) := wb49.2
              have l83f_j49l3 : (0 : Int) ≤ j49l3.toInt := wb49.1
              have hF1 := hF1.trans (if_pos (show x81.toInt = j49l3.toInt from gc83))
              refine lv_aload_n hx hb dX8_seenLine_86 rfl (lv_at hl 0 rfl) ?_
              refine lv_iconst (v := 3) hx hb dX8_seenLine_87 zk_iconst_3 ?_
              refine lv_aload_n hx hb dX8_seenLine_88 rfl (lv_at hl 0 rfl) ?_
              refine va_get (D := (dC, dI)) (ci := 8) (v := .int j49a0_4) (C := RX8) (T := TX8) (N := 40) hx hb hts zi_X8_seenLine_8 hown hK hP 0 rfl rfl 4 (by decide) (hts (.fieldLink RX8 78 "WaxTurnsModel" "at" "I") (zm_X8_seenLine_r1 (List.mem_of_getElem? (i := 2) rfl))) (fun _ h9 => h9) rfl dX8_seenLine_89 ?_
              refine va_callv (va_runV (As := [.int 3, .int j49a0_4]) (rest := []) ⟨hx, hb, hml, hown, hts⟩ (fG_X8_wrong l dC dI H.size a0 3 j49a0_4 a0g_0 (Value.ref a0_1) a0g_2 (Value.int a0_3) (Value.int j49a0_4) (Value.int j49a0_5) (Value.int j49a0_6) (Value.int j49a0_7) (Value.int j49a0_8) a0g_11 (Value.ref a0_12) a0g_14 a0g_15 (Value.ref a0_16) a0g_17 a0g_18 a0g_19 a0g_20 a0g_21 a0g_22 a0g_23 a0g_24 a0g_25 a0g_26 a0g_27 a0g_28 a0g_29 a0g_30 a0g_31 a0g_32 a0g_33 a0g_34 a0g_35 a0g_36 a0g_37 a0g_38 a0g_39 j49a0_9 j49a0_10 ) (cwV 2 hts gX8_seenLine_X8_wrong rfl rfl rfl zd_X8_wrong ⟨Nat.le_of_ble_eq_true rfl, Nat.le_of_ble_eq_true rfl⟩) ⟨ax_blind (fun _ _ _ _ _ => trivial), zr_8 (zp_K hK) (zp_P1 hP) (q0 := 0) rfl, ax_pre (zp_P1 hP) (zp_K hK) (zp_D1 hD) (fun _ _ => trivial)⟩ rfl rfl hl.1 rfl (lv_room (Nat.le_of_ble_eq_true rfl)) dX8_seenLine_92 ⟨Nat.le_of_ble_eq_true rfl, Nat.le_of_ble_eq_true rfl⟩) hS (fun q _ h => zp_F1 hD hS hA q h) (zp_F1 hD hS hA) (fun u t H locs ht hvm hw => zx_2 (fun v92na0_9 v92na0_10 => zy_1 (fun hraw92_0 hB hz1 hk1 hS1 => zo1 hB ht hP hD hk1 (zp_F1 hD hS hA) hS1 (fun hP hK1 hD hS => ?_))))
              rw [show (3 : Int32).toInt = 3 from by decide] at hraw92_0
              have hc92 : FfG_X8_wrong 3 j49a0_4.toInt = (v92na0_9.toInt, v92na0_10.toInt) := hraw92_0
              have hF1 := hF1.trans (fl_c2_eq hc92)
              obtain ⟨x95, ex95⟩ : ∃ y : Int32, y = j49l4 + Int32.ofInt 1 := ⟨_, rfl⟩
              have qx95 : x95.toInt = j49l4.toInt + 1 := ai_inc ex95 (by decide) (by decide) u58f_j49l4 (by decide)
              have bx95 : (1 : Int) ≤ x95.toInt ∧ x95.toInt ≤ 5 := ⟨by rw [qx95]; exact Int.add_le_add bj49l4_l (Int.le_refl _), by rw [qx95]; exact Int.add_le_add u58f_j49l4 (Int.le_refl _)⟩
              refine lv_iinc (v := x95) (lv' := [(4, .int x95), (0, .ref a0), (1, .int x19), (2, .int r27), (3, .int j49l3)]) hx hb dX8_seenLine_95 hl (k := 4) rfl ex95.symm (by decide) rfl (fun ls hl => ?_)
              have hF1 := hF1.trans (fl_lt_eq (show x95.toInt = j49l4.toInt + 1 from qx95))
              refine lv_goto (tgt := 49) hx hb dX8_seenLine_98 (by decide) ?_
              exact (hK0 _ _ _).mp (ih49 x95 j49l3 j49a0_4 j49a0_5 j49a0_6 j49a0_7 j49a0_8 v92na0_9 v92na0_10 1 j49a0_12_a _ _ _ (by first | exact zg_s hm49 qx95 | (have h0 := qx95; omega)) (Int.le_trans zq4 bx95.1) bx95.2 l83f_j49l3 u83f_j49l3 bj49a0_5_l bj49a0_5_u bj49a0_8_l bj49a0_8_u (Int.le_trans zq4 zq1) zq0 (by omega) ⟨wa49.1, wa49.2⟩ ⟨l83f_j49l3, u83f_j49l3⟩ (by rw [show (1 : Int32).toInt = 1 from by decide]; exact (hF0.trans (fl_wh_l (hSX49.trans hF1)))) hP hD hS (lv_sub hl [1, 2, 3, 4, 0] rfl))
        · subst hv49
          have hF1 := hF1.trans (if_neg (by decide))
          refine lv_iload hx hb dX8_seenLine_49 (lv_at hl 4 rfl) ?_
          refine lv_aload_n hx hb dX8_seenLine_51 rfl (lv_at hl 0 rfl) ?_
          refine va_get (D := (dC, dI)) (ci := 8) (v := .ref a0_16) (C := RX8) (T := TX8) (N := 40) hx hb hts zi_X8_seenLine_8 hown hK hP 0 rfl rfl 16 (by decide) (hts (.fieldLink RX8 23 "WaxTurnsModel" "fresh" "[I") (zm_X8_seenLine_r1 (List.mem_of_getElem? (i := 1) rfl))) (fun _ h9 => h9) rfl dX8_seenLine_52 ?_
          refine lv_bipush (v := 6) hx hb dX8_seenLine_55 zk_bipush_6 ?_
          refine va_iald hx hb hK hP 1 0 rfl rfl (by unfold vp_in; decide +kernel) dX8_seenLine_57 ?_
          refine lv_topi (fun x57 ex57 => ?_)
          have bx57 : (0 : Int) ≤ x57.toInt ∧ x57.toInt ≤ 6 := by rw [ex57]; exact ai_rd bfa0_16.2.2.2.2.2.2.1 zq15 zq16 (by decide) (by decide) (by decide)
          have fqx57 := congrArg Int32.toInt ex57
          have hF1 := hF1.trans (fl_lt_eq (show x57.toInt = (fl_A fa0_16) (6) from fqx57))
          have u57z_x57 : x57.toInt ≤ (5 : Int) := fg_le (m := 6) ex57 h6
          refine lv_icmp_ge (tgt := 101) hx hb dX8_seenLine_58 (by decide) (fun c58 => ?_) (fun c58 => ?_)
          · have gc58 := ai_le c58
            have u58t_x57 : x57.toInt ≤ (5 : Int) := u57z_x57
            have l58t_j49l4 : (0 : Int) ≤ j49l4.toInt := bj49l4_l
            have hF1 := hF1.trans (if_pos (show x57.toInt ≤ j49l4.toInt from gc58))
            have hF0 := hF0.trans (fl_wh_r (hSX49.trans hF1))
            refine lv_aload_n hx hb dX8_seenLine_101 rfl (lv_at hl 0 rfl) ?_
            refine va_callv (va_runV (As := []) (rest := []) ⟨hx, hb, hml, hown, hts⟩ (fF_X8_pass l dC dI H.size a0 a0g_0 (Value.ref a0_1) a0g_2 (Value.int a0_3) (Value.int j49a0_4) (Value.int j49a0_5) (Value.int j49a0_6) (Value.int j49a0_7) (Value.int j49a0_8) (Value.int j49a0_9) (Value.int j49a0_10) a0g_11 (Value.ref a0_12) a0g_14 a0g_15 (Value.ref a0_16) a0g_17 a0g_18 a0g_19 a0g_20 a0g_21 a0g_22 a0g_23 a0g_24 a0g_25 a0g_26 a0g_27 a0g_28 a0g_29 a0g_30 a0g_31 a0g_32 a0g_33 a0g_34 a0g_35 a0g_36 a0g_37 a0g_38 a0g_39 ) (cwV 0 hts gX8_seenLine_X8_pass rfl rfl rfl zd_X8_pass ⟨Nat.le_of_ble_eq_true rfl, Nat.le_of_ble_eq_true rfl⟩) ⟨ax_blind (fun _ _ _ _ _ => trivial), zr_8 (zp_K hK) (zp_P1 hP) (q0 := 0) rfl, ax_pre (zp_P1 hP) (zp_K hK) (zp_D1 hD) (fun _ _ => trivial)⟩ rfl rfl hl.1 rfl (lv_room (Nat.le_of_ble_eq_true rfl)) dX8_seenLine_102 ⟨Nat.le_of_ble_eq_true rfl, Nat.le_of_ble_eq_true rfl⟩) hS (fun q _ h => zp_F1 hD hS hA q h) (zp_F1 hD hS hA) (fun u t H locs ht hvm hw hB hz1 hk1 hS1 => zo1 hB ht hP hD hk1 (zp_F1 hD hS hA) hS1 (fun hP hK1 hD hS => ?_))
            refine lv_aload_n hx hb dX8_seenLine_105 rfl (lv_at hl 0 rfl) ?_
            refine va_get (D := (dC, dI)) (ci := 8) (v := .int 1) (C := RX8) (T := TX8) (N := 40) hx hb hts zi_X8_seenLine_8 hown hK hP 0 rfl rfl 13 (by decide) (hts (.fieldLink RX8 97 "WaxTurnsModel" "failed" "Z") (zm_X8_seenLine_r1 (List.mem_of_getElem? (i := 0) rfl))) (fun _ h9 => h9) rfl dX8_seenLine_106 ?_
            refine lv_if_eq (tgt := 113) hx hb dX8_seenLine_109 (by decide) (fun c109 => absurd c109 (by decide +kernel)) (fun _ => ?_)
            have hFe : FX = (j49a0_4.toInt, j49a0_5.toInt, j49a0_6.toInt, j49a0_7.toInt, j49a0_8.toInt, j49a0_9.toInt, j49a0_10.toInt, 1, (fl_A fa0_16), (fl_A j49a0_12_a)) := hF0
            exact W.vret hx hb hr (fun t ht hW => ⟨⟨(), rfl, trivial, j49a0_4, j49a0_5, j49a0_6, j49a0_7, j49a0_8, j49a0_9, j49a0_10, 1, fa0_16, j49a0_12_a, ⟨bj49a0_5_l, bj49a0_5_u⟩, ⟨bj49a0_8_l, bj49a0_8_u⟩, ⟨Int.le_trans (by decide) zq1, zq0⟩, bfa0_16, (Or.inl rfl), em49, hFe, by rw [ht]; exact hP, va_K.moved hW.alike hK, hD⟩, hS.F ht⟩) hS.2.2 dX8_seenLine_112
          · have gc58 := ai_nle c58
            have u58f_j49l4 : j49l4.toInt ≤ (4 : Int) := ai_lthi gc58 u57z_x57
            have l58f_x57 : (1 : Int) ≤ x57.toInt := ai_ltlo gc58 bj49l4_l
            have hF1 := hF1.trans (if_neg (show ¬ (x57.toInt ≤ j49l4.toInt) from Int.not_le.mpr gc58))
            refine lv_aload_n hx hb dX8_seenLine_61 rfl (lv_at hl 0 rfl) ?_
            refine va_get (D := (dC, dI)) (ci := 8) (v := .int 1) (C := RX8) (T := TX8) (N := 40) hx hb hts zi_X8_seenLine_8 hown hK hP 0 rfl rfl 13 (by decide) (hts (.fieldLink RX8 97 "WaxTurnsModel" "failed" "Z") (zm_X8_seenLine_r1 (List.mem_of_getElem? (i := 0) rfl))) (fun _ h9 => h9) rfl dX8_seenLine_62 ?_
            refine lv_if_ne (tgt := 95) hx hb dX8_seenLine_65 (by decide) (fun _ => ?_) (fun c65 => absurd c65 (by decide +kernel))
            obtain ⟨x95, ex95⟩ : ∃ y : Int32, y = j49l4 + Int32.ofInt 1 := ⟨_, rfl⟩
            have qx95 : x95.toInt = j49l4.toInt + 1 := ai_inc ex95 (by decide) (by decide) u58f_j49l4 (by decide)
            have bx95 : (1 : Int) ≤ x95.toInt ∧ x95.toInt ≤ 5 := ⟨by rw [qx95]; exact Int.add_le_add bj49l4_l (Int.le_refl _), by rw [qx95]; exact Int.add_le_add u58f_j49l4 (Int.le_refl _)⟩
            refine lv_iinc (v := x95) (lv' := [(4, .int x95), (0, .ref a0), (1, .int x19), (2, .int r27), (3, .int j49l3)]) hx hb dX8_seenLine_95 hl (k := 4) rfl ex95.symm (by decide) rfl (fun ls hl => ?_)
            have hF1 := hF1.trans (fl_lt_eq (show x95.toInt = j49l4.toInt + 1 from qx95))
            refine lv_goto (tgt := 49) hx hb dX8_seenLine_98 (by decide) ?_
            exact (hK0 _ _ _).mp (ih49 x95 j49l3 j49a0_4 j49a0_5 j49a0_6 j49a0_7 j49a0_8 j49a0_9 j49a0_10 1 j49a0_12_a _ _ _ (by first | exact zg_s hm49 qx95 | (have h0 := qx95; omega)) (Int.le_trans zq4 bx95.1) bx95.2 wb49.1 wb49.2 bj49a0_5_l bj49a0_5_u bj49a0_8_l bj49a0_8_u (Int.le_trans zq4 zq1) zq0 (by omega) ⟨wa49.1, wa49.2⟩ ⟨wb49.1, wb49.2⟩ (by rw [show (1 : Int32).toInt = 1 from by decide]; exact (hF0.trans (fl_wh_l (hSX49.trans hF1)))) hP hD hS (lv_sub hl [1, 2, 3, 4, 0] rfl))
    exact (hK0 _ _ _).mp (J49 6 0 0 v27na0_4 v27na0_5 v27na0_6 v27na0_7 v27na0_8 v27na0_9 v27na0_10 1 v27nfa0_12 _ _ _ (by first | decide +kernel | (have h1 : (0 : Int) ≤ (0 : Int32).toInt := zq5; have h2 : (0 : Int32).toInt ≤ (0 : Int) := zq6; omega)) zq5 (Int.le_trans zq6 zq224) zq5 (Int.le_trans zq6 zq81) bv27na0_5.1 bv27na0_5.2 bv27na0_8.1 bv27na0_8.2 (Int.le_trans zq4 zq1) zq0 (by omega) ⟨(Int.le_trans zq5 (Int.le_of_eq (congrArg Int32.toInt h27).symm)), (Int.le_trans (Int.le_trans (Int.le_of_eq (congrArg Int32.toInt h27)) zq6) zq20)⟩ ⟨zq5, (Int.le_trans zq6 zq81)⟩ (by rw [show (0 : Int32).toInt = 0 from by decide, show (1 : Int32).toInt = 1 from by decide]; exact hF0) hP hD hS (lv_sub hl [4, 3, 2, 1, 0] rfl))
  · obtain ⟨hw, h27⟩ := hw
    subst hw
    have hF0 := hF0.trans (if_neg (by decide))
    refine lv_istore_n (lv' := [(2, .int r27), (1, .int x19), (0, .ref a0)]) hx hb dX8_seenLine_30 rfl hl (by decide) rfl (fun ls hl => ?_)
    refine lv_aload_n hx hb dX8_seenLine_31 rfl (lv_at hl 2 rfl) ?_
    refine va_ldcS hx hb hown (sxc_R35 hE0) dX8_seenLine_32 ?_
    refine zc_cutc (wc := [(a0, .inr (8, [a0g_0, Value.ref a0_1, a0g_2, Value.int a0_3, Value.int v27na0_4, Value.int v27na0_5, Value.int v27na0_6, Value.int v27na0_7, Value.int v27na0_8, Value.int v27na0_9, Value.int v27na0_10, a0g_11, Value.ref a0_12, Value.int 0, a0g_14, a0g_15, Value.ref a0_16, a0g_17, a0g_18, a0g_19, a0g_20, a0g_21, a0g_22, a0g_23, a0g_24, a0g_25, a0g_26, a0g_27, a0g_28, a0g_29, a0g_30, a0g_31, a0g_32, a0g_33, a0g_34, a0g_35, a0g_36, a0g_37, a0g_38, a0g_39])), (a0_12, .inl (ka0_12, 8, .inl (v27nfa0_12))), (a0_1, .inl (ka0_1, 900, .inl (fa0_1)))]) hP hD hS hA [0, 3, 2] (by decide +kernel) rfl (fun hPc hDc hFc hCc => ?_)
    have hKc := hK.sub (tys' := [(ka0_12, .int), (ka0_1, .int)]) [2, 1] rfl
    refine va_callv (va_runV (As := [.ref (ad 35)]) (rest := []) ⟨hx, hb, hml, hown, hts⟩ (fG_X8_must l dC dI H.size a0 (ad 35) a0g_0 a0g_2 a0g_11 a0g_14 a0g_15 (Value.ref a0_16) a0g_17 a0g_18 a0g_19 a0g_20 a0g_21 a0g_22 a0g_23 a0g_24 a0g_25 a0g_26 a0g_27 a0g_28 a0g_29 a0g_30 a0g_31 a0g_32 a0g_33 a0g_34 a0g_35 a0g_36 a0g_37 a0g_38 a0g_39 a0_1 a0_3 v27na0_4 v27na0_5 v27na0_6 v27na0_7 v27na0_8 v27na0_9 v27na0_10 a0_12 ka0_12 v27nfa0_12 ka0_1 fa0_1 2 (sxc 35) ba0_3_l ba0_3_u bv27na0_5.1 bv27na0_5.2 bv27na0_8.1 bv27na0_8.2) (cwV 1 hts gX8_seenLine_X8_must rfl rfl rfl zd_X8_must ⟨Nat.le_of_ble_eq_true rfl, Nat.le_of_ble_eq_true rfl⟩) ⟨ax_blind (fun _ _ _ _ hq => sxc_W_same _ _ _ _ (hq)), zr_8 hKc hPc (q0 := 0) rfl, ax_preE hPc hKc hDc (fun U hU hW => sxc_W_to (sxc_T_w hE0 (i := 35) (by decide)) hS.2.1 hFc hU hW)⟩ rfl rfl hl.1 rfl (lv_room (Nat.le_of_ble_eq_true rfl)) dX8_seenLine_34 ⟨Nat.le_of_ble_eq_true rfl, Nat.le_of_ble_eq_true rfl⟩) hS (fun q _ h => hFc q h) hFc (fun u t H locs ht hvm hw => zx_9 (fun v34na0_4 v34na0_5 v34na0_6 v34na0_7 v34na0_8 v34na0_9 v34na0_10 v34na0_13 v34nfa0_12 => zy_6 (fun bv34na0_5 bv34na0_8 bv34na0_13 hraw34_0 hraw34_1 hraw34_2 hB hz1 hk1 hS1 => zo hB ht hS1 (fun hP1 hK1 hD1 hS => ?_))))
    refine zc_backc (w := [(a0, .inr (8, [a0g_0, Value.ref a0_1, a0g_2, Value.int a0_3, Value.int v34na0_4, Value.int v34na0_5, Value.int v34na0_6, Value.int v34na0_7, Value.int v34na0_8, Value.int v34na0_9, Value.int v34na0_10, a0g_11, Value.ref a0_12, Value.int v34na0_13, a0g_14, a0g_15, Value.ref a0_16, a0g_17, a0g_18, a0g_19, a0g_20, a0g_21, a0g_22, a0g_23, a0g_24, a0g_25, a0g_26, a0g_27, a0g_28, a0g_29, a0g_30, a0g_31, a0g_32, a0g_33, a0g_34, a0g_35, a0g_36, a0g_37, a0g_38, a0g_39])), (a0_16, .inl (ka0_16, 156, .inl (fa0_16))), (a0_1, .inl (ka0_1, 900, .inl (fa0_1))), (a0_12, .inl (ka0_12, 8, .inl (v34nfa0_12)))]) hP hD hCc hk1 hFc hP1 hD1 [.inr 0, .inl 1, .inr 2, .inr 1] (by decide +kernel) rfl (fun hP hD => ?_)
    rw [show ((2 : Nat) : Int) = 2 from rfl] at hraw34_2
    have hc34 : FfG_X8_must a0_3.toInt v27na0_4.toInt v27na0_5.toInt v27na0_6.toInt v27na0_7.toInt v27na0_8.toInt v27na0_9.toInt v27na0_10.toInt (fl_A v27nfa0_12) (fl_A fa0_1) 2 (fl_A (sxc 35)) = (v34na0_4.toInt, v34na0_5.toInt, v34na0_6.toInt, v34na0_7.toInt, v34na0_8.toInt, v34na0_9.toInt, v34na0_10.toInt, v34na0_13.toInt, (fl_A v34nfa0_12)) := hraw34_2
    have hF0 := hF0.trans (fl_c9_eq hc34)
    rcases hraw34_0 with hf34 | hf34
    · subst hf34
      have hF0 := hF0.trans (if_pos (by decide))
      refine lv_aload_n hx hb dX8_seenLine_37 rfl (lv_at hl 2 rfl) ?_
      refine lv_iconst (v := 0) hx hb dX8_seenLine_38 zk_iconst_0 ?_
      refine lv_sipush (v := 999) hx hb dX8_seenLine_39 zk_sipush_999 ?_
      refine va_calli (va_runV (As := [.int 0, .int 999]) (rest := []) ⟨hx, hb, hml, hown, hts⟩ (fF_X8_numberHere l dC dI H.size a0 0 999 a0g_0 (Value.ref a0_1) a0g_2 (Value.int a0_3) (Value.int v34na0_4) (Value.int v34na0_5) (Value.int v34na0_6) (Value.int v34na0_7) (Value.int v34na0_8) (Value.int v34na0_9) (Value.int v34na0_10) a0g_11 (Value.ref a0_12) a0g_14 a0g_15 (Value.ref a0_16) a0g_17 a0g_18 a0g_19 a0g_20 a0g_21 a0g_22 a0g_23 a0g_24 a0g_25 a0g_26 a0g_27 a0g_28 a0g_29 a0g_30 a0g_31 a0g_32 a0g_33 a0g_34 a0g_35 a0g_36 a0g_37 a0g_38 a0g_39 ) (cwV 2 hts gX8_seenLine_X8_numberHere rfl rfl rfl zd_X8_numberHere ⟨Nat.le_of_ble_eq_true rfl, Nat.le_of_ble_eq_true rfl⟩) ⟨ax_blind (fun _ _ _ _ _ => trivial), zr_8 (zp_K hK) (zp_P1 hP) (q0 := 0) rfl, ax_pre (zp_P1 hP) (zp_K hK) (zp_D1 hD) (fun _ _ => trivial)⟩ rfl rfl hl.1 rfl (lv_room (Nat.le_of_ble_eq_true rfl)) dX8_seenLine_42 ⟨Nat.le_of_ble_eq_true rfl, Nat.le_of_ble_eq_true rfl⟩) hS (fun q _ h => zp_F1 hD hS hA q h) (zp_F1 hD hS hA) (fun r42 u t H locs ht hvm hw hB hz1 hk1 hS1 => zo1 hB ht hP hD hk1 (zp_F1 hD hS hA) hS1 (fun hP hK1 hD hS => ?_))
      obtain ⟨hw, hfr42⟩ := hw
      rw [show (0 : Int32).toInt = 0 from by decide] at hfr42
      have hc42 : FfF_X8_numberHere 0 = r42.toInt := hfr42.symm
      have hF0 := hF0.trans (fl_lt_eq hc42.symm)
      have hw : r42 = 0 := hw
      have hw := hw.symm
      subst hw
      refine lv_istore_n (lv' := [(3, .int 0), (2, .int r27), (1, .int x19), (0, .ref a0)]) hx hb dX8_seenLine_45 rfl hl (by decide) rfl (fun ls hl => ?_)
      refine lv_iconst (v := 0) hx hb dX8_seenLine_46 zk_iconst_0 ?_
      refine lv_istore (lv' := [(4, .int 0), (3, .int 0), (2, .int r27), (1, .int x19), (0, .ref a0)]) hx hb dX8_seenLine_47 hl (by decide) rfl (fun ls hl => ?_)
      have J49 : ∀ (n : Nat) (j49l4 : Int32) (j49l3 : Int32) (j49a0_4 : Int32) (j49a0_5 : Int32) (j49a0_6 : Int32) (j49a0_7 : Int32) (j49a0_8 : Int32) (j49a0_9 : Int32) (j49a0_10 : Int32) (j49a0_13 : Int32) (j49a0_12_a : Nat → Int32) (H : Heap) (locs : List Loc) (ls : Array Slot), (6 : Int) - j49l4.toInt ≤ (n : Int) → (0 : Int) ≤ j49l4.toInt → j49l4.toInt ≤ (5 : Int) → (0 : Int) ≤ j49l3.toInt → j49l3.toInt ≤ (999 : Int) → (0 : Int) ≤ j49a0_5.toInt → j49a0_5.toInt ≤ (900 : Int) → (0 : Int) ≤ j49a0_8.toInt → j49a0_8.toInt ≤ (900 : Int) → (0 : Int) ≤ j49a0_13.toInt → j49a0_13.toInt ≤ (1 : Int) → (a0_5.toInt ≤ j49a0_5.toInt ∧ ((j49a0_5.toInt = a0_5.toInt ∧ j49a0_6.toInt = a0_6.toInt) ∨ j49a0_6.toInt ≠ 59 ∨ a0_5.toInt < j49a0_5.toInt)) → ((0 : Int) ≤ r27.toInt ∧ r27.toInt ≤ 8) → ((0 : Int) ≤ j49l3.toInt ∧ j49l3.toInt ≤ 999) → (FX = fl_wh (fun t9 => SfG_X8_seenLine_49_2 a0_3.toInt (fl_A fa0_16) (fl_A fa0_1) x19.toInt r27.toInt t9.1 t9.2.1 t9.2.2.1 t9.2.2.2.1 t9.2.2.2.2.1 t9.2.2.2.2.2.1 t9.2.2.2.2.2.2.1 t9.2.2.2.2.2.2.2.1 t9.2.2.2.2.2.2.2.2.1 t9.2.2.2.2.2.2.2.2.2.1 t9.2.2.2.2.2.2.2.2.2.2) (0, 0, 0, 0, 0, 0, 0, 0, (fun _ => 0), (fun _ => 0)) n (j49l4.toInt, j49l3.toInt, j49a0_4.toInt, j49a0_5.toInt, j49a0_6.toInt, j49a0_7.toInt, j49a0_8.toInt, j49a0_9.toInt, j49a0_10.toInt, j49a0_13.toInt, (fl_A j49a0_12_a))) → va_P (dC, dI) vwCl [(a0, .inr (8, [a0g_0, Value.ref a0_1, a0g_2, Value.int a0_3, Value.int j49a0_4, Value.int j49a0_5, Value.int j49a0_6, Value.int j49a0_7, Value.int j49a0_8, Value.int j49a0_9, Value.int j49a0_10, a0g_11, Value.ref a0_12, Value.int j49a0_13, a0g_14, a0g_15, Value.ref a0_16, a0g_17, a0g_18, a0g_19, a0g_20, a0g_21, a0g_22, a0g_23, a0g_24, a0g_25, a0g_26, a0g_27, a0g_28, a0g_29, a0g_30, a0g_31, a0g_32, a0g_33, a0g_34, a0g_35, a0g_36, a0g_37, a0g_38, a0g_39])), (a0_16, .inl (ka0_16, 156, .inl (fa0_16))), (a0_1, .inl (ka0_1, 900, .inl (fa0_1))), (a0_12, .inl (ka0_12, 8, .inl (j49a0_12_a)))] H → va_D A [(a0, .inr (8, [a0g_0, Value.ref a0_1, a0g_2, Value.int a0_3, Value.int j49a0_4, Value.int j49a0_5, Value.int j49a0_6, Value.int j49a0_7, Value.int j49a0_8, Value.int j49a0_9, Value.int j49a0_10, a0g_11, Value.ref a0_12, Value.int j49a0_13, a0g_14, a0g_15, Value.ref a0_16, a0g_17, a0g_18, a0g_19, a0g_20, a0g_21, a0g_22, a0g_23, a0g_24, a0g_25, a0g_26, a0g_27, a0g_28, a0g_29, a0g_30, a0g_31, a0g_32, a0g_33, a0g_34, a0g_35, a0g_36, a0g_37, a0g_38, a0g_39])), (a0_16, .inl (ka0_16, 156, .inl (fa0_16))), (a0_1, .inl (ka0_1, 900, .inl (fa0_1))), (a0_12, .inl (ka0_12, 8, .inl (j49a0_12_a)))] → va_S A s.heap H locs → lv_has ls 5 [(0, .ref a0), (1, .int x19), (2, .int r27), (3, .int j49l3), (4, .int j49l4)] → K H locs (F0 m 49 ls []) := by
        intro n
        induction n with
        | zero =>
          intro j49l4 j49l3 j49a0_4 j49a0_5 j49a0_6 j49a0_7 j49a0_8 j49a0_9 j49a0_10 j49a0_13 j49a0_12_a H locs ls hm bj49l4_l bj49l4_u bj49l3_l bj49l3_u bj49a0_5_l bj49a0_5_u bj49a0_8_l bj49a0_8_u bj49a0_13_l bj49a0_13_u em49 wa49 wb49 hF0 hP hD hS hl
          first | exact zg_0 hm bj49l4_u (by decide) | (have h8 := ai_min j49l4; have h9 := ai_max j49l4; exact absurd hm (by omega))
        | succ n ih49 =>
          intro j49l4 j49l3 j49a0_4 j49a0_5 j49a0_6 j49a0_7 j49a0_8 j49a0_9 j49a0_10 j49a0_13 j49a0_12_a H locs ls hm bj49l4_l bj49l4_u bj49l3_l bj49l3_u bj49a0_5_l bj49a0_5_u bj49a0_8_l bj49a0_8_u bj49a0_13_l bj49a0_13_u em49 wa49 wb49 hF0 hP hD hS hl
          refine (hK0 _ _ _).mpr ?_
          have hm49 := hm
          obtain ⟨SX49, hSX49⟩ : ∃ q9, SfG_X8_seenLine_49_2 a0_3.toInt (fl_A fa0_16) (fl_A fa0_1) x19.toInt r27.toInt j49l4.toInt j49l3.toInt j49a0_4.toInt j49a0_5.toInt j49a0_6.toInt j49a0_7.toInt j49a0_8.toInt j49a0_9.toInt j49a0_10.toInt j49a0_13.toInt (fl_A j49a0_12_a) = q9 := ⟨_, rfl⟩
          have hF1 := hSX49.symm.trans (SfG_X8_seenLine_49_2.eq_1 a0_3.toInt (fl_A fa0_16) (fl_A fa0_1) x19.toInt r27.toInt j49l4.toInt j49l3.toInt j49a0_4.toInt j49a0_5.toInt j49a0_6.toInt j49a0_7.toInt j49a0_8.toInt j49a0_9.toInt j49a0_10.toInt j49a0_13.toInt (fl_A j49a0_12_a))
          have hv49 : j49a0_13 = 0 ∨ j49a0_13 = 1 := by
            have h1 : (0 : Int) ≤ j49a0_13.toInt := bj49a0_13_l
            have h2 : j49a0_13.toInt ≤ (1 : Int) := bj49a0_13_u
            rcases (show j49a0_13.toInt = 0 ∨ j49a0_13.toInt = 1 by omega) with h | h
            · exact Or.inl (Int32.toInt_inj.mp (h.trans (by decide)))
            · exact Or.inr (Int32.toInt_inj.mp (h.trans (by decide)))
          rcases hv49 with hv49 | hv49
          · subst hv49
            have hF1 := hF1.trans (if_pos (by decide))
            refine lv_iload hx hb dX8_seenLine_49 (lv_at hl 4 rfl) ?_
            refine lv_aload_n hx hb dX8_seenLine_51 rfl (lv_at hl 0 rfl) ?_
            refine va_get (D := (dC, dI)) (ci := 8) (v := .ref a0_16) (C := RX8) (T := TX8) (N := 40) hx hb hts zi_X8_seenLine_8 hown hK hP 0 rfl rfl 16 (by decide) (hts (.fieldLink RX8 23 "WaxTurnsModel" "fresh" "[I") (zm_X8_seenLine_r1 (List.mem_of_getElem? (i := 1) rfl))) (fun _ h9 => h9) rfl dX8_seenLine_52 ?_
            refine lv_bipush (v := 6) hx hb dX8_seenLine_55 zk_bipush_6 ?_
            refine va_iald hx hb hK hP 1 0 rfl rfl (by unfold vp_in; decide +kernel) dX8_seenLine_57 ?_
            refine lv_topi (fun x57 ex57 => ?_)
            have bx57 : (0 : Int) ≤ x57.toInt ∧ x57.toInt ≤ 6 := by rw [ex57]; exact ai_rd bfa0_16.2.2.2.2.2.2.1 zq15 zq16 (by decide) (by decide) (by decide)
            have fqx57 := congrArg Int32.toInt ex57
            have hF1 := hF1.trans (fl_lt_eq (show x57.toInt = (fl_A fa0_16) (6) from fqx57))
            have u57z_x57 : x57.toInt ≤ (5 : Int) := fg_le (m := 6) ex57 h6
            refine lv_icmp_ge (tgt := 101) hx hb dX8_seenLine_58 (by decide) (fun c58 => ?_) (fun c58 => ?_)
            · have gc58 := ai_le c58
              have u58t_x57 : x57.toInt ≤ (5 : Int) := u57z_x57
              have l58t_j49l4 : (0 : Int) ≤ j49l4.toInt := bj49l4_l
              have hF1 := hF1.trans (if_pos (show x57.toInt ≤ j49l4.toInt from gc58))
              have hF0 := hF0.trans (fl_wh_r (hSX49.trans hF1))
              refine lv_aload_n hx hb dX8_seenLine_101 rfl (lv_at hl 0 rfl) ?_
              refine zc_cutc (wc := [(a0, .inr (8, [a0g_0, Value.ref a0_1, a0g_2, Value.int a0_3, Value.int j49a0_4, Value.int j49a0_5, Value.int j49a0_6, Value.int j49a0_7, Value.int j49a0_8, Value.int j49a0_9, Value.int j49a0_10, a0g_11, Value.ref a0_12, Value.int 0, a0g_14, a0g_15, Value.ref a0_16, a0g_17, a0g_18, a0g_19, a0g_20, a0g_21, a0g_22, a0g_23, a0g_24, a0g_25, a0g_26, a0g_27, a0g_28, a0g_29, a0g_30, a0g_31, a0g_32, a0g_33, a0g_34, a0g_35, a0g_36, a0g_37, a0g_38, a0g_39])), (a0_1, .inl (ka0_1, 900, .inl (fa0_1))), (a0_12, .inl (ka0_12, 8, .inl (j49a0_12_a)))]) hP hD hS hA [0, 2, 3] (by decide +kernel) rfl (fun hPc hDc hFc hCc => ?_)
              have hKc := hK.sub (tys' := [(ka0_1, .int), (ka0_12, .int)]) [1, 2] rfl
              refine va_callv (va_runV (As := []) (rest := []) ⟨hx, hb, hml, hown, hts⟩ (fG_X8_pass l dC dI H.size a0 a0g_0 a0g_2 (Value.int j49a0_9) (Value.int j49a0_10) a0g_11 a0g_14 a0g_15 (Value.ref a0_16) a0g_17 a0g_18 a0g_19 a0g_20 a0g_21 a0g_22 a0g_23 a0g_24 a0g_25 a0g_26 a0g_27 a0g_28 a0g_29 a0g_30 a0g_31 a0g_32 a0g_33 a0g_34 a0g_35 a0g_36 a0g_37 a0g_38 a0g_39 a0_1 a0_3 j49a0_4 j49a0_5 j49a0_6 j49a0_7 j49a0_8 a0_12 ka0_1 fa0_1 ka0_12 j49a0_12_a ba0_3_l ba0_3_u bj49a0_5_l bj49a0_5_u bj49a0_8_l bj49a0_8_u) (cwV 0 hts gX8_seenLine_X8_pass rfl rfl rfl zd_X8_pass ⟨Nat.le_of_ble_eq_true rfl, Nat.le_of_ble_eq_true rfl⟩) ⟨ax_blind (fun _ _ _ _ _ => trivial), zr_8 hKc hPc (q0 := 0) rfl, ax_pre hPc hKc hDc (fun _ _ => trivial)⟩ rfl rfl hl.1 rfl (lv_room (Nat.le_of_ble_eq_true rfl)) dX8_seenLine_102 ⟨Nat.le_of_ble_eq_true rfl, Nat.le_of_ble_eq_true rfl⟩) hS (fun q _ h => hFc q h) hFc (fun u t H locs ht hvm hw => zx_6 (fun v102na0_4 v102na0_5 v102na0_6 v102na0_7 v102na0_8 v102nfa0_12 => zy_5 (fun bv102na0_5 bv102na0_8 hraw102_0 hraw102_1 hraw102_2 hB hz1 hk1 hS1 => zo hB ht hS1 (fun hP1 hK1 hD1 hS => ?_))))
              refine zc_backc (w := [(a0, .inr (8, [a0g_0, Value.ref a0_1, a0g_2, Value.int a0_3, Value.int v102na0_4, Value.int v102na0_5, Value.int v102na0_6, Value.int v102na0_7, Value.int v102na0_8, Value.int j49a0_9, Value.int j49a0_10, a0g_11, Value.ref a0_12, Value.int 0, a0g_14, a0g_15, Value.ref a0_16, a0g_17, a0g_18, a0g_19, a0g_20, a0g_21, a0g_22, a0g_23, a0g_24, a0g_25, a0g_26, a0g_27, a0g_28, a0g_29, a0g_30, a0g_31, a0g_32, a0g_33, a0g_34, a0g_35, a0g_36, a0g_37, a0g_38, a0g_39])), (a0_16, .inl (ka0_16, 156, .inl (fa0_16))), (a0_1, .inl (ka0_1, 900, .inl (fa0_1))), (a0_12, .inl (ka0_12, 8, .inl (v102nfa0_12)))]) hP hD hCc hk1 hFc hP1 hD1 [.inr 0, .inl 1, .inr 1, .inr 2] (by decide +kernel) rfl (fun hP hD => ?_)
              have hc102 : FfG_X8_pass a0_3.toInt j49a0_5.toInt (fl_A fa0_1) (fl_A j49a0_12_a) = (v102na0_4.toInt, v102na0_5.toInt, v102na0_6.toInt, v102na0_7.toInt, v102na0_8.toInt, (fl_A v102nfa0_12)) := hraw102_2
              have hF0 := hF0.trans (fl_c6_eq hc102)
              refine lv_aload_n hx hb dX8_seenLine_105 rfl (lv_at hl 0 rfl) ?_
              refine va_get (D := (dC, dI)) (ci := 8) (v := .int 0) (C := RX8) (T := TX8) (N := 40) hx hb hts zi_X8_seenLine_8 hown hK hP 0 rfl rfl 13 (by decide) (hts (.fieldLink RX8 97 "WaxTurnsModel" "failed" "Z") (zm_X8_seenLine_r1 (List.mem_of_getElem? (i := 0) rfl))) (fun _ h9 => h9) rfl dX8_seenLine_106 ?_
              refine lv_if_eq (tgt := 113) hx hb dX8_seenLine_109 (by decide) (fun _ => ?_) (fun c109 => absurd (by decide +kernel) c109)
              refine lv_aload_n hx hb dX8_seenLine_113 rfl (lv_at hl 0 rfl) ?_
              refine va_get (D := (dC, dI)) (ci := 8) (v := .ref a0_16) (C := RX8) (T := TX8) (N := 40) hx hb hts zi_X8_seenLine_8 hown hK hP 0 rfl rfl 16 (by decide) (hts (.fieldLink RX8 23 "WaxTurnsModel" "fresh" "[I") (zm_X8_seenLine_r1 (List.mem_of_getElem? (i := 1) rfl))) (fun _ h9 => h9) rfl dX8_seenLine_114 ?_
              refine lv_iload_n hx hb dX8_seenLine_117 rfl (lv_at hl 1 rfl) ?_
              refine lv_iload_n hx hb dX8_seenLine_118 rfl (lv_at hl 2 rfl) ?_
              refine va_iast hx hb hK hP hD hS 1 0 rfl rfl (ai_in bx19.1 bx19.2 (by decide) (by decide)) dX8_seenLine_119 (fun H locs hP hD hS => ?_)
              obtain ⟨f119, ef119⟩ : ∃ g9 : Nat → Int32, g9 = upd fa0_16 (x19 : Int32).toNatClampNeg r27 := ⟨_, rfl⟩
              refine zs_1 (y := (a0_16, .inl (ka0_16, 156, .inl (f119)))) hP hD (by rw [ef119]) (fun hP hD => ?_)
              have bf119 : ((∀ k : Nat, 0 ≤ k → k ≤ 0 → (0 : Int) ≤ (f119 k).toInt ∧ (f119 k).toInt ≤ 9) ∧ (∀ k : Nat, 1 ≤ k → k ≤ 1 → (0 : Int) ≤ (f119 k).toInt ∧ (f119 k).toInt ≤ 20) ∧ (∀ k : Nat, 2 ≤ k → k ≤ 2 → (0 : Int) ≤ (f119 k).toInt ∧ (f119 k).toInt ≤ 8) ∧ (∀ k : Nat, 3 ≤ k → k ≤ 3 → (0 : Int) ≤ (f119 k).toInt ∧ (f119 k).toInt ≤ 100) ∧ (∀ k : Nat, 4 ≤ k → k ≤ 4 → (0 : Int) ≤ (f119 k).toInt ∧ (f119 k).toInt ≤ 9) ∧ (∀ k : Nat, 5 ≤ k → k ≤ 5 → (0 : Int) ≤ (f119 k).toInt ∧ (f119 k).toInt ≤ 3) ∧ (∀ k : Nat, 6 ≤ k → k ≤ 6 → (0 : Int) ≤ (f119 k).toInt ∧ (f119 k).toInt ≤ 6) ∧ (∀ k : Nat, 7 ≤ k → k ≤ 9 → (0 : Int) ≤ (f119 k).toInt ∧ (f119 k).toInt ≤ 8) ∧ (∀ k : Nat, 10 ≤ k → k ≤ 11 → (0 : Int) ≤ (f119 k).toInt ∧ (f119 k).toInt ≤ 1) ∧ (∀ k : Nat, 12 ≤ k → k ≤ 29 → (0 : Int) ≤ (f119 k).toInt ∧ (f119 k).toInt ≤ 20) ∧ (∀ k : Nat, 30 ≤ k → k ≤ 35 → (0 : Int) ≤ (f119 k).toInt ∧ (f119 k).toInt ≤ 8) ∧ (∀ k : Nat, 36 ≤ k → k ≤ 47 → (0 : Int) ≤ (f119 k).toInt ∧ (f119 k).toInt ≤ 999) ∧ (∀ k : Nat, 48 ≤ k → k ≤ 59 → (0 : Int) ≤ (f119 k).toInt ∧ (f119 k).toInt ≤ 8) ∧ ((1 : Int) ≤ (f119 11).toInt → (2 : Int) ≤ (f119 0).toInt ∧ (1 : Int) ≤ (f119 1).toInt) ∧ (∀ (j i0 i : Int32), (0 : Int) ≤ j.toInt → j.toInt ≤ 8 → i0.toInt = 12 + 2 * j.toInt → i.toInt = 13 + 2 * j.toInt → (f119 i0.toNatClampNeg).toInt = (1 : Int32).toInt → (1 : Int) ≤ (f119 i.toNatClampNeg).toInt)) := by rw [ef119]; exact ⟨ai_updO bfa0_16.1 _ (Or.inr (ai_ngt_of bx19.1 (by decide) (by decide))), ai_updO bfa0_16.2.1 _ (Or.inr (ai_ngt_of bx19.1 (by decide) (by decide))), ai_updO bfa0_16.2.2.1 _ (Or.inr (ai_ngt_of bx19.1 (by decide) (by decide))), ai_updO bfa0_16.2.2.2.1 _ (Or.inr (ai_ngt_of bx19.1 (by decide) (by decide))), ai_updO bfa0_16.2.2.2.2.1 _ (Or.inr (ai_ngt_of bx19.1 (by decide) (by decide))), ai_updO bfa0_16.2.2.2.2.2.1 _ (Or.inr (ai_ngt_of bx19.1 (by decide) (by decide))), ai_updO bfa0_16.2.2.2.2.2.2.1 _ (Or.inr (ai_ngt_of bx19.1 (by decide) (by decide))), ai_updO bfa0_16.2.2.2.2.2.2.2.1 _ (Or.inr (ai_ngt_of bx19.1 (by decide) (by decide))), ai_updO bfa0_16.2.2.2.2.2.2.2.2.1 _ (Or.inr (ai_ngt_of bx19.1 (by decide) (by decide))), ai_updO bfa0_16.2.2.2.2.2.2.2.2.2.1 _ (Or.inr (ai_ngt_of bx19.1 (by decide) (by decide))), ai_updO bfa0_16.2.2.2.2.2.2.2.2.2.2.1 _ (Or.inr (ai_ngt_of bx19.1 (by decide) (by decide))), ai_updS bfa0_16.2.2.2.2.2.2.2.2.2.2.2.1 _ ⟨wa49.1, (Int.le_trans wa49.2 zq189)⟩, ai_updO bfa0_16.2.2.2.2.2.2.2.2.2.2.2.2.1 _ (Or.inl (ai_nlt_of bx19.1 bx19.2 (by decide) (by decide))), fg_o bfa0_16.2.2.2.2.2.2.2.2.2.2.2.2.2.1 (by have h1 := ai_natge (n := 36) bx19.1 (by decide); have h2 := ai_natle (n := 46) bx19.2 (by decide); omega), fg_ko bfa0_16.2.2.2.2.2.2.2.2.2.2.2.2.2.2 (by have h1 := ai_natge (n := 36) bx19.1 (by decide); have h2 := ai_natle (n := 46) bx19.2 (by decide); omega)⟩
              have fqf119 := fl_up_eq ef119
              have hF0 := hF0.trans (fl_lt_eq (show (fl_A f119) = fl_up (fl_A fa0_16) (x19.toInt.toNat) r27.toInt from fqf119))
              refine lv_aload_n hx hb dX8_seenLine_120 rfl (lv_at hl 0 rfl) ?_
              refine va_get (D := (dC, dI)) (ci := 8) (v := .ref a0_16) (C := RX8) (T := TX8) (N := 40) hx hb hts zi_X8_seenLine_8 hown hK hP 0 rfl rfl 16 (by decide) (hts (.fieldLink RX8 23 "WaxTurnsModel" "fresh" "[I") (zm_X8_seenLine_r1 (List.mem_of_getElem? (i := 1) rfl))) (fun _ h9 => h9) rfl dX8_seenLine_121 ?_
              refine lv_iload_n hx hb dX8_seenLine_124 rfl (lv_at hl 1 rfl) ?_
              refine lv_iconst (v := 1) hx hb dX8_seenLine_125 zk_iconst_1 ?_
              refine lv_iadd hx hb dX8_seenLine_126 ?_
              refine lv_topi (fun x126 ex126 => ?_)
              have qx126 : x126.toInt = x19.toInt + (1 : Int32).toInt := ai_add ex126 ⟨bx19.1, bx19.2⟩ ⟨zq1, zq0⟩ (by decide) (by decide)
              have bx126 : (37 : Int) ≤ x126.toInt ∧ x126.toInt ≤ 47 := ⟨by rw [qx126]; exact Int.add_le_add bx19.1 zq1, by rw [qx126]; exact Int.add_le_add bx19.2 zq0⟩
              have wx126 : x126.toInt = x19.toInt + 1 := qx126
              have hF0 := hF0.trans (fl_lt_eq (show x126.toInt = x19.toInt + 1 from qx126))
              refine lv_iload_n hx hb dX8_seenLine_127 rfl (lv_at hl 3 rfl) ?_
              refine va_iast hx hb hK hP hD hS 1 0 rfl rfl (ai_in bx126.1 bx126.2 (by decide) (by decide)) dX8_seenLine_128 (fun H locs hP hD hS => ?_)
              obtain ⟨f128, ef128⟩ : ∃ g9 : Nat → Int32, g9 = upd f119 (x126 : Int32).toNatClampNeg j49l3 := ⟨_, rfl⟩
              refine zs_1 (y := (a0_16, .inl (ka0_16, 156, .inl (f128)))) hP hD (by rw [ef128]) (fun hP hD => ?_)
              have bf128 : ((∀ k : Nat, 0 ≤ k → k ≤ 0 → (0 : Int) ≤ (f128 k).toInt ∧ (f128 k).toInt ≤ 9) ∧ (∀ k : Nat, 1 ≤ k → k ≤ 1 → (0 : Int) ≤ (f128 k).toInt ∧ (f128 k).toInt ≤ 20) ∧ (∀ k : Nat, 2 ≤ k → k ≤ 2 → (0 : Int) ≤ (f128 k).toInt ∧ (f128 k).toInt ≤ 8) ∧ (∀ k : Nat, 3 ≤ k → k ≤ 3 → (0 : Int) ≤ (f128 k).toInt ∧ (f128 k).toInt ≤ 100) ∧ (∀ k : Nat, 4 ≤ k → k ≤ 4 → (0 : Int) ≤ (f128 k).toInt ∧ (f128 k).toInt ≤ 9) ∧ (∀ k : Nat, 5 ≤ k → k ≤ 5 → (0 : Int) ≤ (f128 k).toInt ∧ (f128 k).toInt ≤ 3) ∧ (∀ k : Nat, 6 ≤ k → k ≤ 6 → (0 : Int) ≤ (f128 k).toInt ∧ (f128 k).toInt ≤ 6) ∧ (∀ k : Nat, 7 ≤ k → k ≤ 9 → (0 : Int) ≤ (f128 k).toInt ∧ (f128 k).toInt ≤ 8) ∧ (∀ k : Nat, 10 ≤ k → k ≤ 11 → (0 : Int) ≤ (f128 k).toInt ∧ (f128 k).toInt ≤ 1) ∧ (∀ k : Nat, 12 ≤ k → k ≤ 29 → (0 : Int) ≤ (f128 k).toInt ∧ (f128 k).toInt ≤ 20) ∧ (∀ k : Nat, 30 ≤ k → k ≤ 35 → (0 : Int) ≤ (f128 k).toInt ∧ (f128 k).toInt ≤ 8) ∧ (∀ k : Nat, 36 ≤ k → k ≤ 47 → (0 : Int) ≤ (f128 k).toInt ∧ (f128 k).toInt ≤ 999) ∧ (∀ k : Nat, 48 ≤ k → k ≤ 59 → (0 : Int) ≤ (f128 k).toInt ∧ (f128 k).toInt ≤ 8) ∧ ((1 : Int) ≤ (f128 11).toInt → (2 : Int) ≤ (f128 0).toInt ∧ (1 : Int) ≤ (f128 1).toInt) ∧ (∀ (j i0 i : Int32), (0 : Int) ≤ j.toInt → j.toInt ≤ 8 → i0.toInt = 12 + 2 * j.toInt → i.toInt = 13 + 2 * j.toInt → (f128 i0.toNatClampNeg).toInt = (1 : Int32).toInt → (1 : Int) ≤ (f128 i.toNatClampNeg).toInt)) := by rw [ef128]; exact ⟨ai_updO bf119.1 _ (Or.inr (ai_ngt_of bx126.1 (by decide) (by decide))), ai_updO bf119.2.1 _ (Or.inr (ai_ngt_of bx126.1 (by decide) (by decide))), ai_updO bf119.2.2.1 _ (Or.inr (ai_ngt_of bx126.1 (by decide) (by decide))), ai_updO bf119.2.2.2.1 _ (Or.inr (ai_ngt_of bx126.1 (by decide) (by decide))), ai_updO bf119.2.2.2.2.1 _ (Or.inr (ai_ngt_of bx126.1 (by decide) (by decide))), ai_updO bf119.2.2.2.2.2.1 _ (Or.inr (ai_ngt_of bx126.1 (by decide) (by decide))), ai_updO bf119.2.2.2.2.2.2.1 _ (Or.inr (ai_ngt_of bx126.1 (by decide) (by decide))), ai_updO bf119.2.2.2.2.2.2.2.1 _ (Or.inr (ai_ngt_of bx126.1 (by decide) (by decide))), ai_updO bf119.2.2.2.2.2.2.2.2.1 _ (Or.inr (ai_ngt_of bx126.1 (by decide) (by decide))), ai_updO bf119.2.2.2.2.2.2.2.2.2.1 _ (Or.inr (ai_ngt_of bx126.1 (by decide) (by decide))), ai_updO bf119.2.2.2.2.2.2.2.2.2.2.1 _ (Or.inr (ai_ngt_of bx126.1 (by decide) (by decide))), ai_updS bf119.2.2.2.2.2.2.2.2.2.2.2.1 _ ⟨wb49.1, wb49.2⟩, ai_updO bf119.2.2.2.2.2.2.2.2.2.2.2.2.1 _ (Or.inl (ai_nlt_of bx126.1 bx126.2 (by decide) (by decide))), fg_o bf119.2.2.2.2.2.2.2.2.2.2.2.2.2.1 (by have h1 := ai_natge (n := 37) bx126.1 (by decide); have h2 := ai_natle (n := 47) bx126.2 (by decide); omega), fg_ko bf119.2.2.2.2.2.2.2.2.2.2.2.2.2.2 (by have h1 := ai_natge (n := 37) bx126.1 (by decide); have h2 := ai_natle (n := 47) bx126.2 (by decide); omega)⟩
              have fqf128 := fl_up_eq ef128
              have hF0 := hF0.trans (fl_lt_eq (show (fl_A f128) = fl_up (fl_A f119) (x126.toInt.toNat) j49l3.toInt from fqf128))
              refine lv_aload_n hx hb dX8_seenLine_129 rfl (lv_at hl 0 rfl) ?_
              refine va_get (D := (dC, dI)) (ci := 8) (v := .ref a0_16) (C := RX8) (T := TX8) (N := 40) hx hb hts zi_X8_seenLine_8 hown hK hP 0 rfl rfl 16 (by decide) (hts (.fieldLink RX8 23 "WaxTurnsModel" "fresh" "[I") (zm_X8_seenLine_r1 (List.mem_of_getElem? (i := 1) rfl))) (fun _ h9 => h9) rfl dX8_seenLine_130 ?_
              refine lv_bipush (v := 6) hx hb dX8_seenLine_133 zk_bipush_6 ?_
              refine lv_dup2_11 hx hb dX8_seenLine_135 rfl rfl ?_
              refine va_iald hx hb hK hP 1 0 rfl rfl (by unfold vp_in; decide +kernel) dX8_seenLine_136 ?_
              refine lv_topi (fun x136 ex136 => ?_)
              have bx136 : (0 : Int) ≤ x136.toInt ∧ x136.toInt ≤ 6 := by rw [ex136]; exact ai_rd bf128.2.2.2.2.2.2.1 zq15 zq16 (by decide) (by decide) (by decide)
              have fqx136 := congrArg Int32.toInt ex136
              have hF0 := hF0.trans (fl_lt_eq (show x136.toInt = (fl_A f128) (6) from fqx136))
              have u136z_x136 : x136.toInt ≤ (5 : Int) := fg_le (m := 6) ex136 (by have uef128 := fg_u ef128 (by omega) (m := 6) (by omega); rw [uef128]; have uef119 := fg_u ef119 (by omega) (m := 6) (by omega); rw [uef119]; exact h6)
              refine lv_iconst (v := 1) hx hb dX8_seenLine_137 zk_iconst_1 ?_
              refine lv_iadd hx hb dX8_seenLine_138 ?_
              refine lv_topi (fun x138 ex138 => ?_)
              have qx138 : x138.toInt = x136.toInt + (1 : Int32).toInt := ai_add ex138 ⟨bx136.1, u136z_x136⟩ ⟨zq1, zq0⟩ (by decide) (by decide)
              have bx138 : (1 : Int) ≤ x138.toInt ∧ x138.toInt ≤ 6 := ⟨by rw [qx138]; exact Int.add_le_add bx136.1 zq1, by rw [qx138]; exact Int.add_le_add u136z_x136 zq0⟩
              have wx138 : x138.toInt = x136.toInt + 1 := qx138
              have hF0 := hF0.trans (fl_lt_eq (show x138.toInt = x136.toInt + 1 from qx138))
              refine va_iast hx hb hK hP hD hS 1 0 rfl rfl (by unfold vp_in; decide +kernel) dX8_seenLine_139 (fun H locs hP hD hS => ?_)
              obtain ⟨f139, ef139⟩ : ∃ g9 : Nat → Int32, g9 = upd f128 (6 : Int32).toNatClampNeg x138 := ⟨_, rfl⟩
              refine zs_1 (y := (a0_16, .inl (ka0_16, 156, .inl (f139)))) hP hD (by rw [ef139]) (fun hP hD => ?_)
              have bf139 : ((∀ k : Nat, 0 ≤ k → k ≤ 0 → (0 : Int) ≤ (f139 k).toInt ∧ (f139 k).toInt ≤ 9) ∧ (∀ k : Nat, 1 ≤ k → k ≤ 1 → (0 : Int) ≤ (f139 k).toInt ∧ (f139 k).toInt ≤ 20) ∧ (∀ k : Nat, 2 ≤ k → k ≤ 2 → (0 : Int) ≤ (f139 k).toInt ∧ (f139 k).toInt ≤ 8) ∧ (∀ k : Nat, 3 ≤ k → k ≤ 3 → (0 : Int) ≤ (f139 k).toInt ∧ (f139 k).toInt ≤ 100) ∧ (∀ k : Nat, 4 ≤ k → k ≤ 4 → (0 : Int) ≤ (f139 k).toInt ∧ (f139 k).toInt ≤ 9) ∧ (∀ k : Nat, 5 ≤ k → k ≤ 5 → (0 : Int) ≤ (f139 k).toInt ∧ (f139 k).toInt ≤ 3) ∧ (∀ k : Nat, 6 ≤ k → k ≤ 6 → (0 : Int) ≤ (f139 k).toInt ∧ (f139 k).toInt ≤ 6) ∧ (∀ k : Nat, 7 ≤ k → k ≤ 9 → (0 : Int) ≤ (f139 k).toInt ∧ (f139 k).toInt ≤ 8) ∧ (∀ k : Nat, 10 ≤ k → k ≤ 11 → (0 : Int) ≤ (f139 k).toInt ∧ (f139 k).toInt ≤ 1) ∧ (∀ k : Nat, 12 ≤ k → k ≤ 29 → (0 : Int) ≤ (f139 k).toInt ∧ (f139 k).toInt ≤ 20) ∧ (∀ k : Nat, 30 ≤ k → k ≤ 35 → (0 : Int) ≤ (f139 k).toInt ∧ (f139 k).toInt ≤ 8) ∧ (∀ k : Nat, 36 ≤ k → k ≤ 47 → (0 : Int) ≤ (f139 k).toInt ∧ (f139 k).toInt ≤ 999) ∧ (∀ k : Nat, 48 ≤ k → k ≤ 59 → (0 : Int) ≤ (f139 k).toInt ∧ (f139 k).toInt ≤ 8) ∧ ((1 : Int) ≤ (f139 11).toInt → (2 : Int) ≤ (f139 0).toInt ∧ (1 : Int) ≤ (f139 1).toInt) ∧ (∀ (j i0 i : Int32), (0 : Int) ≤ j.toInt → j.toInt ≤ 8 → i0.toInt = 12 + 2 * j.toInt → i.toInt = 13 + 2 * j.toInt → (f139 i0.toNatClampNeg).toInt = (1 : Int32).toInt → (1 : Int) ≤ (f139 i.toNatClampNeg).toInt)) := by rw [ef139]; exact ⟨ai_updO bf128.1 _ (Or.inr (ai_ngt_of zq15 (by decide) (by decide))), ai_updO bf128.2.1 _ (Or.inr (ai_ngt_of zq15 (by decide) (by decide))), ai_updO bf128.2.2.1 _ (Or.inr (ai_ngt_of zq15 (by decide) (by decide))), ai_updO bf128.2.2.2.1 _ (Or.inr (ai_ngt_of zq15 (by decide) (by decide))), ai_updO bf128.2.2.2.2.1 _ (Or.inr (ai_ngt_of zq15 (by decide) (by decide))), ai_updO bf128.2.2.2.2.2.1 _ (Or.inr (ai_ngt_of zq15 (by decide) (by decide))), ai_updS bf128.2.2.2.2.2.2.1 _ ⟨(Int.le_trans zq4 bx138.1), bx138.2⟩, ai_updO bf128.2.2.2.2.2.2.2.1 _ (Or.inl (ai_nlt_of zq15 zq16 (by decide) (by decide))), ai_updO bf128.2.2.2.2.2.2.2.2.1 _ (Or.inl (ai_nlt_of zq15 zq16 (by decide) (by decide))), ai_updO bf128.2.2.2.2.2.2.2.2.2.1 _ (Or.inl (ai_nlt_of zq15 zq16 (by decide) (by decide))), ai_updO bf128.2.2.2.2.2.2.2.2.2.2.1 _ (Or.inl (ai_nlt_of zq15 zq16 (by decide) (by decide))), ai_updO bf128.2.2.2.2.2.2.2.2.2.2.2.1 _ (Or.inl (ai_nlt_of zq15 zq16 (by decide) (by decide))), ai_updO bf128.2.2.2.2.2.2.2.2.2.2.2.2.1 _ (Or.inl (ai_nlt_of zq15 zq16 (by decide) (by decide))), fg_o bf128.2.2.2.2.2.2.2.2.2.2.2.2.2.1 (by decide +kernel), fg_ko bf128.2.2.2.2.2.2.2.2.2.2.2.2.2.2 (by decide +kernel)⟩
              have kf139_6 : f139 6 = x138 := by rw [ef139]; exact ai_k1 (by decide +kernel)
              have fqf139 := fl_up_eq ef139
              have hF0 := hF0.trans (fl_lt_eq (show (fl_A f139) = fl_up (fl_A f128) (6) x138.toInt from fqf139))
              have hFe : FX = (v102na0_4.toInt, v102na0_5.toInt, v102na0_6.toInt, v102na0_7.toInt, v102na0_8.toInt, j49a0_9.toInt, j49a0_10.toInt, 0, (fl_A f139), (fl_A v102nfa0_12)) := hF0
              exact W.vret hx hb hr (fun t ht hW => ⟨⟨(), rfl, trivial, v102na0_4, v102na0_5, v102na0_6, v102na0_7, v102na0_8, j49a0_9, j49a0_10, 0, f139, v102nfa0_12, ⟨bv102na0_5.1, bv102na0_5.2⟩, ⟨bv102na0_8.1, bv102na0_8.2⟩, ⟨zq5, Int.le_trans zq6 (by decide)⟩, bf139, (Or.inr rfl), (em_t em49 hraw102_1), hFe, by rw [ht]; exact hP, va_K.moved hW.alike hK, hD⟩, hS.F ht⟩) hS.2.2 dX8_seenLine_140
            · have gc58 := ai_nle c58
              have u58f_j49l4 : j49l4.toInt ≤ (4 : Int) := ai_lthi gc58 u57z_x57
              have l58f_x57 : (1 : Int) ≤ x57.toInt := ai_ltlo gc58 bj49l4_l
              have hF1 := hF1.trans (if_neg (show ¬ (x57.toInt ≤ j49l4.toInt) from Int.not_le.mpr gc58))
              refine lv_aload_n hx hb dX8_seenLine_61 rfl (lv_at hl 0 rfl) ?_
              refine va_get (D := (dC, dI)) (ci := 8) (v := .int 0) (C := RX8) (T := TX8) (N := 40) hx hb hts zi_X8_seenLine_8 hown hK hP 0 rfl rfl 13 (by decide) (hts (.fieldLink RX8 97 "WaxTurnsModel" "failed" "Z") (zm_X8_seenLine_r1 (List.mem_of_getElem? (i := 0) rfl))) (fun _ h9 => h9) rfl dX8_seenLine_62 ?_
              refine lv_if_ne (tgt := 95) hx hb dX8_seenLine_65 (by decide) (fun c65 => absurd (by decide +kernel) c65) (fun _ => ?_)
              refine lv_aload_n hx hb dX8_seenLine_68 rfl (lv_at hl 0 rfl) ?_
              refine va_get (D := (dC, dI)) (ci := 8) (v := .ref a0_16) (C := RX8) (T := TX8) (N := 40) hx hb hts zi_X8_seenLine_8 hown hK hP 0 rfl rfl 16 (by decide) (hts (.fieldLink RX8 23 "WaxTurnsModel" "fresh" "[I") (zm_X8_seenLine_r1 (List.mem_of_getElem? (i := 1) rfl))) (fun _ h9 => h9) rfl dX8_seenLine_69 ?_
              refine lv_bipush (v := 36) hx hb dX8_seenLine_72 zk_bipush_36 ?_
              refine lv_iconst (v := 2) hx hb dX8_seenLine_74 zk_iconst_2 ?_
              refine lv_iload hx hb dX8_seenLine_75 (lv_at hl 4 rfl) ?_
              refine lv_imul hx hb dX8_seenLine_77 ?_
              refine lv_topi (fun x77 ex77 => ?_)
              have qx77 : x77.toInt = (2 : Int32).toInt * j49l4.toInt ∧ (0 : Int) ≤ x77.toInt ∧ x77.toInt ≤ 8 := ai_mul ex77 ⟨zq12, zq13⟩ ⟨bj49l4_l, u58f_j49l4⟩ (by decide) (by decide) zq238
              have wx77 : x77.toInt = 2 * j49l4.toInt := qx77.1
              have hF1 := hF1.trans (fl_lt_eq (show x77.toInt = 2 * j49l4.toInt from qx77.1))
              refine lv_iadd hx hb dX8_seenLine_78 ?_
              refine lv_topi (fun x78 ex78 => ?_)
              have qx78 : x78.toInt = (36 : Int32).toInt + x77.toInt := ai_add ex78 ⟨zq182, zq183⟩ ⟨qx77.2.1, qx77.2.2⟩ (by decide) (by decide)
              have bx78 : (36 : Int) ≤ x78.toInt ∧ x78.toInt ≤ 44 := ⟨by rw [qx78]; exact Int.add_le_add zq182 qx77.2.1, by rw [qx78]; exact Int.add_le_add zq183 qx77.2.2⟩
              have wx78 : x78.toInt = 36 + x77.toInt := qx78
              have hF1 := hF1.trans (fl_lt_eq (show x78.toInt = 36 + x77.toInt from qx78))
              refine lv_iconst (v := 1) hx hb dX8_seenLine_79 zk_iconst_1 ?_
              refine lv_iadd hx hb dX8_seenLine_80 ?_
              refine lv_topi (fun x80 ex80 => ?_)
              have qx80 : x80.toInt = x78.toInt + (1 : Int32).toInt := ai_add ex80 ⟨bx78.1, bx78.2⟩ ⟨zq1, zq0⟩ (by decide) (by decide)
              have bx80 : (37 : Int) ≤ x80.toInt ∧ x80.toInt ≤ 45 := ⟨by rw [qx80]; exact Int.add_le_add bx78.1 zq1, by rw [qx80]; exact Int.add_le_add bx78.2 zq0⟩
              have wx80 : x80.toInt = x78.toInt + 1 := qx80
              have hF1 := hF1.trans (fl_lt_eq (show x80.toInt = x78.toInt + 1 from qx80))
              refine va_iald hx hb hK hP 1 0 rfl rfl (ai_in bx80.1 bx80.2 (by decide) (by decide)) dX8_seenLine_81 ?_
              refine lv_topi (fun x81 ex81 => ?_)
              have bx81 : (0 : Int) ≤ x81.toInt ∧ x81.toInt ≤ 999 := by rw [ex81]; exact ai_rd bfa0_16.2.2.2.2.2.2.2.2.2.2.2.1 bx80.1 bx80.2 (by decide) (by decide) (by decide)
              have fqx81 := congrArg Int32.toInt ex81
              have hF1 := hF1.trans (fl_lt_eq (show x81.toInt = (fl_A fa0_16) (x80.toInt.toNat) from fqx81))
              refine lv_iload_n hx hb dX8_seenLine_82 rfl (lv_at hl 3 rfl) ?_
              refine lv_icmp_ne (tgt := 95) hx hb dX8_seenLine_83 (by decide) (fun c83 => ?_) (fun c83 => ?_)
              · have gc83 := ai_ne c83
                have hF1 := hF1.trans (if_neg (show ¬ (x81.toInt = j49l3.toInt) from  gc83))
                obtain ⟨x95, ex95⟩ : ∃ y : Int32, y = j49l4 + Int32.ofInt 1 := ⟨_, rfl⟩
                have qx95 : x95.toInt = j49l4.toInt + 1 := ai_inc ex95 (by decide) (by decide) u58f_j49l4 (by decide)
                have bx95 : (1 : Int) ≤ x95.toInt ∧ x95.toInt ≤ 5 := ⟨by rw [qx95]; exact Int.add_le_add bj49l4_l (Int.le_refl _), by rw [qx95]; exact Int.add_le_add u58f_j49l4 (Int.le_refl _)⟩
                refine lv_iinc (v := x95) (lv' := [(4, .int x95), (0, .ref a0), (1, .int x19), (2, .int r27), (3, .int j49l3)]) hx hb dX8_seenLine_95 hl (k := 4) rfl ex95.symm (by decide) rfl (fun ls hl => ?_)
                have hF1 := hF1.trans (fl_lt_eq (show x95.toInt = j49l4.toInt + 1 from qx95))
                refine lv_goto (tgt := 49) hx hb dX8_seenLine_98 (by decide) ?_
                exact (hK0 _ _ _).mp (ih49 x95 j49l3 j49a0_4 j49a0_5 j49a0_6 j49a0_7 j49a0_8 j49a0_9 j49a0_10 0 j49a0_12_a _ _ _ (by first | exact zg_s hm49 qx95 | (have h0 := qx95; omega)) (Int.le_trans zq4 bx95.1) bx95.2 wb49.1 wb49.2 bj49a0_5_l bj49a0_5_u bj49a0_8_l bj49a0_8_u zq5 (Int.le_trans zq6 zq4) (by omega) ⟨wa49.1, wa49.2⟩ ⟨wb49.1, wb49.2⟩ (by rw [show (0 : Int32).toInt = 0 from by decide]; exact (hF0.trans (fl_wh_l (hSX49.trans hF1)))) hP hD hS (lv_sub hl [1, 2, 3, 4, 0] rfl))
              · have gc83 := ai_eq c83
                have u83f_x81 : x81.toInt ≤ (999 : Int) := bx81.2
                have l83f_x81 : (0 : Int) ≤ x81.toInt := bx81.1
                have u83f_j49l3 : j49l3.toInt ≤ (999 : Int) := wb49.2
                have l83f_j49l3 : (0 : Int) ≤ j49l3.toInt := wb49.1
                have hF1 := hF1.trans (if_pos (show x81.toInt = j49l3.toInt from gc83))
                refine lv_aload_n hx hb dX8_seenLine_86 rfl (lv_at hl 0 rfl) ?_
                refine lv_iconst (v := 3) hx hb dX8_seenLine_87 zk_iconst_3 ?_
                refine lv_aload_n hx hb dX8_seenLine_88 rfl (lv_at hl 0 rfl) ?_
                refine va_get (D := (dC, dI)) (ci := 8) (v := .int j49a0_4) (C := RX8) (T := TX8) (N := 40) hx hb hts zi_X8_seenLine_8 hown hK hP 0 rfl rfl 4 (by decide) (hts (.fieldLink RX8 78 "WaxTurnsModel" "at" "I") (zm_X8_seenLine_r1 (List.mem_of_getElem? (i := 2) rfl))) (fun _ h9 => h9) rfl dX8_seenLine_89 ?_
                refine va_callv (va_runV (As := [.int 3, .int j49a0_4]) (rest := []) ⟨hx, hb, hml, hown, hts⟩ (fG_X8_wrong l dC dI H.size a0 3 j49a0_4 a0g_0 (Value.ref a0_1) a0g_2 (Value.int a0_3) (Value.int j49a0_4) (Value.int j49a0_5) (Value.int j49a0_6) (Value.int j49a0_7) (Value.int j49a0_8) a0g_11 (Value.ref a0_12) a0g_14 a0g_15 (Value.ref a0_16) a0g_17 a0g_18 a0g_19 a0g_20 a0g_21 a0g_22 a0g_23 a0g_24 a0g_25 a0g_26 a0g_27 a0g_28 a0g_29 a0g_30 a0g_31 a0g_32 a0g_33 a0g_34 a0g_35 a0g_36 a0g_37 a0g_38 a0g_39 j49a0_9 j49a0_10 ) (cwV 2 hts gX8_seenLine_X8_wrong rfl rfl rfl zd_X8_wrong ⟨Nat.le_of_ble_eq_true rfl, Nat.le_of_ble_eq_true rfl⟩) ⟨ax_blind (fun _ _ _ _ _ => trivial), zr_8 (zp_K hK) (zp_P1 hP) (q0 := 0) rfl, ax_pre (zp_P1 hP) (zp_K hK) (zp_D1 hD) (fun _ _ => trivial)⟩ rfl rfl hl.1 rfl (lv_room (Nat.le_of_ble_eq_true rfl)) dX8_seenLine_92 ⟨Nat.le_of_ble_eq_true rfl, Nat.le_of_ble_eq_true rfl⟩) hS (fun q _ h => zp_F1 hD hS hA q h) (zp_F1 hD hS hA) (fun u t H locs ht hvm hw => zx_2 (fun v92na0_9 v92na0_10 => zy_1 (fun hraw92_0 hB hz1 hk1 hS1 => zo1 hB ht hP hD hk1 (zp_F1 hD hS hA) hS1 (fun hP hK1 hD hS => ?_))))
                rw [show (3 : Int32).toInt = 3 from by decide] at hraw92_0
                have hc92 : FfG_X8_wrong 3 j49a0_4.toInt = (v92na0_9.toInt, v92na0_10.toInt) := hraw92_0
                have hF1 := hF1.trans (fl_c2_eq hc92)
                obtain ⟨x95, ex95⟩ : ∃ y : Int32, y = j49l4 + Int32.ofInt 1 := ⟨_, rfl⟩
                have qx95 : x95.toInt = j49l4.toInt + 1 := ai_inc ex95 (by decide) (by decide) u58f_j49l4 (by decide)
                have bx95 : (1 : Int) ≤ x95.toInt ∧ x95.toInt ≤ 5 := ⟨by rw [qx95]; exact Int.add_le_add bj49l4_l (Int.le_refl _), by rw [qx95]; exact Int.add_le_add u58f_j49l4 (Int.le_refl _)⟩
                refine lv_iinc (v := x95) (lv' := [(4, .int x95), (0, .ref a0), (1, .int x19), (2, .int r27), (3, .int j49l3)]) hx hb dX8_seenLine_95 hl (k := 4) rfl ex95.symm (by decide) rfl (fun ls hl => ?_)
                have hF1 := hF1.trans (fl_lt_eq (show x95.toInt = j49l4.toInt + 1 from qx95))
                refine lv_goto (tgt := 49) hx hb dX8_seenLine_98 (by decide) ?_
                exact (hK0 _ _ _).mp (ih49 x95 j49l3 j49a0_4 j49a0_5 j49a0_6 j49a0_7 j49a0_8 v92na0_9 v92na0_10 1 j49a0_12_a _ _ _ (by first | exact zg_s hm49 qx95 | (have h0 := qx95; omega)) (Int.le_trans zq4 bx95.1) bx95.2 l83f_j49l3 u83f_j49l3 bj49a0_5_l bj49a0_5_u bj49a0_8_l bj49a0_8_u (Int.le_trans zq4 zq1) zq0 (by omega) ⟨wa49.1, wa49.2⟩ ⟨l83f_j49l3, u83f_j49l3⟩ (by rw [show (1 : Int32).toInt = 1 from by decide]; exact (hF0.trans (fl_wh_l (hSX49.trans hF1)))) hP hD hS (lv_sub hl [1, 2, 3, 4, 0] rfl))
          · subst hv49
            have hF1 := hF1.trans (if_neg (by decide))
            refine lv_iload hx hb dX8_seenLine_49 (lv_at hl 4 rfl) ?_
            refine lv_aload_n hx hb dX8_seenLine_51 rfl (lv_at hl 0 rfl) ?_
            refine va_get (D := (dC, dI)) (ci := 8) (v := .ref a0_16) (C := RX8) (T := TX8) (N := 40) hx hb hts zi_X8_seenLine_8 hown hK hP 0 rfl rfl 16 (by decide) (hts (.fieldLink RX8 23 "WaxTurnsModel" "fresh" "[I") (zm_X8_seenLine_r1 (List.mem_of_getElem? (i := 1) rfl))) (fun _ h9 => h9) rfl dX8_seenLine_52 ?_
            refine lv_bipush (v := 6) hx hb dX8_seenLine_55 zk_bipush_6 ?_
            refine va_iald hx hb hK hP 1 0 rfl rfl (by unfold vp_in; decide +kernel) dX8_seenLine_57 ?_
            refine lv_topi (fun x57 ex57 => ?_)
            have bx57 : (0 : Int) ≤ x57.toInt ∧ x57.toInt ≤ 6 := by rw [ex57]; exact ai_rd bfa0_16.2.2.2.2.2.2.1 zq15 zq16 (by decide) (by decide) (by decide)
            have fqx57 := congrArg Int32.toInt ex57
            have hF1 := hF1.trans (fl_lt_eq (show x57.toInt = (fl_A fa0_16) (6) from fqx57))
            have u57z_x57 : x57.toInt ≤ (5 : Int) := fg_le (m := 6) ex57 h6
            refine lv_icmp_ge (tgt := 101) hx hb dX8_seenLine_58 (by decide) (fun c58 => ?_) (fun c58 => ?_)
            · have gc58 := ai_le c58
              have u58t_x57 : x57.toInt ≤ (5 : Int) := u57z_x57
              have l58t_j49l4 : (0 : Int) ≤ j49l4.toInt := bj49l4_l
              have hF1 := hF1.trans (if_pos (show x57.toInt ≤ j49l4.toInt from gc58))
              have hF0 := hF0.trans (fl_wh_r (hSX49.trans hF1))
              refine lv_aload_n hx hb dX8_seenLine_101 rfl (lv_at hl 0 rfl) ?_
              refine va_callv (va_runV (As := []) (rest := []) ⟨hx, hb, hml, hown, hts⟩ (fF_X8_pass l dC dI H.size a0 a0g_0 (Value.ref a0_1) a0g_2 (Value.int a0_3) (Value.int j49a0_4) (Value.int j49a0_5) (Value.int j49a0_6) (Value.int j49a0_7) (Value.int j49a0_8) (Value.int j49a0_9) (Value.int j49a0_10) a0g_11 (Value.ref a0_12) a0g_14 a0g_15 (Value.ref a0_16) a0g_17 a0g_18 a0g_19 a0g_20 a0g_21 a0g_22 a0g_23 a0g_24 a0g_25 a0g_26 a0g_27 a0g_28 a0g_29 a0g_30 a0g_31 a0g_32 a0g_33 a0g_34 a0g_35 a0g_36 a0g_37 a0g_38 a0g_39 ) (cwV 0 hts gX8_seenLine_X8_pass rfl rfl rfl zd_X8_pass ⟨Nat.le_of_ble_eq_true rfl, Nat.le_of_ble_eq_true rfl⟩) ⟨ax_blind (fun _ _ _ _ _ => trivial), zr_8 (zp_K hK) (zp_P1 hP) (q0 := 0) rfl, ax_pre (zp_P1 hP) (zp_K hK) (zp_D1 hD) (fun _ _ => trivial)⟩ rfl rfl hl.1 rfl (lv_room (Nat.le_of_ble_eq_true rfl)) dX8_seenLine_102 ⟨Nat.le_of_ble_eq_true rfl, Nat.le_of_ble_eq_true rfl⟩) hS (fun q _ h => zp_F1 hD hS hA q h) (zp_F1 hD hS hA) (fun u t H locs ht hvm hw hB hz1 hk1 hS1 => zo1 hB ht hP hD hk1 (zp_F1 hD hS hA) hS1 (fun hP hK1 hD hS => ?_))
              refine lv_aload_n hx hb dX8_seenLine_105 rfl (lv_at hl 0 rfl) ?_
              refine va_get (D := (dC, dI)) (ci := 8) (v := .int 1) (C := RX8) (T := TX8) (N := 40) hx hb hts zi_X8_seenLine_8 hown hK hP 0 rfl rfl 13 (by decide) (hts (.fieldLink RX8 97 "WaxTurnsModel" "failed" "Z") (zm_X8_seenLine_r1 (List.mem_of_getElem? (i := 0) rfl))) (fun _ h9 => h9) rfl dX8_seenLine_106 ?_
              refine lv_if_eq (tgt := 113) hx hb dX8_seenLine_109 (by decide) (fun c109 => absurd c109 (by decide +kernel)) (fun _ => ?_)
              have hFe : FX = (j49a0_4.toInt, j49a0_5.toInt, j49a0_6.toInt, j49a0_7.toInt, j49a0_8.toInt, j49a0_9.toInt, j49a0_10.toInt, 1, (fl_A fa0_16), (fl_A j49a0_12_a)) := hF0
              exact W.vret hx hb hr (fun t ht hW => ⟨⟨(), rfl, trivial, j49a0_4, j49a0_5, j49a0_6, j49a0_7, j49a0_8, j49a0_9, j49a0_10, 1, fa0_16, j49a0_12_a, ⟨bj49a0_5_l, bj49a0_5_u⟩, ⟨bj49a0_8_l, bj49a0_8_u⟩, ⟨Int.le_trans (by decide) zq1, zq0⟩, bfa0_16, (Or.inl rfl), em49, hFe, by rw [ht]; exact hP, va_K.moved hW.alike hK, hD⟩, hS.F ht⟩) hS.2.2 dX8_seenLine_112
            · have gc58 := ai_nle c58
              have u58f_j49l4 : j49l4.toInt ≤ (4 : Int) := ai_lthi gc58 u57z_x57
              have l58f_x57 : (1 : Int) ≤ x57.toInt := ai_ltlo gc58 bj49l4_l
              have hF1 := hF1.trans (if_neg (show ¬ (x57.toInt ≤ j49l4.toInt) from Int.not_le.mpr gc58))
              refine lv_aload_n hx hb dX8_seenLine_61 rfl (lv_at hl 0 rfl) ?_
              refine va_get (D := (dC, dI)) (ci := 8) (v := .int 1) (C := RX8) (T := TX8) (N := 40) hx hb hts zi_X8_seenLine_8 hown hK hP 0 rfl rfl 13 (by decide) (hts (.fieldLink RX8 97 "WaxTurnsModel" "failed" "Z") (zm_X8_seenLine_r1 (List.mem_of_getElem? (i := 0) rfl))) (fun _ h9 => h9) rfl dX8_seenLine_62 ?_
              refine lv_if_ne (tgt := 95) hx hb dX8_seenLine_65 (by decide) (fun _ => ?_) (fun c65 => absurd c65 (by decide +kernel))
              obtain ⟨x95, ex95⟩ : ∃ y : Int32, y = j49l4 + Int32.ofInt 1 := ⟨_, rfl⟩
              have qx95 : x95.toInt = j49l4.toInt + 1 := ai_inc ex95 (by decide) (by decide) u58f_j49l4 (by decide)
              have bx95 : (1 : Int) ≤ x95.toInt ∧ x95.toInt ≤ 5 := ⟨by rw [qx95]; exact Int.add_le_add bj49l4_l (Int.le_refl _), by rw [qx95]; exact Int.add_le_add u58f_j49l4 (Int.le_refl _)⟩
              refine lv_iinc (v := x95) (lv' := [(4, .int x95), (0, .ref a0), (1, .int x19), (2, .int r27), (3, .int j49l3)]) hx hb dX8_seenLine_95 hl (k := 4) rfl ex95.symm (by decide) rfl (fun ls hl => ?_)
              have hF1 := hF1.trans (fl_lt_eq (show x95.toInt = j49l4.toInt + 1 from qx95))
              refine lv_goto (tgt := 49) hx hb dX8_seenLine_98 (by decide) ?_
              exact (hK0 _ _ _).mp (ih49 x95 j49l3 j49a0_4 j49a0_5 j49a0_6 j49a0_7 j49a0_8 j49a0_9 j49a0_10 1 j49a0_12_a _ _ _ (by first | exact zg_s hm49 qx95 | (have h0 := qx95; omega)) (Int.le_trans zq4 bx95.1) bx95.2 wb49.1 wb49.2 bj49a0_5_l bj49a0_5_u bj49a0_8_l bj49a0_8_u (Int.le_trans zq4 zq1) zq0 (by omega) ⟨wa49.1, wa49.2⟩ ⟨wb49.1, wb49.2⟩ (by rw [show (1 : Int32).toInt = 1 from by decide]; exact (hF0.trans (fl_wh_l (hSX49.trans hF1)))) hP hD hS (lv_sub hl [1, 2, 3, 4, 0] rfl))
      exact (hK0 _ _ _).mp (J49 6 0 0 v34na0_4 v34na0_5 v34na0_6 v34na0_7 v34na0_8 v34na0_9 v34na0_10 1 v34nfa0_12 _ _ _ (by first | decide +kernel | (have h1 : (0 : Int) ≤ (0 : Int32).toInt := zq5; have h2 : (0 : Int32).toInt ≤ (0 : Int) := zq6; omega)) zq5 (Int.le_trans zq6 zq224) zq5 (Int.le_trans zq6 zq81) bv34na0_5.1 bv34na0_5.2 bv34na0_8.1 bv34na0_8.2 (Int.le_trans zq4 zq1) zq0 (by omega) ⟨(Int.le_trans zq5 h27.1), (Int.le_trans h27.2 h24_1)⟩ ⟨zq5, (Int.le_trans zq6 zq81)⟩ (by rw [show (0 : Int32).toInt = 0 from by decide, show (1 : Int32).toInt = 1 from by decide]; exact hF0) hP hD hS (lv_sub hl [4, 3, 2, 1, 0] rfl))
    · subst hf34
      have hF0 := hF0.trans (if_neg (by decide))
      refine lv_aload_n hx hb dX8_seenLine_37 rfl (lv_at hl 2 rfl) ?_
      refine lv_iconst (v := 0) hx hb dX8_seenLine_38 zk_iconst_0 ?_
      refine lv_sipush (v := 999) hx hb dX8_seenLine_39 zk_sipush_999 ?_
      refine va_calli (va_runV (As := [.int 0, .int 999]) (rest := []) ⟨hx, hb, hml, hown, hts⟩ (fG_X8_numberHere l dC dI H.size a0 0 999 a0g_0 (Value.ref a0_1) a0g_2 (Value.int a0_3) (Value.int v34na0_5) (Value.int v34na0_8) a0g_11 (Value.ref a0_12) a0g_14 a0g_15 (Value.ref a0_16) a0g_17 a0g_18 a0g_19 a0g_20 a0g_21 a0g_22 a0g_23 a0g_24 a0g_25 a0g_26 a0g_27 a0g_28 a0g_29 a0g_30 a0g_31 a0g_32 a0g_33 a0g_34 a0g_35 a0g_36 a0g_37 a0g_38 a0g_39 v34na0_4 v34na0_6 v34na0_7 v34na0_9 v34na0_10 ) (cwV 2 hts gX8_seenLine_X8_numberHere rfl rfl rfl zd_X8_numberHere ⟨Nat.le_of_ble_eq_true rfl, Nat.le_of_ble_eq_true rfl⟩) ⟨ax_blind (fun _ _ _ _ _ => trivial), zr_8 (zp_K hK) (zp_P1 hP) (q0 := 0) rfl, ax_pre (zp_P1 hP) (zp_K hK) (zp_D1 hD) (fun _ _ => trivial)⟩ rfl rfl hl.1 rfl (lv_room (Nat.le_of_ble_eq_true rfl)) dX8_seenLine_42 ⟨Nat.le_of_ble_eq_true rfl, Nat.le_of_ble_eq_true rfl⟩) hS (fun q _ h => zp_F1 hD hS hA q h) (zp_F1 hD hS hA) (fun r42 v42na0_13 t H1 locs ht hvm hw => zx_2 (fun v42na0_9 v42na0_10 => zy_2 (fun bv42na0_13 hraw42_0 hB hz1 hk1 hS1 => zo1 hB ht hP hD hk1 (zp_F1 hD hS hA) hS1 (fun hP hK1 hD hS => ?_))))
      generalize H1 = H at hP hS ⊢
      obtain ⟨hw, hfr42⟩ := hw
      rw [show (0 : Int32).toInt = 0 from by decide, show (999 : Int32).toInt = 999 from by decide] at hfr42 hraw42_0
      have hc42 : FfG_X8_numberHere 0 999 v34na0_4.toInt v34na0_6.toInt v34na0_7.toInt v34na0_9.toInt v34na0_10.toInt = (r42.toInt, v42na0_9.toInt, v42na0_10.toInt, v42na0_13.toInt) := Prod.ext hfr42.symm hraw42_0
      have hF0 := hF0.trans (fl_c4_eq hc42)
      rcases hw with hw | hw
      · obtain ⟨hw, h42⟩ := hw
        subst hw
        have hF0 := hF0.trans (if_pos (by decide))
        refine lv_istore_n (lv' := [(3, .int r42), (2, .int r27), (1, .int x19), (0, .ref a0)]) hx hb dX8_seenLine_45 rfl hl (by decide) rfl (fun ls hl => ?_)
        refine lv_iconst (v := 0) hx hb dX8_seenLine_46 zk_iconst_0 ?_
        refine lv_istore (lv' := [(4, .int 0), (3, .int r42), (2, .int r27), (1, .int x19), (0, .ref a0)]) hx hb dX8_seenLine_47 hl (by decide) rfl (fun ls hl => ?_)
        have J49 : ∀ (n : Nat) (j49l4 : Int32) (j49l3 : Int32) (j49a0_4 : Int32) (j49a0_5 : Int32) (j49a0_6 : Int32) (j49a0_7 : Int32) (j49a0_8 : Int32) (j49a0_9 : Int32) (j49a0_10 : Int32) (j49a0_13 : Int32) (j49a0_12_a : Nat → Int32) (H : Heap) (locs : List Loc) (ls : Array Slot), (6 : Int) - j49l4.toInt ≤ (n : Int) → (0 : Int) ≤ j49l4.toInt → j49l4.toInt ≤ (5 : Int) → (0 : Int) ≤ j49l3.toInt → j49l3.toInt ≤ (999 : Int) → (0 : Int) ≤ j49a0_5.toInt → j49a0_5.toInt ≤ (900 : Int) → (0 : Int) ≤ j49a0_8.toInt → j49a0_8.toInt ≤ (900 : Int) → (0 : Int) ≤ j49a0_13.toInt → j49a0_13.toInt ≤ (1 : Int) → (a0_5.toInt ≤ j49a0_5.toInt ∧ ((j49a0_5.toInt = a0_5.toInt ∧ j49a0_6.toInt = a0_6.toInt) ∨ j49a0_6.toInt ≠ 59 ∨ a0_5.toInt < j49a0_5.toInt)) → ((0 : Int) ≤ r27.toInt ∧ r27.toInt ≤ 8) → ((0 : Int) ≤ j49l3.toInt ∧ j49l3.toInt ≤ 999) → (FX = fl_wh (fun t9 => SfG_X8_seenLine_49_3 a0_3.toInt (fl_A fa0_16) (fl_A fa0_1) x19.toInt r27.toInt t9.1 t9.2.1 t9.2.2.1 t9.2.2.2.1 t9.2.2.2.2.1 t9.2.2.2.2.2.1 t9.2.2.2.2.2.2.1 t9.2.2.2.2.2.2.2.1 t9.2.2.2.2.2.2.2.2.1 t9.2.2.2.2.2.2.2.2.2.1 t9.2.2.2.2.2.2.2.2.2.2) (0, 0, 0, 0, 0, 0, 0, 0, (fun _ => 0), (fun _ => 0)) n (j49l4.toInt, j49l3.toInt, j49a0_4.toInt, j49a0_5.toInt, j49a0_6.toInt, j49a0_7.toInt, j49a0_8.toInt, j49a0_9.toInt, j49a0_10.toInt, j49a0_13.toInt, (fl_A j49a0_12_a))) → va_P (dC, dI) vwCl [(a0, .inr (8, [a0g_0, Value.ref a0_1, a0g_2, Value.int a0_3, Value.int j49a0_4, Value.int j49a0_5, Value.int j49a0_6, Value.int j49a0_7, Value.int j49a0_8, Value.int j49a0_9, Value.int j49a0_10, a0g_11, Value.ref a0_12, Value.int j49a0_13, a0g_14, a0g_15, Value.ref a0_16, a0g_17, a0g_18, a0g_19, a0g_20, a0g_21, a0g_22, a0g_23, a0g_24, a0g_25, a0g_26, a0g_27, a0g_28, a0g_29, a0g_30, a0g_31, a0g_32, a0g_33, a0g_34, a0g_35, a0g_36, a0g_37, a0g_38, a0g_39])), (a0_16, .inl (ka0_16, 156, .inl (fa0_16))), (a0_1, .inl (ka0_1, 900, .inl (fa0_1))), (a0_12, .inl (ka0_12, 8, .inl (j49a0_12_a)))] H → va_D A [(a0, .inr (8, [a0g_0, Value.ref a0_1, a0g_2, Value.int a0_3, Value.int j49a0_4, Value.int j49a0_5, Value.int j49a0_6, Value.int j49a0_7, Value.int j49a0_8, Value.int j49a0_9, Value.int j49a0_10, a0g_11, Value.ref a0_12, Value.int j49a0_13, a0g_14, a0g_15, Value.ref a0_16, a0g_17, a0g_18, a0g_19, a0g_20, a0g_21, a0g_22, a0g_23, a0g_24, a0g_25, a0g_26, a0g_27, a0g_28, a0g_29, a0g_30, a0g_31, a0g_32, a0g_33, a0g_34, a0g_35, a0g_36, a0g_37, a0g_38, a0g_39])), (a0_16, .inl (ka0_16, 156, .inl (fa0_16))), (a0_1, .inl (ka0_1, 900, .inl (fa0_1))), (a0_12, .inl (ka0_12, 8, .inl (j49a0_12_a)))] → va_S A s.heap H locs → lv_has ls 5 [(0, .ref a0), (1, .int x19), (2, .int r27), (3, .int j49l3), (4, .int j49l4)] → K H locs (F0 m 49 ls []) := by
          intro n
          induction n with
          | zero =>
            intro j49l4 j49l3 j49a0_4 j49a0_5 j49a0_6 j49a0_7 j49a0_8 j49a0_9 j49a0_10 j49a0_13 j49a0_12_a H locs ls hm bj49l4_l bj49l4_u bj49l3_l bj49l3_u bj49a0_5_l bj49a0_5_u bj49a0_8_l bj49a0_8_u bj49a0_13_l bj49a0_13_u em49 wa49 wb49 hF0 hP hD hS hl
            first | exact zg_0 hm bj49l4_u (by decide) | (have h8 := ai_min j49l4; have h9 := ai_max j49l4; exact absurd hm (by omega))
          | succ n ih49 =>
            intro j49l4 j49l3 j49a0_4 j49a0_5 j49a0_6 j49a0_7 j49a0_8 j49a0_9 j49a0_10 j49a0_13 j49a0_12_a H locs ls hm bj49l4_l bj49l4_u bj49l3_l bj49l3_u bj49a0_5_l bj49a0_5_u bj49a0_8_l bj49a0_8_u bj49a0_13_l bj49a0_13_u em49 wa49 wb49 hF0 hP hD hS hl
            refine (hK0 _ _ _).mpr ?_
            have hm49 := hm
            obtain ⟨SX49, hSX49⟩ : ∃ q9, SfG_X8_seenLine_49_3 a0_3.toInt (fl_A fa0_16) (fl_A fa0_1) x19.toInt r27.toInt j49l4.toInt j49l3.toInt j49a0_4.toInt j49a0_5.toInt j49a0_6.toInt j49a0_7.toInt j49a0_8.toInt j49a0_9.toInt j49a0_10.toInt j49a0_13.toInt (fl_A j49a0_12_a) = q9 := ⟨_, rfl⟩
            have hF1 := hSX49.symm.trans (SfG_X8_seenLine_49_3.eq_1 a0_3.toInt (fl_A fa0_16) (fl_A fa0_1) x19.toInt r27.toInt j49l4.toInt j49l3.toInt j49a0_4.toInt j49a0_5.toInt j49a0_6.toInt j49a0_7.toInt j49a0_8.toInt j49a0_9.toInt j49a0_10.toInt j49a0_13.toInt (fl_A j49a0_12_a))
            have hv49 : j49a0_13 = 0 ∨ j49a0_13 = 1 := by
              have h1 : (0 : Int) ≤ j49a0_13.toInt := bj49a0_13_l
              have h2 : j49a0_13.toInt ≤ (1 : Int) := bj49a0_13_u
              rcases (show j49a0_13.toInt = 0 ∨ j49a0_13.toInt = 1 by omega) with h | h
              · exact Or.inl (Int32.toInt_inj.mp (h.trans (by decide)))
              · exact Or.inr (Int32.toInt_inj.mp (h.trans (by decide)))
            rcases hv49 with hv49 | hv49
            · subst hv49
              have hF1 := hF1.trans (if_pos (by decide))
              refine lv_iload hx hb dX8_seenLine_49 (lv_at hl 4 rfl) ?_
              refine lv_aload_n hx hb dX8_seenLine_51 rfl (lv_at hl 0 rfl) ?_
              refine va_get (D := (dC, dI)) (ci := 8) (v := .ref a0_16) (C := RX8) (T := TX8) (N := 40) hx hb hts zi_X8_seenLine_8 hown hK hP 0 rfl rfl 16 (by decide) (hts (.fieldLink RX8 23 "WaxTurnsModel" "fresh" "[I") (zm_X8_seenLine_r1 (List.mem_of_getElem? (i := 1) rfl))) (fun _ h9 => h9) rfl dX8_seenLine_52 ?_
              refine lv_bipush (v := 6) hx hb dX8_seenLine_55 zk_bipush_6 ?_
              refine va_iald hx hb hK hP 1 0 rfl rfl (by unfold vp_in; decide +kernel) dX8_seenLine_57 ?_
              refine lv_topi (fun x57 ex57 => ?_)
              have bx57 : (0 : Int) ≤ x57.toInt ∧ x57.toInt ≤ 6 := by rw [ex57]; exact ai_rd bfa0_16.2.2.2.2.2.2.1 zq15 zq16 (by decide) (by decide) (by decide)
              have fqx57 := congrArg Int32.toInt ex57
              have hF1 := hF1.trans (fl_lt_eq (show x57.toInt = (fl_A fa0_16) (6) from fqx57))
              have u57z_x57 : x57.toInt ≤ (5 : Int) := fg_le (m := 6) ex57 h6
              refine lv_icmp_ge (tgt := 101) hx hb dX8_seenLine_58 (by decide) (fun c58 => ?_) (fun c58 => ?_)
              · have gc58 := ai_le c58
                have u58t_x57 : x57.toInt ≤ (5 : Int) := u57z_x57
                have l58t_j49l4 : (0 : Int) ≤ j49l4.toInt := bj49l4_l
                have hF1 := hF1.trans (if_pos (show x57.toInt ≤ j49l4.toInt from gc58))
                have hF0 := hF0.trans (fl_wh_r (hSX49.trans hF1))
                refine lv_aload_n hx hb dX8_seenLine_101 rfl (lv_at hl 0 rfl) ?_
                refine zc_cutc (wc := [(a0, .inr (8, [a0g_0, Value.ref a0_1, a0g_2, Value.int a0_3, Value.int j49a0_4, Value.int j49a0_5, Value.int j49a0_6, Value.int j49a0_7, Value.int j49a0_8, Value.int j49a0_9, Value.int j49a0_10, a0g_11, Value.ref a0_12, Value.int 0, a0g_14, a0g_15, Value.ref a0_16, a0g_17, a0g_18, a0g_19, a0g_20, a0g_21, a0g_22, a0g_23, a0g_24, a0g_25, a0g_26, a0g_27, a0g_28, a0g_29, a0g_30, a0g_31, a0g_32, a0g_33, a0g_34, a0g_35, a0g_36, a0g_37, a0g_38, a0g_39])), (a0_1, .inl (ka0_1, 900, .inl (fa0_1))), (a0_12, .inl (ka0_12, 8, .inl (j49a0_12_a)))]) hP hD hS hA [0, 2, 3] (by decide +kernel) rfl (fun hPc hDc hFc hCc => ?_)
                have hKc := hK.sub (tys' := [(ka0_1, .int), (ka0_12, .int)]) [1, 2] rfl
                refine va_callv (va_runV (As := []) (rest := []) ⟨hx, hb, hml, hown, hts⟩ (fG_X8_pass l dC dI H.size a0 a0g_0 a0g_2 (Value.int j49a0_9) (Value.int j49a0_10) a0g_11 a0g_14 a0g_15 (Value.ref a0_16) a0g_17 a0g_18 a0g_19 a0g_20 a0g_21 a0g_22 a0g_23 a0g_24 a0g_25 a0g_26 a0g_27 a0g_28 a0g_29 a0g_30 a0g_31 a0g_32 a0g_33 a0g_34 a0g_35 a0g_36 a0g_37 a0g_38 a0g_39 a0_1 a0_3 j49a0_4 j49a0_5 j49a0_6 j49a0_7 j49a0_8 a0_12 ka0_1 fa0_1 ka0_12 j49a0_12_a ba0_3_l ba0_3_u bj49a0_5_l bj49a0_5_u bj49a0_8_l bj49a0_8_u) (cwV 0 hts gX8_seenLine_X8_pass rfl rfl rfl zd_X8_pass ⟨Nat.le_of_ble_eq_true rfl, Nat.le_of_ble_eq_true rfl⟩) ⟨ax_blind (fun _ _ _ _ _ => trivial), zr_8 hKc hPc (q0 := 0) rfl, ax_pre hPc hKc hDc (fun _ _ => trivial)⟩ rfl rfl hl.1 rfl (lv_room (Nat.le_of_ble_eq_true rfl)) dX8_seenLine_102 ⟨Nat.le_of_ble_eq_true rfl, Nat.le_of_ble_eq_true rfl⟩) hS (fun q _ h => hFc q h) hFc (fun u t H locs ht hvm hw => zx_6 (fun v102na0_4 v102na0_5 v102na0_6 v102na0_7 v102na0_8 v102nfa0_12 => zy_5 (fun bv102na0_5 bv102na0_8 hraw102_0 hraw102_1 hraw102_2 hB hz1 hk1 hS1 => zo hB ht hS1 (fun hP1 hK1 hD1 hS => ?_))))
                refine zc_backc (w := [(a0, .inr (8, [a0g_0, Value.ref a0_1, a0g_2, Value.int a0_3, Value.int v102na0_4, Value.int v102na0_5, Value.int v102na0_6, Value.int v102na0_7, Value.int v102na0_8, Value.int j49a0_9, Value.int j49a0_10, a0g_11, Value.ref a0_12, Value.int 0, a0g_14, a0g_15, Value.ref a0_16, a0g_17, a0g_18, a0g_19, a0g_20, a0g_21, a0g_22, a0g_23, a0g_24, a0g_25, a0g_26, a0g_27, a0g_28, a0g_29, a0g_30, a0g_31, a0g_32, a0g_33, a0g_34, a0g_35, a0g_36, a0g_37, a0g_38, a0g_39])), (a0_16, .inl (ka0_16, 156, .inl (fa0_16))), (a0_1, .inl (ka0_1, 900, .inl (fa0_1))), (a0_12, .inl (ka0_12, 8, .inl (v102nfa0_12)))]) hP hD hCc hk1 hFc hP1 hD1 [.inr 0, .inl 1, .inr 1, .inr 2] (by decide +kernel) rfl (fun hP hD => ?_)
                have hc102 : FfG_X8_pass a0_3.toInt j49a0_5.toInt (fl_A fa0_1) (fl_A j49a0_12_a) = (v102na0_4.toInt, v102na0_5.toInt, v102na0_6.toInt, v102na0_7.toInt, v102na0_8.toInt, (fl_A v102nfa0_12)) := hraw102_2
                have hF0 := hF0.trans (fl_c6_eq hc102)
                refine lv_aload_n hx hb dX8_seenLine_105 rfl (lv_at hl 0 rfl) ?_
                refine va_get (D := (dC, dI)) (ci := 8) (v := .int 0) (C := RX8) (T := TX8) (N := 40) hx hb hts zi_X8_seenLine_8 hown hK hP 0 rfl rfl 13 (by decide) (hts (.fieldLink RX8 97 "WaxTurnsModel" "failed" "Z") (zm_X8_seenLine_r1 (List.mem_of_getElem? (i := 0) rfl))) (fun _ h9 => h9) rfl dX8_seenLine_106 ?_
                refine lv_if_eq (tgt := 113) hx hb dX8_seenLine_109 (by decide) (fun _ => ?_) (fun c109 => absurd (by decide +kernel) c109)
                refine lv_aload_n hx hb dX8_seenLine_113 rfl (lv_at hl 0 rfl) ?_
                refine va_get (D := (dC, dI)) (ci := 8) (v := .ref a0_16) (C := RX8) (T := TX8) (N := 40) hx hb hts zi_X8_seenLine_8 hown hK hP 0 rfl rfl 16 (by decide) (hts (.fieldLink RX8 23 "WaxTurnsModel" "fresh" "[I") (zm_X8_seenLine_r1 (List.mem_of_getElem? (i := 1) rfl))) (fun _ h9 => h9) rfl dX8_seenLine_114 ?_
                refine lv_iload_n hx hb dX8_seenLine_117 rfl (lv_at hl 1 rfl) ?_
                refine lv_iload_n hx hb dX8_seenLine_118 rfl (lv_at hl 2 rfl) ?_
                refine va_iast hx hb hK hP hD hS 1 0 rfl rfl (ai_in bx19.1 bx19.2 (by decide) (by decide)) dX8_seenLine_119 (fun H locs hP hD hS => ?_)
                obtain ⟨f119, ef119⟩ : ∃ g9 : Nat → Int32, g9 = upd fa0_16 (x19 : Int32).toNatClampNeg r27 := ⟨_, rfl⟩
                refine zs_1 (y := (a0_16, .inl (ka0_16, 156, .inl (f119)))) hP hD (by rw [ef119]) (fun hP hD => ?_)
                have bf119 : ((∀ k : Nat, 0 ≤ k → k ≤ 0 → (0 : Int) ≤ (f119 k).toInt ∧ (f119 k).toInt ≤ 9) ∧ (∀ k : Nat, 1 ≤ k → k ≤ 1 → (0 : Int) ≤ (f119 k).toInt ∧ (f119 k).toInt ≤ 20) ∧ (∀ k : Nat, 2 ≤ k → k ≤ 2 → (0 : Int) ≤ (f119 k).toInt ∧ (f119 k).toInt ≤ 8) ∧ (∀ k : Nat, 3 ≤ k → k ≤ 3 → (0 : Int) ≤ (f119 k).toInt ∧ (f119 k).toInt ≤ 100) ∧ (∀ k : Nat, 4 ≤ k → k ≤ 4 → (0 : Int) ≤ (f119 k).toInt ∧ (f119 k).toInt ≤ 9) ∧ (∀ k : Nat, 5 ≤ k → k ≤ 5 → (0 : Int) ≤ (f119 k).toInt ∧ (f119 k).toInt ≤ 3) ∧ (∀ k : Nat, 6 ≤ k → k ≤ 6 → (0 : Int) ≤ (f119 k).toInt ∧ (f119 k).toInt ≤ 6) ∧ (∀ k : Nat, 7 ≤ k → k ≤ 9 → (0 : Int) ≤ (f119 k).toInt ∧ (f119 k).toInt ≤ 8) ∧ (∀ k : Nat, 10 ≤ k → k ≤ 11 → (0 : Int) ≤ (f119 k).toInt ∧ (f119 k).toInt ≤ 1) ∧ (∀ k : Nat, 12 ≤ k → k ≤ 29 → (0 : Int) ≤ (f119 k).toInt ∧ (f119 k).toInt ≤ 20) ∧ (∀ k : Nat, 30 ≤ k → k ≤ 35 → (0 : Int) ≤ (f119 k).toInt ∧ (f119 k).toInt ≤ 8) ∧ (∀ k : Nat, 36 ≤ k → k ≤ 47 → (0 : Int) ≤ (f119 k).toInt ∧ (f119 k).toInt ≤ 999) ∧ (∀ k : Nat, 48 ≤ k → k ≤ 59 → (0 : Int) ≤ (f119 k).toInt ∧ (f119 k).toInt ≤ 8) ∧ ((1 : Int) ≤ (f119 11).toInt → (2 : Int) ≤ (f119 0).toInt ∧ (1 : Int) ≤ (f119 1).toInt) ∧ (∀ (j i0 i : Int32), (0 : Int) ≤ j.toInt → j.toInt ≤ 8 → i0.toInt = 12 + 2 * j.toInt → i.toInt = 13 + 2 * j.toInt → (f119 i0.toNatClampNeg).toInt = (1 : Int32).toInt → (1 : Int) ≤ (f119 i.toNatClampNeg).toInt)) := by rw [ef119]; exact ⟨ai_updO bfa0_16.1 _ (Or.inr (ai_ngt_of bx19.1 (by decide) (by decide))), ai_updO bfa0_16.2.1 _ (Or.inr (ai_ngt_of bx19.1 (by decide) (by decide))), ai_updO bfa0_16.2.2.1 _ (Or.inr (ai_ngt_of bx19.1 (by decide) (by decide))), ai_updO bfa0_16.2.2.2.1 _ (Or.inr (ai_ngt_of bx19.1 (by decide) (by decide))), ai_updO bfa0_16.2.2.2.2.1 _ (Or.inr (ai_ngt_of bx19.1 (by decide) (by decide))), ai_updO bfa0_16.2.2.2.2.2.1 _ (Or.inr (ai_ngt_of bx19.1 (by decide) (by decide))), ai_updO bfa0_16.2.2.2.2.2.2.1 _ (Or.inr (ai_ngt_of bx19.1 (by decide) (by decide))), ai_updO bfa0_16.2.2.2.2.2.2.2.1 _ (Or.inr (ai_ngt_of bx19.1 (by decide) (by decide))), ai_updO bfa0_16.2.2.2.2.2.2.2.2.1 _ (Or.inr (ai_ngt_of bx19.1 (by decide) (by decide))), ai_updO bfa0_16.2.2.2.2.2.2.2.2.2.1 _ (Or.inr (ai_ngt_of bx19.1 (by decide) (by decide))), ai_updO bfa0_16.2.2.2.2.2.2.2.2.2.2.1 _ (Or.inr (ai_ngt_of bx19.1 (by decide) (by decide))), ai_updS bfa0_16.2.2.2.2.2.2.2.2.2.2.2.1 _ ⟨wa49.1, (Int.le_trans wa49.2 zq189)⟩, ai_updO bfa0_16.2.2.2.2.2.2.2.2.2.2.2.2.1 _ (Or.inl (ai_nlt_of bx19.1 bx19.2 (by decide) (by decide))), fg_o bfa0_16.2.2.2.2.2.2.2.2.2.2.2.2.2.1 (by have h1 := ai_natge (n := 36) bx19.1 (by decide); have h2 := ai_natle (n := 46) bx19.2 (by decide); omega), fg_ko bfa0_16.2.2.2.2.2.2.2.2.2.2.2.2.2.2 (by have h1 := ai_natge (n := 36) bx19.1 (by decide); have h2 := ai_natle (n := 46) bx19.2 (by decide); omega)⟩
                have fqf119 := fl_up_eq ef119
                have hF0 := hF0.trans (fl_lt_eq (show (fl_A f119) = fl_up (fl_A fa0_16) (x19.toInt.toNat) r27.toInt from fqf119))
                refine lv_aload_n hx hb dX8_seenLine_120 rfl (lv_at hl 0 rfl) ?_
                refine va_get (D := (dC, dI)) (ci := 8) (v := .ref a0_16) (C := RX8) (T := TX8) (N := 40) hx hb hts zi_X8_seenLine_8 hown hK hP 0 rfl rfl 16 (by decide) (hts (.fieldLink RX8 23 "WaxTurnsModel" "fresh" "[I") (zm_X8_seenLine_r1 (List.mem_of_getElem? (i := 1) rfl))) (fun _ h9 => h9) rfl dX8_seenLine_121 ?_
                refine lv_iload_n hx hb dX8_seenLine_124 rfl (lv_at hl 1 rfl) ?_
                refine lv_iconst (v := 1) hx hb dX8_seenLine_125 zk_iconst_1 ?_
                refine lv_iadd hx hb dX8_seenLine_126 ?_
                refine lv_topi (fun x126 ex126 => ?_)
                have qx126 : x126.toInt = x19.toInt + (1 : Int32).toInt := ai_add ex126 ⟨bx19.1, bx19.2⟩ ⟨zq1, zq0⟩ (by decide) (by decide)
                have bx126 : (37 : Int) ≤ x126.toInt ∧ x126.toInt ≤ 47 := ⟨by rw [qx126]; exact Int.add_le_add bx19.1 zq1, by rw [qx126]; exact Int.add_le_add bx19.2 zq0⟩
                have wx126 : x126.toInt = x19.toInt + 1 := qx126
                have hF0 := hF0.trans (fl_lt_eq (show x126.toInt = x19.toInt + 1 from qx126))
                refine lv_iload_n hx hb dX8_seenLine_127 rfl (lv_at hl 3 rfl) ?_
                refine va_iast hx hb hK hP hD hS 1 0 rfl rfl (ai_in bx126.1 bx126.2 (by decide) (by decide)) dX8_seenLine_128 (fun H locs hP hD hS => ?_)
                obtain ⟨f128, ef128⟩ : ∃ g9 : Nat → Int32, g9 = upd f119 (x126 : Int32).toNatClampNeg j49l3 := ⟨_, rfl⟩
                refine zs_1 (y := (a0_16, .inl (ka0_16, 156, .inl (f128)))) hP hD (by rw [ef128]) (fun hP hD => ?_)
                have bf128 : ((∀ k : Nat, 0 ≤ k → k ≤ 0 → (0 : Int) ≤ (f128 k).toInt ∧ (f128 k).toInt ≤ 9) ∧ (∀ k : Nat, 1 ≤ k → k ≤ 1 → (0 : Int) ≤ (f128 k).toInt ∧ (f128 k).toInt ≤ 20) ∧ (∀ k : Nat, 2 ≤ k → k ≤ 2 → (0 : Int) ≤ (f128 k).toInt ∧ (f128 k).toInt ≤ 8) ∧ (∀ k : Nat, 3 ≤ k → k ≤ 3 → (0 : Int) ≤ (f128 k).toInt ∧ (f128 k).toInt ≤ 100) ∧ (∀ k : Nat, 4 ≤ k → k ≤ 4 → (0 : Int) ≤ (f128 k).toInt ∧ (f128 k).toInt ≤ 9) ∧ (∀ k : Nat, 5 ≤ k → k ≤ 5 → (0 : Int) ≤ (f128 k).toInt ∧ (f128 k).toInt ≤ 3) ∧ (∀ k : Nat, 6 ≤ k → k ≤ 6 → (0 : Int) ≤ (f128 k).toInt ∧ (f128 k).toInt ≤ 6) ∧ (∀ k : Nat, 7 ≤ k → k ≤ 9 → (0 : Int) ≤ (f128 k).toInt ∧ (f128 k).toInt ≤ 8) ∧ (∀ k : Nat, 10 ≤ k → k ≤ 11 → (0 : Int) ≤ (f128 k).toInt ∧ (f128 k).toInt ≤ 1) ∧ (∀ k : Nat, 12 ≤ k → k ≤ 29 → (0 : Int) ≤ (f128 k).toInt ∧ (f128 k).toInt ≤ 20) ∧ (∀ k : Nat, 30 ≤ k → k ≤ 35 → (0 : Int) ≤ (f128 k).toInt ∧ (f128 k).toInt ≤ 8) ∧ (∀ k : Nat, 36 ≤ k → k ≤ 47 → (0 : Int) ≤ (f128 k).toInt ∧ (f128 k).toInt ≤ 999) ∧ (∀ k : Nat, 48 ≤ k → k ≤ 59 → (0 : Int) ≤ (f128 k).toInt ∧ (f128 k).toInt ≤ 8) ∧ ((1 : Int) ≤ (f128 11).toInt → (2 : Int) ≤ (f128 0).toInt ∧ (1 : Int) ≤ (f128 1).toInt) ∧ (∀ (j i0 i : Int32), (0 : Int) ≤ j.toInt → j.toInt ≤ 8 → i0.toInt = 12 + 2 * j.toInt → i.toInt = 13 + 2 * j.toInt → (f128 i0.toNatClampNeg).toInt = (1 : Int32).toInt → (1 : Int) ≤ (f128 i.toNatClampNeg).toInt)) := by rw [ef128]; exact ⟨ai_updO bf119.1 _ (Or.inr (ai_ngt_of bx126.1 (by decide) (by decide))), ai_updO bf119.2.1 _ (Or.inr (ai_ngt_of bx126.1 (by decide) (by decide))), ai_updO bf119.2.2.1 _ (Or.inr (ai_ngt_of bx126.1 (by decide) (by decide))), ai_updO bf119.2.2.2.1 _ (Or.inr (ai_ngt_of bx126.1 (by decide) (by decide))), ai_updO bf119.2.2.2.2.1 _ (Or.inr (ai_ngt_of bx126.1 (by decide) (by decide))), ai_updO bf119.2.2.2.2.2.1 _ (Or.inr (ai_ngt_of bx126.1 (by decide) (by decide))), ai_updO bf119.2.2.2.2.2.2.1 _ (Or.inr (ai_ngt_of bx126.1 (by decide) (by decide))), ai_updO bf119.2.2.2.2.2.2.2.1 _ (Or.inr (ai_ngt_of bx126.1 (by decide) (by decide))), ai_updO bf119.2.2.2.2.2.2.2.2.1 _ (Or.inr (ai_ngt_of bx126.1 (by decide) (by decide))), ai_updO bf119.2.2.2.2.2.2.2.2.2.1 _ (Or.inr (ai_ngt_of bx126.1 (by decide) (by decide))), ai_updO bf119.2.2.2.2.2.2.2.2.2.2.1 _ (Or.inr (ai_ngt_of bx126.1 (by decide) (by decide))), ai_updS bf119.2.2.2.2.2.2.2.2.2.2.2.1 _ ⟨wb49.1, wb49.2⟩, ai_updO bf119.2.2.2.2.2.2.2.2.2.2.2.2.1 _ (Or.inl (ai_nlt_of bx126.1 bx126.2 (by decide) (by decide))), fg_o bf119.2.2.2.2.2.2.2.2.2.2.2.2.2.1 (by have h1 := ai_natge (n := 37) bx126.1 (by decide); have h2 := ai_natle (n := 47) bx126.2 (by decide); omega), fg_ko bf119.2.2.2.2.2.2.2.2.2.2.2.2.2.2 (by have h1 := ai_natge (n := 37) bx126.1 (by decide); have h2 := ai_natle (n := 47) bx126.2 (by decide); omega)⟩
                have fqf128 := fl_up_eq ef128
                have hF0 := hF0.trans (fl_lt_eq (show (fl_A f128) = fl_up (fl_A f119) (x126.toInt.toNat) j49l3.toInt from fqf128))
                refine lv_aload_n hx hb dX8_seenLine_129 rfl (lv_at hl 0 rfl) ?_
                refine va_get (D := (dC, dI)) (ci := 8) (v := .ref a0_16) (C := RX8) (T := TX8) (N := 40) hx hb hts zi_X8_seenLine_8 hown hK hP 0 rfl rfl 16 (by decide) (hts (.fieldLink RX8 23 "WaxTurnsModel" "fresh" "[I") (zm_X8_seenLine_r1 (List.mem_of_getElem? (i := 1) rfl))) (fun _ h9 => h9) rfl dX8_seenLine_130 ?_
                refine lv_bipush (v := 6) hx hb dX8_seenLine_133 zk_bipush_6 ?_
                refine lv_dup2_11 hx hb dX8_seenLine_135 rfl rfl ?_
                refine va_iald hx hb hK hP 1 0 rfl rfl (by unfold vp_in; decide +kernel) dX8_seenLine_136 ?_
                refine lv_topi (fun x136 ex136 => ?_)
                have bx136 : (0 : Int) ≤ x136.toInt ∧ x136.toInt ≤ 6 := by rw [ex136]; exact ai_rd bf128.2.2.2.2.2.2.1 zq15 zq16 (by decide) (by decide) (by decide)
                have fqx136 := congrArg Int32.toInt ex136
                have hF0 := hF0.trans (fl_lt_eq (show x136.toInt = (fl_A f128) (6) from fqx136))
                have u136z_x136 : x136.toInt ≤ (5 : Int) := fg_le (m := 6) ex136 (by have uef128 := fg_u ef128 (by omega) (m := 6) (by omega); rw [uef128]; have uef119 := fg_u ef119 (by omega) (m := 6) (by omega); rw [uef119]; exact h6)
                refine lv_iconst (v := 1) hx hb dX8_seenLine_137 zk_iconst_1 ?_
                refine lv_iadd hx hb dX8_seenLine_138 ?_
                refine lv_topi (fun x138 ex138 => ?_)
                have qx138 : x138.toInt = x136.toInt + (1 : Int32).toInt := ai_add ex138 ⟨bx136.1, u136z_x136⟩ ⟨zq1, zq0⟩ (by decide) (by decide)
                have bx138 : (1 : Int) ≤ x138.toInt ∧ x138.toInt ≤ 6 := ⟨by rw [qx138]; exact Int.add_le_add bx136.1 zq1, by rw [qx138]; exact Int.add_le_add u136z_x136 zq0⟩
                have wx138 : x138.toInt = x136.toInt + 1 := qx138
                have hF0 := hF0.trans (fl_lt_eq (show x138.toInt = x136.toInt + 1 from qx138))
                refine va_iast hx hb hK hP hD hS 1 0 rfl rfl (by unfold vp_in; decide +kernel) dX8_seenLine_139 (fun H locs hP hD hS => ?_)
                obtain ⟨f139, ef139⟩ : ∃ g9 : Nat → Int32, g9 = upd f128 (6 : Int32).toNatClampNeg x138 := ⟨_, rfl⟩
                refine zs_1 (y := (a0_16, .inl (ka0_16, 156, .inl (f139)))) hP hD (by rw [ef139]) (fun hP hD => ?_)
                have bf139 : ((∀ k : Nat, 0 ≤ k → k ≤ 0 → (0 : Int) ≤ (f139 k).toInt ∧ (f139 k).toInt ≤ 9) ∧ (∀ k : Nat, 1 ≤ k → k ≤ 1 → (0 : Int) ≤ (f139 k).toInt ∧ (f139 k).toInt ≤ 20) ∧ (∀ k : Nat, 2 ≤ k → k ≤ 2 → (0 : Int) ≤ (f139 k).toInt ∧ (f139 k).toInt ≤ 8) ∧ (∀ k : Nat, 3 ≤ k → k ≤ 3 → (0 : Int) ≤ (f139 k).toInt ∧ (f139 k).toInt ≤ 100) ∧ (∀ k : Nat, 4 ≤ k → k ≤ 4 → (0 : Int) ≤ (f139 k).toInt ∧ (f139 k).toInt ≤ 9) ∧ (∀ k : Nat, 5 ≤ k → k ≤ 5 → (0 : Int) ≤ (f139 k).toInt ∧ (f139 k).toInt ≤ 3) ∧ (∀ k : Nat, 6 ≤ k → k ≤ 6 → (0 : Int) ≤ (f139 k).toInt ∧ (f139 k).toInt ≤ 6) ∧ (∀ k : Nat, 7 ≤ k → k ≤ 9 → (0 : Int) ≤ (f139 k).toInt ∧ (f139 k).toInt ≤ 8) ∧ (∀ k : Nat, 10 ≤ k → k ≤ 11 → (0 : Int) ≤ (f139 k).toInt ∧ (f139 k).toInt ≤ 1) ∧ (∀ k : Nat, 12 ≤ k → k ≤ 29 → (0 : Int) ≤ (f139 k).toInt ∧ (f139 k).toInt ≤ 20) ∧ (∀ k : Nat, 30 ≤ k → k ≤ 35 → (0 : Int) ≤ (f139 k).toInt ∧ (f139 k).toInt ≤ 8) ∧ (∀ k : Nat, 36 ≤ k → k ≤ 47 → (0 : Int) ≤ (f139 k).toInt ∧ (f139 k).toInt ≤ 999) ∧ (∀ k : Nat, 48 ≤ k → k ≤ 59 → (0 : Int) ≤ (f139 k).toInt ∧ (f139 k).toInt ≤ 8) ∧ ((1 : Int) ≤ (f139 11).toInt → (2 : Int) ≤ (f139 0).toInt ∧ (1 : Int) ≤ (f139 1).toInt) ∧ (∀ (j i0 i : Int32), (0 : Int) ≤ j.toInt → j.toInt ≤ 8 → i0.toInt = 12 + 2 * j.toInt → i.toInt = 13 + 2 * j.toInt → (f139 i0.toNatClampNeg).toInt = (1 : Int32).toInt → (1 : Int) ≤ (f139 i.toNatClampNeg).toInt)) := by rw [ef139]; exact ⟨ai_updO bf128.1 _ (Or.inr (ai_ngt_of zq15 (by decide) (by decide))), ai_updO bf128.2.1 _ (Or.inr (ai_ngt_of zq15 (by decide) (by decide))), ai_updO bf128.2.2.1 _ (Or.inr (ai_ngt_of zq15 (by decide) (by decide))), ai_updO bf128.2.2.2.1 _ (Or.inr (ai_ngt_of zq15 (by decide) (by decide))), ai_updO bf128.2.2.2.2.1 _ (Or.inr (ai_ngt_of zq15 (by decide) (by decide))), ai_updO bf128.2.2.2.2.2.1 _ (Or.inr (ai_ngt_of zq15 (by decide) (by decide))), ai_updS bf128.2.2.2.2.2.2.1 _ ⟨(Int.le_trans zq4 bx138.1), bx138.2⟩, ai_updO bf128.2.2.2.2.2.2.2.1 _ (Or.inl (ai_nlt_of zq15 zq16 (by decide) (by decide))), ai_updO bf128.2.2.2.2.2.2.2.2.1 _ (Or.inl (ai_nlt_of zq15 zq16 (by decide) (by decide))), ai_updO bf128.2.2.2.2.2.2.2.2.2.1 _ (Or.inl (ai_nlt_of zq15 zq16 (by decide) (by decide))), ai_updO bf128.2.2.2.2.2.2.2.2.2.2.1 _ (Or.inl (ai_nlt_of zq15 zq16 (by decide) (by decide))), ai_updO bf128.2.2.2.2.2.2.2.2.2.2.2.1 _ (Or.inl (ai_nlt_of zq15 zq16 (by decide) (by decide))), ai_updO bf128.2.2.2.2.2.2.2.2.2.2.2.2.1 _ (Or.inl (ai_nlt_of zq15 zq16 (by decide) (by decide))), fg_o bf128.2.2.2.2.2.2.2.2.2.2.2.2.2.1 (by decide +kernel), fg_ko bf128.2.2.2.2.2.2.2.2.2.2.2.2.2.2 (by decide +kernel)⟩
                have kf139_6 : f139 6 = x138 := by rw [ef139]; exact ai_k1 (by decide +kernel)
                have fqf139 := fl_up_eq ef139
                have hF0 := hF0.trans (fl_lt_eq (show (fl_A f139) = fl_up (fl_A f128) (6) x138.toInt from fqf139))
                have hFe : FX = (v102na0_4.toInt, v102na0_5.toInt, v102na0_6.toInt, v102na0_7.toInt, v102na0_8.toInt, j49a0_9.toInt, j49a0_10.toInt, 0, (fl_A f139), (fl_A v102nfa0_12)) := hF0
                exact W.vret hx hb hr (fun t ht hW => ⟨⟨(), rfl, trivial, v102na0_4, v102na0_5, v102na0_6, v102na0_7, v102na0_8, j49a0_9, j49a0_10, 0, f139, v102nfa0_12, ⟨bv102na0_5.1, bv102na0_5.2⟩, ⟨bv102na0_8.1, bv102na0_8.2⟩, ⟨zq5, Int.le_trans zq6 (by decide)⟩, bf139, (Or.inr rfl), (em_t em49 hraw102_1), hFe, by rw [ht]; exact hP, va_K.moved hW.alike hK, hD⟩, hS.F ht⟩) hS.2.2 dX8_seenLine_140
              · have gc58 := ai_nle c58
                have u58f_j49l4 : j49l4.toInt ≤ (4 : Int) := ai_lthi gc58 u57z_x57
                have l58f_x57 : (1 : Int) ≤ x57.toInt := ai_ltlo gc58 bj49l4_l
                have hF1 := hF1.trans (if_neg (show ¬ (x57.toInt ≤ j49l4.toInt) from Int.not_le.mpr gc58))
                refine lv_aload_n hx hb dX8_seenLine_61 rfl (lv_at hl 0 rfl) ?_
                refine va_get (D := (dC, dI)) (ci := 8) (v := .int 0) (C := RX8) (T := TX8) (N := 40) hx hb hts zi_X8_seenLine_8 hown hK hP 0 rfl rfl 13 (by decide) (hts (.fieldLink RX8 97 "WaxTurnsModel" "failed" "Z") (zm_X8_seenLine_r1 (List.mem_of_getElem? (i := 0) rfl))) (fun _ h9 => h9) rfl dX8_seenLine_62 ?_
                refine lv_if_ne (tgt := 95) hx hb dX8_seenLine_65 (by decide) (fun c65 => absurd (by decide +kernel) c65) (fun _ => ?_)
                refine lv_aload_n hx hb dX8_seenLine_68 rfl (lv_at hl 0 rfl) ?_
                refine va_get (D := (dC, dI)) (ci := 8) (v := .ref a0_16) (C := RX8) (T := TX8) (N := 40) hx hb hts zi_X8_seenLine_8 hown hK hP 0 rfl rfl 16 (by decide) (hts (.fieldLink RX8 23 "WaxTurnsModel" "fresh" "[I") (zm_X8_seenLine_r1 (List.mem_of_getElem? (i := 1) rfl))) (fun _ h9 => h9) rfl dX8_seenLine_69 ?_
                refine lv_bipush (v := 36) hx hb dX8_seenLine_72 zk_bipush_36 ?_
                refine lv_iconst (v := 2) hx hb dX8_seenLine_74 zk_iconst_2 ?_
                refine lv_iload hx hb dX8_seenLine_75 (lv_at hl 4 rfl) ?_
                refine lv_imul hx hb dX8_seenLine_77 ?_
                refine lv_topi (fun x77 ex77 => ?_)
                have qx77 : x77.toInt = (2 : Int32).toInt * j49l4.toInt ∧ (0 : Int) ≤ x77.toInt ∧ x77.toInt ≤ 8 := ai_mul ex77 ⟨zq12, zq13⟩ ⟨bj49l4_l, u58f_j49l4⟩ (by decide) (by decide) zq238
                have wx77 : x77.toInt = 2 * j49l4.toInt := qx77.1
                have hF1 := hF1.trans (fl_lt_eq (show x77.toInt = 2 * j49l4.toInt from qx77.1))
                refine lv_iadd hx hb dX8_seenLine_78 ?_
                refine lv_topi (fun x78 ex78 => ?_)
                have qx78 : x78.toInt = (36 : Int32).toInt + x77.toInt := ai_add ex78 ⟨zq182, zq183⟩ ⟨qx77.2.1, qx77.2.2⟩ (by decide) (by decide)
                have bx78 : (36 : Int) ≤ x78.toInt ∧ x78.toInt ≤ 44 := ⟨by rw [qx78]; exact Int.add_le_add zq182 qx77.2.1, by rw [qx78]; exact Int.add_le_add zq183 qx77.2.2⟩
                have wx78 : x78.toInt = 36 + x77.toInt := qx78
                have hF1 := hF1.trans (fl_lt_eq (show x78.toInt = 36 + x77.toInt from qx78))
                refine lv_iconst (v := 1) hx hb dX8_seenLine_79 zk_iconst_1 ?_
                refine lv_iadd hx hb dX8_seenLine_80 ?_
                refine lv_topi (fun x80 ex80 => ?_)
                have qx80 : x80.toInt = x78.toInt + (1 : Int32).toInt := ai_add ex80 ⟨bx78.1, bx78.2⟩ ⟨zq1, zq0⟩ (by decide) (by decide)
                have bx80 : (37 : Int) ≤ x80.toInt ∧ x80.toInt ≤ 45 := ⟨by rw [qx80]; exact Int.add_le_add bx78.1 zq1, by rw [qx80]; exact Int.add_le_add bx78.2 zq0⟩
                have wx80 : x80.toInt = x78.toInt + 1 := qx80
                have hF1 := hF1.trans (fl_lt_eq (show x80.toInt = x78.toInt + 1 from qx80))
                refine va_iald hx hb hK hP 1 0 rfl rfl (ai_in bx80.1 bx80.2 (by decide) (by decide)) dX8_seenLine_81 ?_
                refine lv_topi (fun x81 ex81 => ?_)
                have bx81 : (0 : Int) ≤ x81.toInt ∧ x81.toInt ≤ 999 := by rw [ex81]; exact ai_rd bfa0_16.2.2.2.2.2.2.2.2.2.2.2.1 bx80.1 bx80.2 (by decide) (by decide) (by decide)
                have fqx81 := congrArg Int32.toInt ex81
                have hF1 := hF1.trans (fl_lt_eq (show x81.toInt = (fl_A fa0_16) (x80.toInt.toNat) from fqx81))
                refine lv_iload_n hx hb dX8_seenLine_82 rfl (lv_at hl 3 rfl) ?_
                refine lv_icmp_ne (tgt := 95) hx hb dX8_seenLine_83 (by decide) (fun c83 => ?_) (fun c83 => ?_)
                · have gc83 := ai_ne c83
                  have hF1 := hF1.trans (if_neg (show ¬ (x81.toInt = j49l3.toInt) from  gc83))
                  obtain ⟨x95, ex95⟩ : ∃ y : Int32, y = j49l4 + Int32.ofInt 1 := ⟨_, rfl⟩
                  have qx95 : x95.toInt = j49l4.toInt + 1 := ai_inc ex95 (by decide) (by decide) u58f_j49l4 (by decide)
                  have bx95 : (1 : Int) ≤ x95.toInt ∧ x95.toInt ≤ 5 := ⟨by rw [qx95]; exact Int.add_le_add bj49l4_l (Int.le_refl _), by rw [qx95]; exact Int.add_le_add u58f_j49l4 (Int.le_refl _)⟩
                  refine lv_iinc (v := x95) (lv' := [(4, .int x95), (0, .ref a0), (1, .int x19), (2, .int r27), (3, .int j49l3)]) hx hb dX8_seenLine_95 hl (k := 4) rfl ex95.symm (by decide) rfl (fun ls hl => ?_)
                  have hF1 := hF1.trans (fl_lt_eq (show x95.toInt = j49l4.toInt + 1 from qx95))
                  refine lv_goto (tgt := 49) hx hb dX8_seenLine_98 (by decide) ?_
                  exact (hK0 _ _ _).mp (ih49 x95 j49l3 j49a0_4 j49a0_5 j49a0_6 j49a0_7 j49a0_8 j49a0_9 j49a0_10 0 j49a0_12_a _ _ _ (by first | exact zg_s hm49 qx95 | (have h0 := qx95; omega)) (Int.le_trans zq4 bx95.1) bx95.2 wb49.1 wb49.2 bj49a0_5_l bj49a0_5_u bj49a0_8_l bj49a0_8_u zq5 (Int.le_trans zq6 zq4) (by omega) ⟨wa49.1, wa49.2⟩ ⟨wb49.1, wb49.2⟩ (by rw [show (0 : Int32).toInt = 0 from by decide]; exact (hF0.trans (fl_wh_l (hSX49.trans hF1)))) hP hD hS (lv_sub hl [1, 2, 3, 4, 0] rfl))
                · have gc83 := ai_eq c83
                  have u83f_x81 : x81.toInt ≤ (999 : Int) := bx81.2
                  have l83f_x81 : (0 : Int) ≤ x81.toInt := bx81.1
                  have u83f_j49l3 : j49l3.toInt ≤ (999 : Int) := wb49.2
                  have l83f_j49l3 : (0 : Int) ≤ j49l3.toInt := wb49.1
                  have hF1 := hF1.trans (if_pos (show x81.toInt = j49l3.toInt from gc83))
                  refine lv_aload_n hx hb dX8_seenLine_86 rfl (lv_at hl 0 rfl) ?_
                  refine lv_iconst (v := 3) hx hb dX8_seenLine_87 zk_iconst_3 ?_
                  refine lv_aload_n hx hb dX8_seenLine_88 rfl (lv_at hl 0 rfl) ?_
                  refine va_get (D := (dC, dI)) (ci := 8) (v := .int j49a0_4) (C := RX8) (T := TX8) (N := 40) hx hb hts zi_X8_seenLine_8 hown hK hP 0 rfl rfl 4 (by decide) (hts (.fieldLink RX8 78 "WaxTurnsModel" "at" "I") (zm_X8_seenLine_r1 (List.mem_of_getElem? (i := 2) rfl))) (fun _ h9 => h9) rfl dX8_seenLine_89 ?_
                  refine va_callv (va_runV (As := [.int 3, .int j49a0_4]) (rest := []) ⟨hx, hb, hml, hown, hts⟩ (fG_X8_wrong l dC dI H.size a0 3 j49a0_4 a0g_0 (Value.ref a0_1) a0g_2 (Value.int a0_3) (Value.int j49a0_4) (Value.int j49a0_5) (Value.int j49a0_6) (Value.int j49a0_7) (Value.int j49a0_8) a0g_11 (Value.ref a0_12) a0g_14 a0g_15 (Value.ref a0_16) a0g_17 a0g_18 a0g_19 a0g_20 a0g_21 a0g_22 a0g_23 a0g_24 a0g_25 a0g_26 a0g_27 a0g_28 a0g_29 a0g_30 a0g_31 a0g_32 a0g_33 a0g_34 a0g_35 a0g_36 a0g_37 a0g_38 a0g_39 j49a0_9 j49a0_10 ) (cwV 2 hts gX8_seenLine_X8_wrong rfl rfl rfl zd_X8_wrong ⟨Nat.le_of_ble_eq_true rfl, Nat.le_of_ble_eq_true rfl⟩) ⟨ax_blind (fun _ _ _ _ _ => trivial), zr_8 (zp_K hK) (zp_P1 hP) (q0 := 0) rfl, ax_pre (zp_P1 hP) (zp_K hK) (zp_D1 hD) (fun _ _ => trivial)⟩ rfl rfl hl.1 rfl (lv_room (Nat.le_of_ble_eq_true rfl)) dX8_seenLine_92 ⟨Nat.le_of_ble_eq_true rfl, Nat.le_of_ble_eq_true rfl⟩) hS (fun q _ h => zp_F1 hD hS hA q h) (zp_F1 hD hS hA) (fun u t H locs ht hvm hw => zx_2 (fun v92na0_9 v92na0_10 => zy_1 (fun hraw92_0 hB hz1 hk1 hS1 => zo1 hB ht hP hD hk1 (zp_F1 hD hS hA) hS1 (fun hP hK1 hD hS => ?_))))
                  rw [show (3 : Int32).toInt = 3 from by decide] at hraw92_0
                  have hc92 : FfG_X8_wrong 3 j49a0_4.toInt = (v92na0_9.toInt, v92na0_10.toInt) := hraw92_0
                  have hF1 := hF1.trans (fl_c2_eq hc92)
                  obtain ⟨x95, ex95⟩ : ∃ y : Int32, y = j49l4 + Int32.ofInt 1 := ⟨_, rfl⟩
                  have qx95 : x95.toInt = j49l4.toInt + 1 := ai_inc ex95 (by decide) (by decide) u58f_j49l4 (by decide)
                  have bx95 : (1 : Int) ≤ x95.toInt ∧ x95.toInt ≤ 5 := ⟨by rw [qx95]; exact Int.add_le_add bj49l4_l (Int.le_refl _), by rw [qx95]; exact Int.add_le_add u58f_j49l4 (Int.le_refl _)⟩
                  refine lv_iinc (v := x95) (lv' := [(4, .int x95), (0, .ref a0), (1, .int x19), (2, .int r27), (3, .int j49l3)]) hx hb dX8_seenLine_95 hl (k := 4) rfl ex95.symm (by decide) rfl (fun ls hl => ?_)
                  have hF1 := hF1.trans (fl_lt_eq (show x95.toInt = j49l4.toInt + 1 from qx95))
                  refine lv_goto (tgt := 49) hx hb dX8_seenLine_98 (by decide) ?_
                  exact (hK0 _ _ _).mp (ih49 x95 j49l3 j49a0_4 j49a0_5 j49a0_6 j49a0_7 j49a0_8 v92na0_9 v92na0_10 1 j49a0_12_a _ _ _ (by first | exact zg_s hm49 qx95 | (have h0 := qx95; omega)) (Int.le_trans zq4 bx95.1) bx95.2 l83f_j49l3 u83f_j49l3 bj49a0_5_l bj49a0_5_u bj49a0_8_l bj49a0_8_u (Int.le_trans zq4 zq1) zq0 (by omega) ⟨wa49.1, wa49.2⟩ ⟨l83f_j49l3, u83f_j49l3⟩ (by rw [show (1 : Int32).toInt = 1 from by decide]; exact (hF0.trans (fl_wh_l (hSX49.trans hF1)))) hP hD hS (lv_sub hl [1, 2, 3, 4, 0] rfl))
            · subst hv49
              have hF1 := hF1.trans (if_neg (by decide))
              refine lv_iload hx hb dX8_seenLine_49 (lv_at hl 4 rfl) ?_
              refine lv_aload_n hx hb dX8_seenLine_51 rfl (lv_at hl 0 rfl) ?_
              refine va_get (D := (dC, dI)) (ci := 8) (v := .ref a0_16) (C := RX8) (T := TX8) (N := 40) hx hb hts zi_X8_seenLine_8 hown hK hP 0 rfl rfl 16 (by decide) (hts (.fieldLink RX8 23 "WaxTurnsModel" "fresh" "[I") (zm_X8_seenLine_r1 (List.mem_of_getElem? (i := 1) rfl))) (fun _ h9 => h9) rfl dX8_seenLine_52 ?_
              refine lv_bipush (v := 6) hx hb dX8_seenLine_55 zk_bipush_6 ?_
              refine va_iald hx hb hK hP 1 0 rfl rfl (by unfold vp_in; decide +kernel) dX8_seenLine_57 ?_
              refine lv_topi (fun x57 ex57 => ?_)
              have bx57 : (0 : Int) ≤ x57.toInt ∧ x57.toInt ≤ 6 := by rw [ex57]; exact ai_rd bfa0_16.2.2.2.2.2.2.1 zq15 zq16 (by decide) (by decide) (by decide)
              have fqx57 := congrArg Int32.toInt ex57
              have hF1 := hF1.trans (fl_lt_eq (show x57.toInt = (fl_A fa0_16) (6) from fqx57))
              have u57z_x57 : x57.toInt ≤ (5 : Int) := fg_le (m := 6) ex57 h6
              refine lv_icmp_ge (tgt := 101) hx hb dX8_seenLine_58 (by decide) (fun c58 => ?_) (fun c58 => ?_)
              · have gc58 := ai_le c58
                have u58t_x57 : x57.toInt ≤ (5 : Int) := u57z_x57
                have l58t_j49l4 : (0 : Int) ≤ j49l4.toInt := bj49l4_l
                have hF1 := hF1.trans (if_pos (show x57.toInt ≤ j49l4.toInt from gc58))
                have hF0 := hF0.trans (fl_wh_r (hSX49.trans hF1))
                refine lv_aload_n hx hb dX8_seenLine_101 rfl (lv_at hl 0 rfl) ?_
                refine va_callv (va_runV (As := []) (rest := []) ⟨hx, hb, hml, hown, hts⟩ (fF_X8_pass l dC dI H.size a0 a0g_0 (Value.ref a0_1) a0g_2 (Value.int a0_3) (Value.int j49a0_4) (Value.int j49a0_5) (Value.int j49a0_6) (Value.int j49a0_7) (Value.int j49a0_8) (Value.int j49a0_9) (Value.int j49a0_10) a0g_11 (Value.ref a0_12) a0g_14 a0g_15 (Value.ref a0_16) a0g_17 a0g_18 a0g_19 a0g_20 a0g_21 a0g_22 a0g_23 a0g_24 a0g_25 a0g_26 a0g_27 a0g_28 a0g_29 a0g_30 a0g_31 a0g_32 a0g_33 a0g_34 a0g_35 a0g_36 a0g_37 a0g_38 a0g_39 ) (cwV 0 hts gX8_seenLine_X8_pass rfl rfl rfl zd_X8_pass ⟨Nat.le_of_ble_eq_true rfl, Nat.le_of_ble_eq_true rfl⟩) ⟨ax_blind (fun _ _ _ _ _ => trivial), zr_8 (zp_K hK) (zp_P1 hP) (q0 := 0) rfl, ax_pre (zp_P1 hP) (zp_K hK) (zp_D1 hD) (fun _ _ => trivial)⟩ rfl rfl hl.1 rfl (lv_room (Nat.le_of_ble_eq_true rfl)) dX8_seenLine_102 ⟨Nat.le_of_ble_eq_true rfl, Nat.le_of_ble_eq_true rfl⟩) hS (fun q _ h => zp_F1 hD hS hA q h) (zp_F1 hD hS hA) (fun u t H locs ht hvm hw hB hz1 hk1 hS1 => zo1 hB ht hP hD hk1 (zp_F1 hD hS hA) hS1 (fun hP hK1 hD hS => ?_))
                refine lv_aload_n hx hb dX8_seenLine_105 rfl (lv_at hl 0 rfl) ?_
                refine va_get (D := (dC, dI)) (ci := 8) (v := .int 1) (C := RX8) (T := TX8) (N := 40) hx hb hts zi_X8_seenLine_8 hown hK hP 0 rfl rfl 13 (by decide) (hts (.fieldLink RX8 97 "WaxTurnsModel" "failed" "Z") (zm_X8_seenLine_r1 (List.mem_of_getElem? (i := 0) rfl))) (fun _ h9 => h9) rfl dX8_seenLine_106 ?_
                refine lv_if_eq (tgt := 113) hx hb dX8_seenLine_109 (by decide) (fun c109 => absurd c109 (by decide +kernel)) (fun _ => ?_)
                have hFe : FX = (j49a0_4.toInt, j49a0_5.toInt, j49a0_6.toInt, j49a0_7.toInt, j49a0_8.toInt, j49a0_9.toInt, j49a0_10.toInt, 1, (fl_A fa0_16), (fl_A j49a0_12_a)) := hF0
                exact W.vret hx hb hr (fun t ht hW => ⟨⟨(), rfl, trivial, j49a0_4, j49a0_5, j49a0_6, j49a0_7, j49a0_8, j49a0_9, j49a0_10, 1, fa0_16, j49a0_12_a, ⟨bj49a0_5_l, bj49a0_5_u⟩, ⟨bj49a0_8_l, bj49a0_8_u⟩, ⟨Int.le_trans (by decide) zq1, zq0⟩, bfa0_16, (Or.inl rfl), em49, hFe, by rw [ht]; exact hP, va_K.moved hW.alike hK, hD⟩, hS.F ht⟩) hS.2.2 dX8_seenLine_112
              · have gc58 := ai_nle c58
                have u58f_j49l4 : j49l4.toInt ≤ (4 : Int) := ai_lthi gc58 u57z_x57
                have l58f_x57 : (1 : Int) ≤ x57.toInt := ai_ltlo gc58 bj49l4_l
                have hF1 := hF1.trans (if_neg (show ¬ (x57.toInt ≤ j49l4.toInt) from Int.not_le.mpr gc58))
                refine lv_aload_n hx hb dX8_seenLine_61 rfl (lv_at hl 0 rfl) ?_
                refine va_get (D := (dC, dI)) (ci := 8) (v := .int 1) (C := RX8) (T := TX8) (N := 40) hx hb hts zi_X8_seenLine_8 hown hK hP 0 rfl rfl 13 (by decide) (hts (.fieldLink RX8 97 "WaxTurnsModel" "failed" "Z") (zm_X8_seenLine_r1 (List.mem_of_getElem? (i := 0) rfl))) (fun _ h9 => h9) rfl dX8_seenLine_62 ?_
                refine lv_if_ne (tgt := 95) hx hb dX8_seenLine_65 (by decide) (fun _ => ?_) (fun c65 => absurd c65 (by decide +kernel))
                obtain ⟨x95, ex95⟩ : ∃ y : Int32, y = j49l4 + Int32.ofInt 1 := ⟨_, rfl⟩
                have qx95 : x95.toInt = j49l4.toInt + 1 := ai_inc ex95 (by decide) (by decide) u58f_j49l4 (by decide)
                have bx95 : (1 : Int) ≤ x95.toInt ∧ x95.toInt ≤ 5 := ⟨by rw [qx95]; exact Int.add_le_add bj49l4_l (Int.le_refl _), by rw [qx95]; exact Int.add_le_add u58f_j49l4 (Int.le_refl _)⟩
                refine lv_iinc (v := x95) (lv' := [(4, .int x95), (0, .ref a0), (1, .int x19), (2, .int r27), (3, .int j49l3)]) hx hb dX8_seenLine_95 hl (k := 4) rfl ex95.symm (by decide) rfl (fun ls hl => ?_)
                have hF1 := hF1.trans (fl_lt_eq (show x95.toInt = j49l4.toInt + 1 from qx95))
                refine lv_goto (tgt := 49) hx hb dX8_seenLine_98 (by decide) ?_
                exact (hK0 _ _ _).mp (ih49 x95 j49l3 j49a0_4 j49a0_5 j49a0_6 j49a0_7 j49a0_8 j49a0_9 j49a0_10 1 j49a0_12_a _ _ _ (by first | exact zg_s hm49 qx95 | (have h0 := qx95; omega)) (Int.le_trans zq4 bx95.1) bx95.2 wb49.1 wb49.2 bj49a0_5_l bj49a0_5_u bj49a0_8_l bj49a0_8_u (Int.le_trans zq4 zq1) zq0 (by omega) ⟨wa49.1, wa49.2⟩ ⟨wb49.1, wb49.2⟩ (by rw [show (1 : Int32).toInt = 1 from by decide]; exact (hF0.trans (fl_wh_l (hSX49.trans hF1)))) hP hD hS (lv_sub hl [1, 2, 3, 4, 0] rfl))
        exact (hK0 _ _ _).mp (J49 6 0 r42 v34na0_4 v34na0_5 v34na0_6 v34na0_7 v34na0_8 v42na0_9 v42na0_10 1 v34nfa0_12 _ _ _ (by first | decide +kernel | (have h1 : (0 : Int) ≤ (0 : Int32).toInt := zq5; have h2 : (0 : Int32).toInt ≤ (0 : Int) := zq6; omega)) zq5 (Int.le_trans zq6 zq224) (Int.le_trans zq5 (Int.le_of_eq (congrArg Int32.toInt h42).symm)) (Int.le_trans (Int.le_trans (Int.le_of_eq (congrArg Int32.toInt h42)) zq6) zq81) bv34na0_5.1 bv34na0_5.2 bv34na0_8.1 bv34na0_8.2 (Int.le_trans zq4 zq1) zq0 (by omega) ⟨(Int.le_trans zq5 h27.1), (Int.le_trans h27.2 h24_1)⟩ ⟨(Int.le_trans zq5 (Int.le_of_eq (congrArg Int32.toInt h42).symm)), (Int.le_trans (Int.le_trans (Int.le_of_eq (congrArg Int32.toInt h42)) zq6) zq81)⟩ (by rw [show (0 : Int32).toInt = 0 from by decide, show (1 : Int32).toInt = 1 from by decide]; exact hF0) hP hD hS (lv_sub hl [4, 3, 2, 1, 0] rfl))
      · obtain ⟨hw, h42⟩ := hw
        subst hw
        have hF0 := hF0.trans (if_neg (by decide))
        refine lv_istore_n (lv' := [(3, .int r42), (2, .int r27), (1, .int x19), (0, .ref a0)]) hx hb dX8_seenLine_45 rfl hl (by decide) rfl (fun ls hl => ?_)
        refine lv_iconst (v := 0) hx hb dX8_seenLine_46 zk_iconst_0 ?_
        refine lv_istore (lv' := [(4, .int 0), (3, .int r42), (2, .int r27), (1, .int x19), (0, .ref a0)]) hx hb dX8_seenLine_47 hl (by decide) rfl (fun ls hl => ?_)
        have J49 : ∀ (n : Nat) (j49l4 : Int32) (j49l3 : Int32) (j49a0_4 : Int32) (j49a0_5 : Int32) (j49a0_6 : Int32) (j49a0_7 : Int32) (j49a0_8 : Int32) (j49a0_9 : Int32) (j49a0_10 : Int32) (j49a0_13 : Int32) (j49a0_12_a : Nat → Int32) (H : Heap) (locs : List Loc) (ls : Array Slot), (6 : Int) - j49l4.toInt ≤ (n : Int) → (0 : Int) ≤ j49l4.toInt → j49l4.toInt ≤ (5 : Int) → (0 : Int) ≤ j49l3.toInt → j49l3.toInt ≤ (999 : Int) → (0 : Int) ≤ j49a0_5.toInt → j49a0_5.toInt ≤ (900 : Int) → (0 : Int) ≤ j49a0_8.toInt → j49a0_8.toInt ≤ (900 : Int) → (0 : Int) ≤ j49a0_13.toInt → j49a0_13.toInt ≤ (1 : Int) → (a0_5.toInt ≤ j49a0_5.toInt ∧ ((j49a0_5.toInt = a0_5.toInt ∧ j49a0_6.toInt = a0_6.toInt) ∨ j49a0_6.toInt ≠ 59 ∨ a0_5.toInt < j49a0_5.toInt)) → ((0 : Int) ≤ r27.toInt ∧ r27.toInt ≤ 8) → ((0 : Int) ≤ j49l3.toInt ∧ j49l3.toInt ≤ 999) → (FX = fl_wh (fun t9 => SfG_X8_seenLine_49_4 a0_3.toInt (fl_A fa0_16) (fl_A fa0_1) x19.toInt r27.toInt t9.1 t9.2.1 t9.2.2.1 t9.2.2.2.1 t9.2.2.2.2.1 t9.2.2.2.2.2.1 t9.2.2.2.2.2.2.1 t9.2.2.2.2.2.2.2.1 t9.2.2.2.2.2.2.2.2.1 t9.2.2.2.2.2.2.2.2.2.1 t9.2.2.2.2.2.2.2.2.2.2) (0, 0, 0, 0, 0, 0, 0, 0, (fun _ => 0), (fun _ => 0)) n (j49l4.toInt, j49l3.toInt, j49a0_4.toInt, j49a0_5.toInt, j49a0_6.toInt, j49a0_7.toInt, j49a0_8.toInt, j49a0_9.toInt, j49a0_10.toInt, j49a0_13.toInt, (fl_A j49a0_12_a))) → va_P (dC, dI) vwCl [(a0, .inr (8, [a0g_0, Value.ref a0_1, a0g_2, Value.int a0_3, Value.int j49a0_4, Value.int j49a0_5, Value.int j49a0_6, Value.int j49a0_7, Value.int j49a0_8, Value.int j49a0_9, Value.int j49a0_10, a0g_11, Value.ref a0_12, Value.int j49a0_13, a0g_14, a0g_15, Value.ref a0_16, a0g_17, a0g_18, a0g_19, a0g_20, a0g_21, a0g_22, a0g_23, a0g_24, a0g_25, a0g_26, a0g_27, a0g_28, a0g_29, a0g_30, a0g_31, a0g_32, a0g_33, a0g_34, a0g_35, a0g_36, a0g_37, a0g_38, a0g_39])), (a0_16, .inl (ka0_16, 156, .inl (fa0_16))), (a0_1, .inl (ka0_1, 900, .inl (fa0_1))), (a0_12, .inl (ka0_12, 8, .inl (j49a0_12_a)))] H → va_D A [(a0, .inr (8, [a0g_0, Value.ref a0_1, a0g_2, Value.int a0_3, Value.int j49a0_4, Value.int j49a0_5, Value.int j49a0_6, Value.int j49a0_7, Value.int j49a0_8, Value.int j49a0_9, Value.int j49a0_10, a0g_11, Value.ref a0_12, Value.int j49a0_13, a0g_14, a0g_15, Value.ref a0_16, a0g_17, a0g_18, a0g_19, a0g_20, a0g_21, a0g_22, a0g_23, a0g_24, a0g_25, a0g_26, a0g_27, a0g_28, a0g_29, a0g_30, a0g_31, a0g_32, a0g_33, a0g_34, a0g_35, a0g_36, a0g_37, a0g_38, a0g_39])), (a0_16, .inl (ka0_16, 156, .inl (fa0_16))), (a0_1, .inl (ka0_1, 900, .inl (fa0_1))), (a0_12, .inl (ka0_12, 8, .inl (j49a0_12_a)))] → va_S A s.heap H locs → lv_has ls 5 [(0, .ref a0), (1, .int x19), (2, .int r27), (3, .int j49l3), (4, .int j49l4)] → K H locs (F0 m 49 ls []) := by
          intro n
          induction n with
          | zero =>
            intro j49l4 j49l3 j49a0_4 j49a0_5 j49a0_6 j49a0_7 j49a0_8 j49a0_9 j49a0_10 j49a0_13 j49a0_12_a H locs ls hm bj49l4_l bj49l4_u bj49l3_l bj49l3_u bj49a0_5_l bj49a0_5_u bj49a0_8_l bj49a0_8_u bj49a0_13_l bj49a0_13_u em49 wa49 wb49 hF0 hP hD hS hl
            first | exact zg_0 hm bj49l4_u (by decide) | (have h8 := ai_min j49l4; have h9 := ai_max j49l4; exact absurd hm (by omega))
          | succ n ih49 =>
            intro j49l4 j49l3 j49a0_4 j49a0_5 j49a0_6 j49a0_7 j49a0_8 j49a0_9 j49a0_10 j49a0_13 j49a0_12_a H locs ls hm bj49l4_l bj49l4_u bj49l3_l bj49l3_u bj49a0_5_l bj49a0_5_u bj49a0_8_l bj49a0_8_u bj49a0_13_l bj49a0_13_u em49 wa49 wb49 hF0 hP hD hS hl
            refine (hK0 _ _ _).mpr ?_
            have hm49 := hm
            obtain ⟨SX49, hSX49⟩ : ∃ q9, SfG_X8_seenLine_49_4 a0_3.toInt (fl_A fa0_16) (fl_A fa0_1) x19.toInt r27.toInt j49l4.toInt j49l3.toInt j49a0_4.toInt j49a0_5.toInt j49a0_6.toInt j49a0_7.toInt j49a0_8.toInt j49a0_9.toInt j49a0_10.toInt j49a0_13.toInt (fl_A j49a0_12_a) = q9 := ⟨_, rfl⟩
            have hF1 := hSX49.symm.trans (SfG_X8_seenLine_49_4.eq_1 a0_3.toInt (fl_A fa0_16) (fl_A fa0_1) x19.toInt r27.toInt j49l4.toInt j49l3.toInt j49a0_4.toInt j49a0_5.toInt j49a0_6.toInt j49a0_7.toInt j49a0_8.toInt j49a0_9.toInt j49a0_10.toInt j49a0_13.toInt (fl_A j49a0_12_a))
            have hv49 : j49a0_13 = 0 ∨ j49a0_13 = 1 := by
              have h1 : (0 : Int) ≤ j49a0_13.toInt := bj49a0_13_l
              have h2 : j49a0_13.toInt ≤ (1 : Int) := bj49a0_13_u
              rcases (show j49a0_13.toInt = 0 ∨ j49a0_13.toInt = 1 by omega) with h | h
              · exact Or.inl (Int32.toInt_inj.mp (h.trans (by decide)))
              · exact Or.inr (Int32.toInt_inj.mp (h.trans (by decide)))
            rcases hv49 with hv49 | hv49
            · subst hv49
              have hF1 := hF1.trans (if_pos (by decide))
              refine lv_iload hx hb dX8_seenLine_49 (lv_at hl 4 rfl) ?_
              refine lv_aload_n hx hb dX8_seenLine_51 rfl (lv_at hl 0 rfl) ?_
              refine va_get (D := (dC, dI)) (ci := 8) (v := .ref a0_16) (C := RX8) (T := TX8) (N := 40) hx hb hts zi_X8_seenLine_8 hown hK hP 0 rfl rfl 16 (by decide) (hts (.fieldLink RX8 23 "WaxTurnsModel" "fresh" "[I") (zm_X8_seenLine_r1 (List.mem_of_getElem? (i := 1) rfl))) (fun _ h9 => h9) rfl dX8_seenLine_52 ?_
              refine lv_bipush (v := 6) hx hb dX8_seenLine_55 zk_bipush_6 ?_
              refine va_iald hx hb hK hP 1 0 rfl rfl (by unfold vp_in; decide +kernel) dX8_seenLine_57 ?_
              refine lv_topi (fun x57 ex57 => ?_)
              have bx57 : (0 : Int) ≤ x57.toInt ∧ x57.toInt ≤ 6 := by rw [ex57]; exact ai_rd bfa0_16.2.2.2.2.2.2.1 zq15 zq16 (by decide) (by decide) (by decide)
              have fqx57 := congrArg Int32.toInt ex57
              have hF1 := hF1.trans (fl_lt_eq (show x57.toInt = (fl_A fa0_16) (6) from fqx57))
              have u57z_x57 : x57.toInt ≤ (5 : Int) := fg_le (m := 6) ex57 h6
              refine lv_icmp_ge (tgt := 101) hx hb dX8_seenLine_58 (by decide) (fun c58 => ?_) (fun c58 => ?_)
              · have gc58 := ai_le c58
                have u58t_x57 : x57.toInt ≤ (5 : Int) := u57z_x57
                have l58t_j49l4 : (0 : Int) ≤ j49l4.toInt := bj49l4_l
                have hF1 := hF1.trans (if_pos (show x57.toInt ≤ j49l4.toInt from gc58))
                have hF0 := hF0.trans (fl_wh_r (hSX49.trans hF1))
                refine lv_aload_n hx hb dX8_seenLine_101 rfl (lv_at hl 0 rfl) ?_
                refine zc_cutc (wc := [(a0, .inr (8, [a0g_0, Value.ref a0_1, a0g_2, Value.int a0_3, Value.int j49a0_4, Value.int j49a0_5, Value.int j49a0_6, Value.int j49a0_7, Value.int j49a0_8, Value.int j49a0_9, Value.int j49a0_10, a0g_11, Value.ref a0_12, Value.int 0, a0g_14, a0g_15, Value.ref a0_16, a0g_17, a0g_18, a0g_19, a0g_20, a0g_21, a0g_22, a0g_23, a0g_24, a0g_25, a0g_26, a0g_27, a0g_28, a0g_29, a0g_30, a0g_31, a0g_32, a0g_33, a0g_34, a0g_35, a0g_36, a0g_37, a0g_38, a0g_39])), (a0_1, .inl (ka0_1, 900, .inl (fa0_1))), (a0_12, .inl (ka0_12, 8, .inl (j49a0_12_a)))]) hP hD hS hA [0, 2, 3] (by decide +kernel) rfl (fun hPc hDc hFc hCc => ?_)
                have hKc := hK.sub (tys' := [(ka0_1, .int), (ka0_12, .int)]) [1, 2] rfl
                refine va_callv (va_runV (As := []) (rest := []) ⟨hx, hb, hml, hown, hts⟩ (fG_X8_pass l dC dI H.size a0 a0g_0 a0g_2 (Value.int j49a0_9) (Value.int j49a0_10) a0g_11 a0g_14 a0g_15 (Value.ref a0_16) a0g_17 a0g_18 a0g_19 a0g_20 a0g_21 a0g_22 a0g_23 a0g_24 a0g_25 a0g_26 a0g_27 a0g_28 a0g_29 a0g_30 a0g_31 a0g_32 a0g_33 a0g_34 a0g_35 a0g_36 a0g_37 a0g_38 a0g_39 a0_1 a0_3 j49a0_4 j49a0_5 j49a0_6 j49a0_7 j49a0_8 a0_12 ka0_1 fa0_1 ka0_12 j49a0_12_a ba0_3_l ba0_3_u bj49a0_5_l bj49a0_5_u bj49a0_8_l bj49a0_8_u) (cwV 0 hts gX8_seenLine_X8_pass rfl rfl rfl zd_X8_pass ⟨Nat.le_of_ble_eq_true rfl, Nat.le_of_ble_eq_true rfl⟩) ⟨ax_blind (fun _ _ _ _ _ => trivial), zr_8 hKc hPc (q0 := 0) rfl, ax_pre hPc hKc hDc (fun _ _ => trivial)⟩ rfl rfl hl.1 rfl (lv_room (Nat.le_of_ble_eq_true rfl)) dX8_seenLine_102 ⟨Nat.le_of_ble_eq_true rfl, Nat.le_of_ble_eq_true rfl⟩) hS (fun q _ h => hFc q h) hFc (fun u t H locs ht hvm hw => zx_6 (fun v102na0_4 v102na0_5 v102na0_6 v102na0_7 v102na0_8 v102nfa0_12 => zy_5 (fun bv102na0_5 bv102na0_8 hraw102_0 hraw102_1 hraw102_2 hB hz1 hk1 hS1 => zo hB ht hS1 (fun hP1 hK1 hD1 hS => ?_))))
                refine zc_backc (w := [(a0, .inr (8, [a0g_0, Value.ref a0_1, a0g_2, Value.int a0_3, Value.int v102na0_4, Value.int v102na0_5, Value.int v102na0_6, Value.int v102na0_7, Value.int v102na0_8, Value.int j49a0_9, Value.int j49a0_10, a0g_11, Value.ref a0_12, Value.int 0, a0g_14, a0g_15, Value.ref a0_16, a0g_17, a0g_18, a0g_19, a0g_20, a0g_21, a0g_22, a0g_23, a0g_24, a0g_25, a0g_26, a0g_27, a0g_28, a0g_29, a0g_30, a0g_31, a0g_32, a0g_33, a0g_34, a0g_35, a0g_36, a0g_37, a0g_38, a0g_39])), (a0_16, .inl (ka0_16, 156, .inl (fa0_16))), (a0_1, .inl (ka0_1, 900, .inl (fa0_1))), (a0_12, .inl (ka0_12, 8, .inl (v102nfa0_12)))]) hP hD hCc hk1 hFc hP1 hD1 [.inr 0, .inl 1, .inr 1, .inr 2] (by decide +kernel) rfl (fun hP hD => ?_)
                have hc102 : FfG_X8_pass a0_3.toInt j49a0_5.toInt (fl_A fa0_1) (fl_A j49a0_12_a) = (v102na0_4.toInt, v102na0_5.toInt, v102na0_6.toInt, v102na0_7.toInt, v102na0_8.toInt, (fl_A v102nfa0_12)) := hraw102_2
                have hF0 := hF0.trans (fl_c6_eq hc102)
                refine lv_aload_n hx hb dX8_seenLine_105 rfl (lv_at hl 0 rfl) ?_
                refine va_get (D := (dC, dI)) (ci := 8) (v := .int 0) (C := RX8) (T := TX8) (N := 40) hx hb hts zi_X8_seenLine_8 hown hK hP 0 rfl rfl 13 (by decide) (hts (.fieldLink RX8 97 "WaxTurnsModel" "failed" "Z") (zm_X8_seenLine_r1 (List.mem_of_getElem? (i := 0) rfl))) (fun _ h9 => h9) rfl dX8_seenLine_106 ?_
                refine lv_if_eq (tgt := 113) hx hb dX8_seenLine_109 (by decide) (fun _ => ?_) (fun c109 => absurd (by decide +kernel) c109)
                refine lv_aload_n hx hb dX8_seenLine_113 rfl (lv_at hl 0 rfl) ?_
                refine va_get (D := (dC, dI)) (ci := 8) (v := .ref a0_16) (C := RX8) (T := TX8) (N := 40) hx hb hts zi_X8_seenLine_8 hown hK hP 0 rfl rfl 16 (by decide) (hts (.fieldLink RX8 23 "WaxTurnsModel" "fresh" "[I") (zm_X8_seenLine_r1 (List.mem_of_getElem? (i := 1) rfl))) (fun _ h9 => h9) rfl dX8_seenLine_114 ?_
                refine lv_iload_n hx hb dX8_seenLine_117 rfl (lv_at hl 1 rfl) ?_
                refine lv_iload_n hx hb dX8_seenLine_118 rfl (lv_at hl 2 rfl) ?_
                refine va_iast hx hb hK hP hD hS 1 0 rfl rfl (ai_in bx19.1 bx19.2 (by decide) (by decide)) dX8_seenLine_119 (fun H locs hP hD hS => ?_)
                obtain ⟨f119, ef119⟩ : ∃ g9 : Nat → Int32, g9 = upd fa0_16 (x19 : Int32).toNatClampNeg r27 := ⟨_, rfl⟩
                refine zs_1 (y := (a0_16, .inl (ka0_16, 156, .inl (f119)))) hP hD (by rw [ef119]) (fun hP hD => ?_)
                have bf119 : ((∀ k : Nat, 0 ≤ k → k ≤ 0 → (0 : Int) ≤ (f119 k).toInt ∧ (f119 k).toInt ≤ 9) ∧ (∀ k : Nat, 1 ≤ k → k ≤ 1 → (0 : Int) ≤ (f119 k).toInt ∧ (f119 k).toInt ≤ 20) ∧ (∀ k : Nat, 2 ≤ k → k ≤ 2 → (0 : Int) ≤ (f119 k).toInt ∧ (f119 k).toInt ≤ 8) ∧ (∀ k : Nat, 3 ≤ k → k ≤ 3 → (0 : Int) ≤ (f119 k).toInt ∧ (f119 k).toInt ≤ 100) ∧ (∀ k : Nat, 4 ≤ k → k ≤ 4 → (0 : Int) ≤ (f119 k).toInt ∧ (f119 k).toInt ≤ 9) ∧ (∀ k : Nat, 5 ≤ k → k ≤ 5 → (0 : Int) ≤ (f119 k).toInt ∧ (f119 k).toInt ≤ 3) ∧ (∀ k : Nat, 6 ≤ k → k ≤ 6 → (0 : Int) ≤ (f119 k).toInt ∧ (f119 k).toInt ≤ 6) ∧ (∀ k : Nat, 7 ≤ k → k ≤ 9 → (0 : Int) ≤ (f119 k).toInt ∧ (f119 k).toInt ≤ 8) ∧ (∀ k : Nat, 10 ≤ k → k ≤ 11 → (0 : Int) ≤ (f119 k).toInt ∧ (f119 k).toInt ≤ 1) ∧ (∀ k : Nat, 12 ≤ k → k ≤ 29 → (0 : Int) ≤ (f119 k).toInt ∧ (f119 k).toInt ≤ 20) ∧ (∀ k : Nat, 30 ≤ k → k ≤ 35 → (0 : Int) ≤ (f119 k).toInt ∧ (f119 k).toInt ≤ 8) ∧ (∀ k : Nat, 36 ≤ k → k ≤ 47 → (0 : Int) ≤ (f119 k).toInt ∧ (f119 k).toInt ≤ 999) ∧ (∀ k : Nat, 48 ≤ k → k ≤ 59 → (0 : Int) ≤ (f119 k).toInt ∧ (f119 k).toInt ≤ 8) ∧ ((1 : Int) ≤ (f119 11).toInt → (2 : Int) ≤ (f119 0).toInt ∧ (1 : Int) ≤ (f119 1).toInt) ∧ (∀ (j i0 i : Int32), (0 : Int) ≤ j.toInt → j.toInt ≤ 8 → i0.toInt = 12 + 2 * j.toInt → i.toInt = 13 + 2 * j.toInt → (f119 i0.toNatClampNeg).toInt = (1 : Int32).toInt → (1 : Int) ≤ (f119 i.toNatClampNeg).toInt)) := by rw [ef119]; exact ⟨ai_updO bfa0_16.1 _ (Or.inr (ai_ngt_of bx19.1 (by decide) (by decide))), ai_updO bfa0_16.2.1 _ (Or.inr (ai_ngt_of bx19.1 (by decide) (by decide))), ai_updO bfa0_16.2.2.1 _ (Or.inr (ai_ngt_of bx19.1 (by decide) (by decide))), ai_updO bfa0_16.2.2.2.1 _ (Or.inr (ai_ngt_of bx19.1 (by decide) (by decide))), ai_updO bfa0_16.2.2.2.2.1 _ (Or.inr (ai_ngt_of bx19.1 (by decide) (by decide))), ai_updO bfa0_16.2.2.2.2.2.1 _ (Or.inr (ai_ngt_of bx19.1 (by decide) (by decide))), ai_updO bfa0_16.2.2.2.2.2.2.1 _ (Or.inr (ai_ngt_of bx19.1 (by decide) (by decide))), ai_updO bfa0_16.2.2.2.2.2.2.2.1 _ (Or.inr (ai_ngt_of bx19.1 (by decide) (by decide))), ai_updO bfa0_16.2.2.2.2.2.2.2.2.1 _ (Or.inr (ai_ngt_of bx19.1 (by decide) (by decide))), ai_updO bfa0_16.2.2.2.2.2.2.2.2.2.1 _ (Or.inr (ai_ngt_of bx19.1 (by decide) (by decide))), ai_updO bfa0_16.2.2.2.2.2.2.2.2.2.2.1 _ (Or.inr (ai_ngt_of bx19.1 (by decide) (by decide))), ai_updS bfa0_16.2.2.2.2.2.2.2.2.2.2.2.1 _ ⟨wa49.1, (Int.le_trans wa49.2 zq189)⟩, ai_updO bfa0_16.2.2.2.2.2.2.2.2.2.2.2.2.1 _ (Or.inl (ai_nlt_of bx19.1 bx19.2 (by decide) (by decide))), fg_o bfa0_16.2.2.2.2.2.2.2.2.2.2.2.2.2.1 (by have h1 := ai_natge (n := 36) bx19.1 (by decide); have h2 := ai_natle (n := 46) bx19.2 (by decide); omega), fg_ko bfa0_16.2.2.2.2.2.2.2.2.2.2.2.2.2.2 (by have h1 := ai_natge (n := 36) bx19.1 (by decide); have h2 := ai_natle (n := 46) bx19.2 (by decide); omega)⟩
                have fqf119 := fl_up_eq ef119
                have hF0 := hF0.trans (fl_lt_eq (show (fl_A f119) = fl_up (fl_A fa0_16) (x19.toInt.toNat) r27.toInt from fqf119))
                refine lv_aload_n hx hb dX8_seenLine_120 rfl (lv_at hl 0 rfl) ?_
                refine va_get (D := (dC, dI)) (ci := 8) (v := .ref a0_16) (C := RX8) (T := TX8) (N := 40) hx hb hts zi_X8_seenLine_8 hown hK hP 0 rfl rfl 16 (by decide) (hts (.fieldLink RX8 23 "WaxTurnsModel" "fresh" "[I") (zm_X8_seenLine_r1 (List.mem_of_getElem? (i := 1) rfl))) (fun _ h9 => h9) rfl dX8_seenLine_121 ?_
                refine lv_iload_n hx hb dX8_seenLine_124 rfl (lv_at hl 1 rfl) ?_
                refine lv_iconst (v := 1) hx hb dX8_seenLine_125 zk_iconst_1 ?_
                refine lv_iadd hx hb dX8_seenLine_126 ?_
                refine lv_topi (fun x126 ex126 => ?_)
                have qx126 : x126.toInt = x19.toInt + (1 : Int32).toInt := ai_add ex126 ⟨bx19.1, bx19.2⟩ ⟨zq1, zq0⟩ (by decide) (by decide)
                have bx126 : (37 : Int) ≤ x126.toInt ∧ x126.toInt ≤ 47 := ⟨by rw [qx126]; exact Int.add_le_add bx19.1 zq1, by rw [qx126]; exact Int.add_le_add bx19.2 zq0⟩
                have wx126 : x126.toInt = x19.toInt + 1 := qx126
                have hF0 := hF0.trans (fl_lt_eq (show x126.toInt = x19.toInt + 1 from qx126))
                refine lv_iload_n hx hb dX8_seenLine_127 rfl (lv_at hl 3 rfl) ?_
                refine va_iast hx hb hK hP hD hS 1 0 rfl rfl (ai_in bx126.1 bx126.2 (by decide) (by decide)) dX8_seenLine_128 (fun H locs hP hD hS => ?_)
                obtain ⟨f128, ef128⟩ : ∃ g9 : Nat → Int32, g9 = upd f119 (x126 : Int32).toNatClampNeg j49l3 := ⟨_, rfl⟩
                refine zs_1 (y := (a0_16, .inl (ka0_16, 156, .inl (f128)))) hP hD (by rw [ef128]) (fun hP hD => ?_)
                have bf128 : ((∀ k : Nat, 0 ≤ k → k ≤ 0 → (0 : Int) ≤ (f128 k).toInt ∧ (f128 k).toInt ≤ 9) ∧ (∀ k : Nat, 1 ≤ k → k ≤ 1 → (0 : Int) ≤ (f128 k).toInt ∧ (f128 k).toInt ≤ 20) ∧ (∀ k : Nat, 2 ≤ k → k ≤ 2 → (0 : Int) ≤ (f128 k).toInt ∧ (f128 k).toInt ≤ 8) ∧ (∀ k : Nat, 3 ≤ k → k ≤ 3 → (0 : Int) ≤ (f128 k).toInt ∧ (f128 k).toInt ≤ 100) ∧ (∀ k : Nat, 4 ≤ k → k ≤ 4 → (0 : Int) ≤ (f128 k).toInt ∧ (f128 k).toInt ≤ 9) ∧ (∀ k : Nat, 5 ≤ k → k ≤ 5 → (0 : Int) ≤ (f128 k).toInt ∧ (f128 k).toInt ≤ 3) ∧ (∀ k : Nat, 6 ≤ k → k ≤ 6 → (0 : Int) ≤ (f128 k).toInt ∧ (f128 k).toInt ≤ 6) ∧ (∀ k : Nat, 7 ≤ k → k ≤ 9 → (0 : Int) ≤ (f128 k).toInt ∧ (f128 k).toInt ≤ 8) ∧ (∀ k : Nat, 10 ≤ k → k ≤ 11 → (0 : Int) ≤ (f128 k).toInt ∧ (f128 k).toInt ≤ 1) ∧ (∀ k : Nat, 12 ≤ k → k ≤ 29 → (0 : Int) ≤ (f128 k).toInt ∧ (f128 k).toInt ≤ 20) ∧ (∀ k : Nat, 30 ≤ k → k ≤ 35 → (0 : Int) ≤ (f128 k).toInt ∧ (f128 k).toInt ≤ 8) ∧ (∀ k : Nat, 36 ≤ k → k ≤ 47 → (0 : Int) ≤ (f128 k).toInt ∧ (f128 k).toInt ≤ 999) ∧ (∀ k : Nat, 48 ≤ k → k ≤ 59 → (0 : Int) ≤ (f128 k).toInt ∧ (f128 k).toInt ≤ 8) ∧ ((1 : Int) ≤ (f128 11).toInt → (2 : Int) ≤ (f128 0).toInt ∧ (1 : Int) ≤ (f128 1).toInt) ∧ (∀ (j i0 i : Int32), (0 : Int) ≤ j.toInt → j.toInt ≤ 8 → i0.toInt = 12 + 2 * j.toInt → i.toInt = 13 + 2 * j.toInt → (f128 i0.toNatClampNeg).toInt = (1 : Int32).toInt → (1 : Int) ≤ (f128 i.toNatClampNeg).toInt)) := by rw [ef128]; exact ⟨ai_updO bf119.1 _ (Or.inr (ai_ngt_of bx126.1 (by decide) (by decide))), ai_updO bf119.2.1 _ (Or.inr (ai_ngt_of bx126.1 (by decide) (by decide))), ai_updO bf119.2.2.1 _ (Or.inr (ai_ngt_of bx126.1 (by decide) (by decide))), ai_updO bf119.2.2.2.1 _ (Or.inr (ai_ngt_of bx126.1 (by decide) (by decide))), ai_updO bf119.2.2.2.2.1 _ (Or.inr (ai_ngt_of bx126.1 (by decide) (by decide))), ai_updO bf119.2.2.2.2.2.1 _ (Or.inr (ai_ngt_of bx126.1 (by decide) (by decide))), ai_updO bf119.2.2.2.2.2.2.1 _ (Or.inr (ai_ngt_of bx126.1 (by decide) (by decide))), ai_updO bf119.2.2.2.2.2.2.2.1 _ (Or.inr (ai_ngt_of bx126.1 (by decide) (by decide))), ai_updO bf119.2.2.2.2.2.2.2.2.1 _ (Or.inr (ai_ngt_of bx126.1 (by decide) (by decide))), ai_updO bf119.2.2.2.2.2.2.2.2.2.1 _ (Or.inr (ai_ngt_of bx126.1 (by decide) (by decide))), ai_updO bf119.2.2.2.2.2.2.2.2.2.2.1 _ (Or.inr (ai_ngt_of bx126.1 (by decide) (by decide))), ai_updS bf119.2.2.2.2.2.2.2.2.2.2.2.1 _ ⟨wb49.1, wb49.2⟩, ai_updO bf119.2.2.2.2.2.2.2.2.2.2.2.2.1 _ (Or.inl (ai_nlt_of bx126.1 bx126.2 (by decide) (by decide))), fg_o bf119.2.2.2.2.2.2.2.2.2.2.2.2.2.1 (by have h1 := ai_natge (n := 37) bx126.1 (by decide); have h2 := ai_natle (n := 47) bx126.2 (by decide); omega), fg_ko bf119.2.2.2.2.2.2.2.2.2.2.2.2.2.2 (by have h1 := ai_natge (n := 37) bx126.1 (by decide); have h2 := ai_natle (n := 47) bx126.2 (by decide); omega)⟩
                have fqf128 := fl_up_eq ef128
                have hF0 := hF0.trans (fl_lt_eq (show (fl_A f128) = fl_up (fl_A f119) (x126.toInt.toNat) j49l3.toInt from fqf128))
                refine lv_aload_n hx hb dX8_seenLine_129 rfl (lv_at hl 0 rfl) ?_
                refine va_get (D := (dC, dI)) (ci := 8) (v := .ref a0_16) (C := RX8) (T := TX8) (N := 40) hx hb hts zi_X8_seenLine_8 hown hK hP 0 rfl rfl 16 (by decide) (hts (.fieldLink RX8 23 "WaxTurnsModel" "fresh" "[I") (zm_X8_seenLine_r1 (List.mem_of_getElem? (i := 1) rfl))) (fun _ h9 => h9) rfl dX8_seenLine_130 ?_
                refine lv_bipush (v := 6) hx hb dX8_seenLine_133 zk_bipush_6 ?_
                refine lv_dup2_11 hx hb dX8_seenLine_135 rfl rfl ?_
                refine va_iald hx hb hK hP 1 0 rfl rfl (by unfold vp_in; decide +kernel) dX8_seenLine_136 ?_
                refine lv_topi (fun x136 ex136 => ?_)
                have bx136 : (0 : Int) ≤ x136.toInt ∧ x136.toInt ≤ 6 := by rw [ex136]; exact ai_rd bf128.2.2.2.2.2.2.1 zq15 zq16 (by decide) (by decide) (by decide)
                have fqx136 := congrArg Int32.toInt ex136
                have hF0 := hF0.trans (fl_lt_eq (show x136.toInt = (fl_A f128) (6) from fqx136))
                have u136z_x136 : x136.toInt ≤ (5 : Int) := fg_le (m := 6) ex136 (by have uef128 := fg_u ef128 (by omega) (m := 6) (by omega); rw [uef128]; have uef119 := fg_u ef119 (by omega) (m := 6) (by omega); rw [uef119]; exact h6)
                refine lv_iconst (v := 1) hx hb dX8_seenLine_137 zk_iconst_1 ?_
                refine lv_iadd hx hb dX8_seenLine_138 ?_
                refine lv_topi (fun x138 ex138 => ?_)
                have qx138 : x138.toInt = x136.toInt + (1 : Int32).toInt := ai_add ex138 ⟨bx136.1, u136z_x136⟩ ⟨zq1, zq0⟩ (by decide) (by decide)
                have bx138 : (1 : Int) ≤ x138.toInt ∧ x138.toInt ≤ 6 := ⟨by rw [qx138]; exact Int.add_le_add bx136.1 zq1, by rw [qx138]; exact Int.add_le_add u136z_x136 zq0⟩
                have wx138 : x138.toInt = x136.toInt + 1 := qx138
                have hF0 := hF0.trans (fl_lt_eq (show x138.toInt = x136.toInt + 1 from qx138))
                refine va_iast hx hb hK hP hD hS 1 0 rfl rfl (by unfold vp_in; decide +kernel) dX8_seenLine_139 (fun H locs hP hD hS => ?_)
                obtain ⟨f139, ef139⟩ : ∃ g9 : Nat → Int32, g9 = upd f128 (6 : Int32).toNatClampNeg x138 := ⟨_, rfl⟩
                refine zs_1 (y := (a0_16, .inl (ka0_16, 156, .inl (f139)))) hP hD (by rw [ef139]) (fun hP hD => ?_)
                have bf139 : ((∀ k : Nat, 0 ≤ k → k ≤ 0 → (0 : Int) ≤ (f139 k).toInt ∧ (f139 k).toInt ≤ 9) ∧ (∀ k : Nat, 1 ≤ k → k ≤ 1 → (0 : Int) ≤ (f139 k).toInt ∧ (f139 k).toInt ≤ 20) ∧ (∀ k : Nat, 2 ≤ k → k ≤ 2 → (0 : Int) ≤ (f139 k).toInt ∧ (f139 k).toInt ≤ 8) ∧ (∀ k : Nat, 3 ≤ k → k ≤ 3 → (0 : Int) ≤ (f139 k).toInt ∧ (f139 k).toInt ≤ 100) ∧ (∀ k : Nat, 4 ≤ k → k ≤ 4 → (0 : Int) ≤ (f139 k).toInt ∧ (f139 k).toInt ≤ 9) ∧ (∀ k : Nat, 5 ≤ k → k ≤ 5 → (0 : Int) ≤ (f139 k).toInt ∧ (f139 k).toInt ≤ 3) ∧ (∀ k : Nat, 6 ≤ k → k ≤ 6 → (0 : Int) ≤ (f139 k).toInt ∧ (f139 k).toInt ≤ 6) ∧ (∀ k : Nat, 7 ≤ k → k ≤ 9 → (0 : Int) ≤ (f139 k).toInt ∧ (f139 k).toInt ≤ 8) ∧ (∀ k : Nat, 10 ≤ k → k ≤ 11 → (0 : Int) ≤ (f139 k).toInt ∧ (f139 k).toInt ≤ 1) ∧ (∀ k : Nat, 12 ≤ k → k ≤ 29 → (0 : Int) ≤ (f139 k).toInt ∧ (f139 k).toInt ≤ 20) ∧ (∀ k : Nat, 30 ≤ k → k ≤ 35 → (0 : Int) ≤ (f139 k).toInt ∧ (f139 k).toInt ≤ 8) ∧ (∀ k : Nat, 36 ≤ k → k ≤ 47 → (0 : Int) ≤ (f139 k).toInt ∧ (f139 k).toInt ≤ 999) ∧ (∀ k : Nat, 48 ≤ k → k ≤ 59 → (0 : Int) ≤ (f139 k).toInt ∧ (f139 k).toInt ≤ 8) ∧ ((1 : Int) ≤ (f139 11).toInt → (2 : Int) ≤ (f139 0).toInt ∧ (1 : Int) ≤ (f139 1).toInt) ∧ (∀ (j i0 i : Int32), (0 : Int) ≤ j.toInt → j.toInt ≤ 8 → i0.toInt = 12 + 2 * j.toInt → i.toInt = 13 + 2 * j.toInt → (f139 i0.toNatClampNeg).toInt = (1 : Int32).toInt → (1 : Int) ≤ (f139 i.toNatClampNeg).toInt)) := by rw [ef139]; exact ⟨ai_updO bf128.1 _ (Or.inr (ai_ngt_of zq15 (by decide) (by decide))), ai_updO bf128.2.1 _ (Or.inr (ai_ngt_of zq15 (by decide) (by decide))), ai_updO bf128.2.2.1 _ (Or.inr (ai_ngt_of zq15 (by decide) (by decide))), ai_updO bf128.2.2.2.1 _ (Or.inr (ai_ngt_of zq15 (by decide) (by decide))), ai_updO bf128.2.2.2.2.1 _ (Or.inr (ai_ngt_of zq15 (by decide) (by decide))), ai_updO bf128.2.2.2.2.2.1 _ (Or.inr (ai_ngt_of zq15 (by decide) (by decide))), ai_updS bf128.2.2.2.2.2.2.1 _ ⟨(Int.le_trans zq4 bx138.1), bx138.2⟩, ai_updO bf128.2.2.2.2.2.2.2.1 _ (Or.inl (ai_nlt_of zq15 zq16 (by decide) (by decide))), ai_updO bf128.2.2.2.2.2.2.2.2.1 _ (Or.inl (ai_nlt_of zq15 zq16 (by decide) (by decide))), ai_updO bf128.2.2.2.2.2.2.2.2.2.1 _ (Or.inl (ai_nlt_of zq15 zq16 (by decide) (by decide))), ai_updO bf128.2.2.2.2.2.2.2.2.2.2.1 _ (Or.inl (ai_nlt_of zq15 zq16 (by decide) (by decide))), ai_updO bf128.2.2.2.2.2.2.2.2.2.2.2.1 _ (Or.inl (ai_nlt_of zq15 zq16 (by decide) (by decide))), ai_updO bf128.2.2.2.2.2.2.2.2.2.2.2.2.1 _ (Or.inl (ai_nlt_of zq15 zq16 (by decide) (by decide))), fg_o bf128.2.2.2.2.2.2.2.2.2.2.2.2.2.1 (by decide +kernel), fg_ko bf128.2.2.2.2.2.2.2.2.2.2.2.2.2.2 (by decide +kernel)⟩
                have kf139_6 : f139 6 = x138 := by rw [ef139]; exact ai_k1 (by decide +kernel)
                have fqf139 := fl_up_eq ef139
                have hF0 := hF0.trans (fl_lt_eq (show (fl_A f139) = fl_up (fl_A f128) (6) x138.toInt from fqf139))
                have hFe : FX = (v102na0_4.toInt, v102na0_5.toInt, v102na0_6.toInt, v102na0_7.toInt, v102na0_8.toInt, j49a0_9.toInt, j49a0_10.toInt, 0, (fl_A f139), (fl_A v102nfa0_12)) := hF0
                exact W.vret hx hb hr (fun t ht hW => ⟨⟨(), rfl, trivial, v102na0_4, v102na0_5, v102na0_6, v102na0_7, v102na0_8, j49a0_9, j49a0_10, 0, f139, v102nfa0_12, ⟨bv102na0_5.1, bv102na0_5.2⟩, ⟨bv102na0_8.1, bv102na0_8.2⟩, ⟨zq5, Int.le_trans zq6 (by decide)⟩, bf139, (Or.inr rfl), (em_t em49 hraw102_1), hFe, by rw [ht]; exact hP, va_K.moved hW.alike hK, hD⟩, hS.F ht⟩) hS.2.2 dX8_seenLine_140
              · have gc58 := ai_nle c58
                have u58f_j49l4 : j49l4.toInt ≤ (4 : Int) := ai_lthi gc58 u57z_x57
                have l58f_x57 : (1 : Int) ≤ x57.toInt := ai_ltlo gc58 bj49l4_l
                have hF1 := hF1.trans (if_neg (show ¬ (x57.toInt ≤ j49l4.toInt) from Int.not_le.mpr gc58))
                refine lv_aload_n hx hb dX8_seenLine_61 rfl (lv_at hl 0 rfl) ?_
                refine va_get (D := (dC, dI)) (ci := 8) (v := .int 0) (C := RX8) (T := TX8) (N := 40) hx hb hts zi_X8_seenLine_8 hown hK hP 0 rfl rfl 13 (by decide) (hts (.fieldLink RX8 97 "WaxTurnsModel" "failed" "Z") (zm_X8_seenLine_r1 (List.mem_of_getElem? (i := 0) rfl))) (fun _ h9 => h9) rfl dX8_seenLine_62 ?_
                refine lv_if_ne (tgt := 95) hx hb dX8_seenLine_65 (by decide) (fun c65 => absurd (by decide +kernel) c65) (fun _ => ?_)
                refine lv_aload_n hx hb dX8_seenLine_68 rfl (lv_at hl 0 rfl) ?_
                refine va_get (D := (dC, dI)) (ci := 8) (v := .ref a0_16) (C := RX8) (T := TX8) (N := 40) hx hb hts zi_X8_seenLine_8 hown hK hP 0 rfl rfl 16 (by decide) (hts (.fieldLink RX8 23 "WaxTurnsModel" "fresh" "[I") (zm_X8_seenLine_r1 (List.mem_of_getElem? (i := 1) rfl))) (fun _ h9 => h9) rfl dX8_seenLine_69 ?_
                refine lv_bipush (v := 36) hx hb dX8_seenLine_72 zk_bipush_36 ?_
                refine lv_iconst (v := 2) hx hb dX8_seenLine_74 zk_iconst_2 ?_
                refine lv_iload hx hb dX8_seenLine_75 (lv_at hl 4 rfl) ?_
                refine lv_imul hx hb dX8_seenLine_77 ?_
                refine lv_topi (fun x77 ex77 => ?_)
                have qx77 : x77.toInt = (2 : Int32).toInt * j49l4.toInt ∧ (0 : Int) ≤ x77.toInt ∧ x77.toInt ≤ 8 := ai_mul ex77 ⟨zq12, zq13⟩ ⟨bj49l4_l, u58f_j49l4⟩ (by decide) (by decide) zq238
                have wx77 : x77.toInt = 2 * j49l4.toInt := qx77.1
                have hF1 := hF1.trans (fl_lt_eq (show x77.toInt = 2 * j49l4.toInt from qx77.1))
                refine lv_iadd hx hb dX8_seenLine_78 ?_
                refine lv_topi (fun x78 ex78 => ?_)
                have qx78 : x78.toInt = (36 : Int32).toInt + x77.toInt := ai_add ex78 ⟨zq182, zq183⟩ ⟨qx77.2.1, qx77.2.2⟩ (by decide) (by decide)
                have bx78 : (36 : Int) ≤ x78.toInt ∧ x78.toInt ≤ 44 := ⟨by rw [qx78]; exact Int.add_le_add zq182 qx77.2.1, by rw [qx78]; exact Int.add_le_add zq183 qx77.2.2⟩
                have wx78 : x78.toInt = 36 + x77.toInt := qx78
                have hF1 := hF1.trans (fl_lt_eq (show x78.toInt = 36 + x77.toInt from qx78))
                refine lv_iconst (v := 1) hx hb dX8_seenLine_79 zk_iconst_1 ?_
                refine lv_iadd hx hb dX8_seenLine_80 ?_
                refine lv_topi (fun x80 ex80 => ?_)
                have qx80 : x80.toInt = x78.toInt + (1 : Int32).toInt := ai_add ex80 ⟨bx78.1, bx78.2⟩ ⟨zq1, zq0⟩ (by decide) (by decide)
                have bx80 : (37 : Int) ≤ x80.toInt ∧ x80.toInt ≤ 45 := ⟨by rw [qx80]; exact Int.add_le_add bx78.1 zq1, by rw [qx80]; exact Int.add_le_add bx78.2 zq0⟩
                have wx80 : x80.toInt = x78.toInt + 1 := qx80
                have hF1 := hF1.trans (fl_lt_eq (show x80.toInt = x78.toInt + 1 from qx80))
                refine va_iald hx hb hK hP 1 0 rfl rfl (ai_in bx80.1 bx80.2 (by decide) (by decide)) dX8_seenLine_81 ?_
                refine lv_topi (fun x81 ex81 => ?_)
                have bx81 : (0 : Int) ≤ x81.toInt ∧ x81.toInt ≤ 999 := by rw [ex81]; exact ai_rd bfa0_16.2.2.2.2.2.2.2.2.2.2.2.1 bx80.1 bx80.2 (by decide) (by decide) (by decide)
                have fqx81 := congrArg Int32.toInt ex81
                have hF1 := hF1.trans (fl_lt_eq (show x81.toInt = (fl_A fa0_16) (x80.toInt.toNat) from fqx81))
                refine lv_iload_n hx hb dX8_seenLine_82 rfl (lv_at hl 3 rfl) ?_
                refine lv_icmp_ne (tgt := 95) hx hb dX8_seenLine_83 (by decide) (fun c83 => ?_) (fun c83 => ?_)
                · have gc83 := ai_ne c83
                  have hF1 := hF1.trans (if_neg (show ¬ (x81.toInt = j49l3.toInt) from  gc83))
                  obtain ⟨x95, ex95⟩ : ∃ y : Int32, y = j49l4 + Int32.ofInt 1 := ⟨_, rfl⟩
                  have qx95 : x95.toInt = j49l4.toInt + 1 := ai_inc ex95 (by decide) (by decide) u58f_j49l4 (by decide)
                  have bx95 : (1 : Int) ≤ x95.toInt ∧ x95.toInt ≤ 5 := ⟨by rw [qx95]; exact Int.add_le_add bj49l4_l (Int.le_refl _), by rw [qx95]; exact Int.add_le_add u58f_j49l4 (Int.le_refl _)⟩
                  refine lv_iinc (v := x95) (lv' := [(4, .int x95), (0, .ref a0), (1, .int x19), (2, .int r27), (3, .int j49l3)]) hx hb dX8_seenLine_95 hl (k := 4) rfl ex95.symm (by decide) rfl (fun ls hl => ?_)
                  have hF1 := hF1.trans (fl_lt_eq (show x95.toInt = j49l4.toInt + 1 from qx95))
                  refine lv_goto (tgt := 49) hx hb dX8_seenLine_98 (by decide) ?_
                  exact (hK0 _ _ _).mp (ih49 x95 j49l3 j49a0_4 j49a0_5 j49a0_6 j49a0_7 j49a0_8 j49a0_9 j49a0_10 0 j49a0_12_a _ _ _ (by first | exact zg_s hm49 qx95 | (have h0 := qx95; omega)) (Int.le_trans zq4 bx95.1) bx95.2 wb49.1 wb49.2 bj49a0_5_l bj49a0_5_u bj49a0_8_l bj49a0_8_u zq5 (Int.le_trans zq6 zq4) (by omega) ⟨wa49.1, wa49.2⟩ ⟨wb49.1, wb49.2⟩ (by rw [show (0 : Int32).toInt = 0 from by decide]; exact (hF0.trans (fl_wh_l (hSX49.trans hF1)))) hP hD hS (lv_sub hl [1, 2, 3, 4, 0] rfl))
                · have gc83 := ai_eq c83
                  have u83f_x81 : x81.toInt ≤ (999 : Int) := bx81.2
                  have l83f_x81 : (0 : Int) ≤ x81.toInt := bx81.1
                  have u83f_j49l3 : j49l3.toInt ≤ (999 : Int) := wb49.2
                  have l83f_j49l3 : (0 : Int) ≤ j49l3.toInt := wb49.1
                  have hF1 := hF1.trans (if_pos (show x81.toInt = j49l3.toInt from gc83))
                  refine lv_aload_n hx hb dX8_seenLine_86 rfl (lv_at hl 0 rfl) ?_
                  refine lv_iconst (v := 3) hx hb dX8_seenLine_87 zk_iconst_3 ?_
                  refine lv_aload_n hx hb dX8_seenLine_88 rfl (lv_at hl 0 rfl) ?_
                  refine va_get (D := (dC, dI)) (ci := 8) (v := .int j49a0_4) (C := RX8) (T := TX8) (N := 40) hx hb hts zi_X8_seenLine_8 hown hK hP 0 rfl rfl 4 (by decide) (hts (.fieldLink RX8 78 "WaxTurnsModel" "at" "I") (zm_X8_seenLine_r1 (List.mem_of_getElem? (i := 2) rfl))) (fun _ h9 => h9) rfl dX8_seenLine_89 ?_
                  refine va_callv (va_runV (As := [.int 3, .int j49a0_4]) (rest := []) ⟨hx, hb, hml, hown, hts⟩ (fG_X8_wrong l dC dI H.size a0 3 j49a0_4 a0g_0 (Value.ref a0_1) a0g_2 (Value.int a0_3) (Value.int j49a0_4) (Value.int j49a0_5) (Value.int j49a0_6) (Value.int j49a0_7) (Value.int j49a0_8) a0g_11 (Value.ref a0_12) a0g_14 a0g_15 (Value.ref a0_16) a0g_17 a0g_18 a0g_19 a0g_20 a0g_21 a0g_22 a0g_23 a0g_24 a0g_25 a0g_26 a0g_27 a0g_28 a0g_29 a0g_30 a0g_31 a0g_32 a0g_33 a0g_34 a0g_35 a0g_36 a0g_37 a0g_38 a0g_39 j49a0_9 j49a0_10 ) (cwV 2 hts gX8_seenLine_X8_wrong rfl rfl rfl zd_X8_wrong ⟨Nat.le_of_ble_eq_true rfl, Nat.le_of_ble_eq_true rfl⟩) ⟨ax_blind (fun _ _ _ _ _ => trivial), zr_8 (zp_K hK) (zp_P1 hP) (q0 := 0) rfl, ax_pre (zp_P1 hP) (zp_K hK) (zp_D1 hD) (fun _ _ => trivial)⟩ rfl rfl hl.1 rfl (lv_room (Nat.le_of_ble_eq_true rfl)) dX8_seenLine_92 ⟨Nat.le_of_ble_eq_true rfl, Nat.le_of_ble_eq_true rfl⟩) hS (fun q _ h => zp_F1 hD hS hA q h) (zp_F1 hD hS hA) (fun u t H locs ht hvm hw => zx_2 (fun v92na0_9 v92na0_10 => zy_1 (fun hraw92_0 hB hz1 hk1 hS1 => zo1 hB ht hP hD hk1 (zp_F1 hD hS hA) hS1 (fun hP hK1 hD hS => ?_))))
                  rw [show (3 : Int32).toInt = 3 from by decide] at hraw92_0
                  have hc92 : FfG_X8_wrong 3 j49a0_4.toInt = (v92na0_9.toInt, v92na0_10.toInt) := hraw92_0
                  have hF1 := hF1.trans (fl_c2_eq hc92)
                  obtain ⟨x95, ex95⟩ : ∃ y : Int32, y = j49l4 + Int32.ofInt 1 := ⟨_, rfl⟩
                  have qx95 : x95.toInt = j49l4.toInt + 1 := ai_inc ex95 (by decide) (by decide) u58f_j49l4 (by decide)
                  have bx95 : (1 : Int) ≤ x95.toInt ∧ x95.toInt ≤ 5 := ⟨by rw [qx95]; exact Int.add_le_add bj49l4_l (Int.le_refl _), by rw [qx95]; exact Int.add_le_add u58f_j49l4 (Int.le_refl _)⟩
                  refine lv_iinc (v := x95) (lv' := [(4, .int x95), (0, .ref a0), (1, .int x19), (2, .int r27), (3, .int j49l3)]) hx hb dX8_seenLine_95 hl (k := 4) rfl ex95.symm (by decide) rfl (fun ls hl => ?_)
                  have hF1 := hF1.trans (fl_lt_eq (show x95.toInt = j49l4.toInt + 1 from qx95))
                  refine lv_goto (tgt := 49) hx hb dX8_seenLine_98 (by decide) ?_
                  exact (hK0 _ _ _).mp (ih49 x95 j49l3 j49a0_4 j49a0_5 j49a0_6 j49a0_7 j49a0_8 v92na0_9 v92na0_10 1 j49a0_12_a _ _ _ (by first | exact zg_s hm49 qx95 | (have h0 := qx95; omega)) (Int.le_trans zq4 bx95.1) bx95.2 l83f_j49l3 u83f_j49l3 bj49a0_5_l bj49a0_5_u bj49a0_8_l bj49a0_8_u (Int.le_trans zq4 zq1) zq0 (by omega) ⟨wa49.1, wa49.2⟩ ⟨l83f_j49l3, u83f_j49l3⟩ (by rw [show (1 : Int32).toInt = 1 from by decide]; exact (hF0.trans (fl_wh_l (hSX49.trans hF1)))) hP hD hS (lv_sub hl [1, 2, 3, 4, 0] rfl))
            · subst hv49
              have hF1 := hF1.trans (if_neg (by decide))
              refine lv_iload hx hb dX8_seenLine_49 (lv_at hl 4 rfl) ?_
              refine lv_aload_n hx hb dX8_seenLine_51 rfl (lv_at hl 0 rfl) ?_
              refine va_get (D := (dC, dI)) (ci := 8) (v := .ref a0_16) (C := RX8) (T := TX8) (N := 40) hx hb hts zi_X8_seenLine_8 hown hK hP 0 rfl rfl 16 (by decide) (hts (.fieldLink RX8 23 "WaxTurnsModel" "fresh" "[I") (zm_X8_seenLine_r1 (List.mem_of_getElem? (i := 1) rfl))) (fun _ h9 => h9) rfl dX8_seenLine_52 ?_
              refine lv_bipush (v := 6) hx hb dX8_seenLine_55 zk_bipush_6 ?_
              refine va_iald hx hb hK hP 1 0 rfl rfl (by unfold vp_in; decide +kernel) dX8_seenLine_57 ?_
              refine lv_topi (fun x57 ex57 => ?_)
              have bx57 : (0 : Int) ≤ x57.toInt ∧ x57.toInt ≤ 6 := by rw [ex57]; exact ai_rd bfa0_16.2.2.2.2.2.2.1 zq15 zq16 (by decide) (by decide) (by decide)
              have fqx57 := congrArg Int32.toInt ex57
              have hF1 := hF1.trans (fl_lt_eq (show x57.toInt = (fl_A fa0_16) (6) from fqx57))
              have u57z_x57 : x57.toInt ≤ (5 : Int) := fg_le (m := 6) ex57 h6
              refine lv_icmp_ge (tgt := 101) hx hb dX8_seenLine_58 (by decide) (fun c58 => ?_) (fun c58 => ?_)
              · have gc58 := ai_le c58
                have u58t_x57 : x57.toInt ≤ (5 : Int) := u57z_x57
                have l58t_j49l4 : (0 : Int) ≤ j49l4.toInt := bj49l4_l
                have hF1 := hF1.trans (if_pos (show x57.toInt ≤ j49l4.toInt from gc58))
                have hF0 := hF0.trans (fl_wh_r (hSX49.trans hF1))
                refine lv_aload_n hx hb dX8_seenLine_101 rfl (lv_at hl 0 rfl) ?_
                refine va_callv (va_runV (As := []) (rest := []) ⟨hx, hb, hml, hown, hts⟩ (fF_X8_pass l dC dI H.size a0 a0g_0 (Value.ref a0_1) a0g_2 (Value.int a0_3) (Value.int j49a0_4) (Value.int j49a0_5) (Value.int j49a0_6) (Value.int j49a0_7) (Value.int j49a0_8) (Value.int j49a0_9) (Value.int j49a0_10) a0g_11 (Value.ref a0_12) a0g_14 a0g_15 (Value.ref a0_16) a0g_17 a0g_18 a0g_19 a0g_20 a0g_21 a0g_22 a0g_23 a0g_24 a0g_25 a0g_26 a0g_27 a0g_28 a0g_29 a0g_30 a0g_31 a0g_32 a0g_33 a0g_34 a0g_35 a0g_36 a0g_37 a0g_38 a0g_39 ) (cwV 0 hts gX8_seenLine_X8_pass rfl rfl rfl zd_X8_pass ⟨Nat.le_of_ble_eq_true rfl, Nat.le_of_ble_eq_true rfl⟩) ⟨ax_blind (fun _ _ _ _ _ => trivial), zr_8 (zp_K hK) (zp_P1 hP) (q0 := 0) rfl, ax_pre (zp_P1 hP) (zp_K hK) (zp_D1 hD) (fun _ _ => trivial)⟩ rfl rfl hl.1 rfl (lv_room (Nat.le_of_ble_eq_true rfl)) dX8_seenLine_102 ⟨Nat.le_of_ble_eq_true rfl, Nat.le_of_ble_eq_true rfl⟩) hS (fun q _ h => zp_F1 hD hS hA q h) (zp_F1 hD hS hA) (fun u t H locs ht hvm hw hB hz1 hk1 hS1 => zo1 hB ht hP hD hk1 (zp_F1 hD hS hA) hS1 (fun hP hK1 hD hS => ?_))
                refine lv_aload_n hx hb dX8_seenLine_105 rfl (lv_at hl 0 rfl) ?_
                refine va_get (D := (dC, dI)) (ci := 8) (v := .int 1) (C := RX8) (T := TX8) (N := 40) hx hb hts zi_X8_seenLine_8 hown hK hP 0 rfl rfl 13 (by decide) (hts (.fieldLink RX8 97 "WaxTurnsModel" "failed" "Z") (zm_X8_seenLine_r1 (List.mem_of_getElem? (i := 0) rfl))) (fun _ h9 => h9) rfl dX8_seenLine_106 ?_
                refine lv_if_eq (tgt := 113) hx hb dX8_seenLine_109 (by decide) (fun c109 => absurd c109 (by decide +kernel)) (fun _ => ?_)
                have hFe : FX = (j49a0_4.toInt, j49a0_5.toInt, j49a0_6.toInt, j49a0_7.toInt, j49a0_8.toInt, j49a0_9.toInt, j49a0_10.toInt, 1, (fl_A fa0_16), (fl_A j49a0_12_a)) := hF0
                exact W.vret hx hb hr (fun t ht hW => ⟨⟨(), rfl, trivial, j49a0_4, j49a0_5, j49a0_6, j49a0_7, j49a0_8, j49a0_9, j49a0_10, 1, fa0_16, j49a0_12_a, ⟨bj49a0_5_l, bj49a0_5_u⟩, ⟨bj49a0_8_l, bj49a0_8_u⟩, ⟨Int.le_trans (by decide) zq1, zq0⟩, bfa0_16, (Or.inl rfl), em49, hFe, by rw [ht]; exact hP, va_K.moved hW.alike hK, hD⟩, hS.F ht⟩) hS.2.2 dX8_seenLine_112
              · have gc58 := ai_nle c58
                have u58f_j49l4 : j49l4.toInt ≤ (4 : Int) := ai_lthi gc58 u57z_x57
                have l58f_x57 : (1 : Int) ≤ x57.toInt := ai_ltlo gc58 bj49l4_l
                have hF1 := hF1.trans (if_neg (show ¬ (x57.toInt ≤ j49l4.toInt) from Int.not_le.mpr gc58))
                refine lv_aload_n hx hb dX8_seenLine_61 rfl (lv_at hl 0 rfl) ?_
                refine va_get (D := (dC, dI)) (ci := 8) (v := .int 1) (C := RX8) (T := TX8) (N := 40) hx hb hts zi_X8_seenLine_8 hown hK hP 0 rfl rfl 13 (by decide) (hts (.fieldLink RX8 97 "WaxTurnsModel" "failed" "Z") (zm_X8_seenLine_r1 (List.mem_of_getElem? (i := 0) rfl))) (fun _ h9 => h9) rfl dX8_seenLine_62 ?_
                refine lv_if_ne (tgt := 95) hx hb dX8_seenLine_65 (by decide) (fun _ => ?_) (fun c65 => absurd c65 (by decide +kernel))
                obtain ⟨x95, ex95⟩ : ∃ y : Int32, y = j49l4 + Int32.ofInt 1 := ⟨_, rfl⟩
                have qx95 : x95.toInt = j49l4.toInt + 1 := ai_inc ex95 (by decide) (by decide) u58f_j49l4 (by decide)
                have bx95 : (1 : Int) ≤ x95.toInt ∧ x95.toInt ≤ 5 := ⟨by rw [qx95]; exact Int.add_le_add bj49l4_l (Int.le_refl _), by rw [qx95]; exact Int.add_le_add u58f_j49l4 (Int.le_refl _)⟩
                refine lv_iinc (v := x95) (lv' := [(4, .int x95), (0, .ref a0), (1, .int x19), (2, .int r27), (3, .int j49l3)]) hx hb dX8_seenLine_95 hl (k := 4) rfl ex95.symm (by decide) rfl (fun ls hl => ?_)
                have hF1 := hF1.trans (fl_lt_eq (show x95.toInt = j49l4.toInt + 1 from qx95))
                refine lv_goto (tgt := 49) hx hb dX8_seenLine_98 (by decide) ?_
                exact (hK0 _ _ _).mp (ih49 x95 j49l3 j49a0_4 j49a0_5 j49a0_6 j49a0_7 j49a0_8 j49a0_9 j49a0_10 1 j49a0_12_a _ _ _ (by first | exact zg_s hm49 qx95 | (have h0 := qx95; omega)) (Int.le_trans zq4 bx95.1) bx95.2 wb49.1 wb49.2 bj49a0_5_l bj49a0_5_u bj49a0_8_l bj49a0_8_u (Int.le_trans zq4 zq1) zq0 (by omega) ⟨wa49.1, wa49.2⟩ ⟨wb49.1, wb49.2⟩ (by rw [show (1 : Int32).toInt = 1 from by decide]; exact (hF0.trans (fl_wh_l (hSX49.trans hF1)))) hP hD hS (lv_sub hl [1, 2, 3, 4, 0] rfl))
        exact (hK0 _ _ _).mp (J49 6 0 r42 v34na0_4 v34na0_5 v34na0_6 v34na0_7 v34na0_8 v42na0_9 v42na0_10 0 v34nfa0_12 _ _ _ (by first | decide +kernel | (have h1 : (0 : Int) ≤ (0 : Int32).toInt := zq5; have h2 : (0 : Int32).toInt ≤ (0 : Int) := zq6; omega)) zq5 (Int.le_trans zq6 zq224) (Int.le_trans zq5 h42.1) (Int.le_trans h42.2 zq79) bv34na0_5.1 bv34na0_5.2 bv34na0_8.1 bv34na0_8.2 zq5 (Int.le_trans zq6 zq4) (by omega) ⟨(Int.le_trans zq5 h27.1), (Int.le_trans h27.2 h24_1)⟩ ⟨(Int.le_trans zq5 h42.1), (Int.le_trans h42.2 zq79)⟩ (by rw [show (0 : Int32).toInt = 0 from by decide]; exact hF0) hP hD hS (lv_sub hl [4, 3, 2, 1, 0] rfl))
end P312_08_f
section P312_09_f
set_option maxHeartbeats 4000000 in
set_option maxRecDepth 100000 in
theorem fG_X8_readLine (l : Launch) (dC : Nat → ClassId) (dI : Nat → Nat → Nat) (sz : Nat) (a0 : Nat) (a0g_0 a0g_2 a0g_11 a0g_14 a0g_15 a0g_17 a0g_18 a0g_19 a0g_20 a0g_21 a0g_22 a0g_23 a0g_24 a0g_25 a0g_26 a0g_27 a0g_28 a0g_29 a0g_30 a0g_31 a0g_32 a0g_33 a0g_34 a0g_35 a0g_36 a0g_37 a0g_38 a0g_39 : Value) (a0_1 : Nat) (a0_3 : Int32) (a0_4 : Int32) (a0_5 : Int32) (a0_6 : Int32) (a0_7 : Int32) (a0_8 : Int32) (a0_9 : Int32) (a0_10 : Int32) (a0_12 : Nat) (a0_16 : Nat) (ka0_12 : ClassId) (fa0_12 : Nat → Int32) (ka0_16 : ClassId) (fa0_16 : Nat → Int32) (ka0_1 : ClassId) (fa0_1 : Nat → Int32) (ad : Nat → Nat) (ba0_3_l : (0 : Int) ≤ a0_3.toInt) (ba0_3_u : a0_3.toInt ≤ (900 : Int)) (ba0_5_l : (0 : Int) ≤ a0_5.toInt) (ba0_5_u : a0_5.toInt ≤ (900 : Int)) (ba0_8_l : (0 : Int) ≤ a0_8.toInt) (ba0_8_u : a0_8.toInt ≤ (900 : Int)) (bfa0_16 : ((∀ k : Nat, 0 ≤ k → k ≤ 0 → (0 : Int) ≤ (fa0_16 k).toInt ∧ (fa0_16 k).toInt ≤ 9) ∧ (∀ k : Nat, 1 ≤ k → k ≤ 1 → (0 : Int) ≤ (fa0_16 k).toInt ∧ (fa0_16 k).toInt ≤ 20) ∧ (∀ k : Nat, 2 ≤ k → k ≤ 2 → (0 : Int) ≤ (fa0_16 k).toInt ∧ (fa0_16 k).toInt ≤ 8) ∧ (∀ k : Nat, 3 ≤ k → k ≤ 3 → (0 : Int) ≤ (fa0_16 k).toInt ∧ (fa0_16 k).toInt ≤ 100) ∧ (∀ k : Nat, 4 ≤ k → k ≤ 4 → (0 : Int) ≤ (fa0_16 k).toInt ∧ (fa0_16 k).toInt ≤ 9) ∧ (∀ k : Nat, 5 ≤ k → k ≤ 5 → (0 : Int) ≤ (fa0_16 k).toInt ∧ (fa0_16 k).toInt ≤ 3) ∧ (∀ k : Nat, 6 ≤ k → k ≤ 6 → (0 : Int) ≤ (fa0_16 k).toInt ∧ (fa0_16 k).toInt ≤ 6) ∧ (∀ k : Nat, 7 ≤ k → k ≤ 9 → (0 : Int) ≤ (fa0_16 k).toInt ∧ (fa0_16 k).toInt ≤ 8) ∧ (∀ k : Nat, 10 ≤ k → k ≤ 11 → (0 : Int) ≤ (fa0_16 k).toInt ∧ (fa0_16 k).toInt ≤ 1) ∧ (∀ k : Nat, 12 ≤ k → k ≤ 29 → (0 : Int) ≤ (fa0_16 k).toInt ∧ (fa0_16 k).toInt ≤ 20) ∧ (∀ k : Nat, 30 ≤ k → k ≤ 35 → (0 : Int) ≤ (fa0_16 k).toInt ∧ (fa0_16 k).toInt ≤ 8) ∧ (∀ k : Nat, 36 ≤ k → k ≤ 47 → (0 : Int) ≤ (fa0_16 k).toInt ∧ (fa0_16 k).toInt ≤ 999) ∧ (∀ k : Nat, 48 ≤ k → k ≤ 59 → (0 : Int) ≤ (fa0_16 k).toInt ∧ (fa0_16 k).toInt ≤ 8) ∧ ((1 : Int) ≤ (fa0_16 11).toInt → (2 : Int) ≤ (fa0_16 0).toInt ∧ (1 : Int) ≤ (fa0_16 1).toInt) ∧ (∀ (j i0 i : Int32), (0 : Int) ≤ j.toInt → j.toInt ≤ 8 → i0.toInt = 12 + 2 * j.toInt → i.toInt = 13 + 2 * j.toInt → (fa0_16 i0.toNatClampNeg).toInt = (1 : Int32).toInt → (1 : Int) ≤ (fa0_16 i.toNatClampNeg).toInt))) (hR1 : (a0_6.toInt = 2 → a0_8.toInt ≤ 8)) : zm l yX8_readLine wsX8_readLine ({ frames := 9, cells := 0, slots := 0, locals := 194 }) [.ref a0] dC dI sz [(a0, .inr (8, [a0g_0, Value.ref a0_1, a0g_2, Value.int a0_3, Value.int a0_4, Value.int a0_5, Value.int a0_6, Value.int a0_7, Value.int a0_8, Value.int a0_9, Value.int a0_10, a0g_11, Value.ref a0_12, Value.int 0, a0g_14, a0g_15, Value.ref a0_16, a0g_17, a0g_18, a0g_19, a0g_20, a0g_21, a0g_22, a0g_23, a0g_24, a0g_25, a0g_26, a0g_27, a0g_28, a0g_29, a0g_30, a0g_31, a0g_32, a0g_33, a0g_34, a0g_35, a0g_36, a0g_37, a0g_38, a0g_39])), (a0_12, .inl (ka0_12, 8, .inl (fa0_12))), (a0_16, .inl (ka0_16, 156, .inl (fa0_16))), (a0_1, .inl (ka0_1, 900, .inl (fa0_1)))] [(ka0_12, .int), (ka0_16, .int), (ka0_1, .int)] (fun A U => sxc_T ad A U) (fun A => va_Qv (fun (_ : Unit) => True) (fun (_ : Unit) (t : State) => ∃ na0_4 : Int32, ∃ na0_5 : Int32, ∃ na0_6 : Int32, ∃ na0_7 : Int32, ∃ na0_8 : Int32, ∃ na0_9 : Int32, ∃ na0_10 : Int32, ∃ na0_13 : Int32, ∃ nfa0_12 : Nat → Int32, ∃ nfa0_16 : Nat → Int32, ((0 : Int) ≤ na0_5.toInt ∧ na0_5.toInt ≤ 900) ∧ ((0 : Int) ≤ na0_8.toInt ∧ na0_8.toInt ≤ 900) ∧ ((0 : Int) ≤ na0_13.toInt ∧ na0_13.toInt ≤ 1) ∧ ((∀ k : Nat, 0 ≤ k → k ≤ 0 → (0 : Int) ≤ (nfa0_16 k).toInt ∧ (nfa0_16 k).toInt ≤ 9) ∧ (∀ k : Nat, 1 ≤ k → k ≤ 1 → (0 : Int) ≤ (nfa0_16 k).toInt ∧ (nfa0_16 k).toInt ≤ 20) ∧ (∀ k : Nat, 2 ≤ k → k ≤ 2 → (0 : Int) ≤ (nfa0_16 k).toInt ∧ (nfa0_16 k).toInt ≤ 8) ∧ (∀ k : Nat, 3 ≤ k → k ≤ 3 → (0 : Int) ≤ (nfa0_16 k).toInt ∧ (nfa0_16 k).toInt ≤ 100) ∧ (∀ k : Nat, 4 ≤ k → k ≤ 4 → (0 : Int) ≤ (nfa0_16 k).toInt ∧ (nfa0_16 k).toInt ≤ 9) ∧ (∀ k : Nat, 5 ≤ k → k ≤ 5 → (0 : Int) ≤ (nfa0_16 k).toInt ∧ (nfa0_16 k).toInt ≤ 3) ∧ (∀ k : Nat, 6 ≤ k → k ≤ 6 → (0 : Int) ≤ (nfa0_16 k).toInt ∧ (nfa0_16 k).toInt ≤ 6) ∧ (∀ k : Nat, 7 ≤ k → k ≤ 9 → (0 : Int) ≤ (nfa0_16 k).toInt ∧ (nfa0_16 k).toInt ≤ 8) ∧ (∀ k : Nat, 10 ≤ k → k ≤ 11 → (0 : Int) ≤ (nfa0_16 k).toInt ∧ (nfa0_16 k).toInt ≤ 1) ∧ (∀ k : Nat, 12 ≤ k → k ≤ 29 → (0 : Int) ≤ (nfa0_16 k).toInt ∧ (nfa0_16 k).toInt ≤ 20) ∧ (∀ k : Nat, 30 ≤ k → k ≤ 35 → (0 : Int) ≤ (nfa0_16 k).toInt ∧ (nfa0_16 k).toInt ≤ 8) ∧ (∀ k : Nat, 36 ≤ k → k ≤ 47 → (0 : Int) ≤ (nfa0_16 k).toInt ∧ (nfa0_16 k).toInt ≤ 999) ∧ (∀ k : Nat, 48 ≤ k → k ≤ 59 → (0 : Int) ≤ (nfa0_16 k).toInt ∧ (nfa0_16 k).toInt ≤ 8) ∧ ((1 : Int) ≤ (nfa0_16 11).toInt → (2 : Int) ≤ (nfa0_16 0).toInt ∧ (1 : Int) ≤ (nfa0_16 1).toInt) ∧ (∀ (j i0 i : Int32), (0 : Int) ≤ j.toInt → j.toInt ≤ 8 → i0.toInt = 12 + 2 * j.toInt → i.toInt = 13 + 2 * j.toInt → (nfa0_16 i0.toNatClampNeg).toInt = (1 : Int32).toInt → (1 : Int) ≤ (nfa0_16 i.toNatClampNeg).toInt)) ∧ (na0_13 = 1 ∨ na0_13 = 0) ∧ (a0_5.toInt ≤ na0_5.toInt ∧ ((na0_5.toInt = a0_5.toInt ∧ na0_6.toInt = a0_6.toInt) ∨ na0_6.toInt ≠ 59 ∨ a0_5.toInt < na0_5.toInt)) ∧ (FfG_X8_readLine a0_3.toInt a0_4.toInt a0_5.toInt a0_6.toInt a0_7.toInt a0_8.toInt a0_9.toInt a0_10.toInt (fl_A fa0_12) (fl_A fa0_16) (fl_A fa0_1) = (na0_4.toInt, na0_5.toInt, na0_6.toInt, na0_7.toInt, na0_8.toInt, na0_9.toInt, na0_10.toInt, na0_13.toInt, (fl_A nfa0_12), (fl_A nfa0_16))) ∧ ax_B dC dI A [(a0, .inr (8, [a0g_0, Value.ref a0_1, a0g_2, Value.int a0_3, Value.int na0_4, Value.int na0_5, Value.int na0_6, Value.int na0_7, Value.int na0_8, Value.int na0_9, Value.int na0_10, a0g_11, Value.ref a0_12, Value.int na0_13, a0g_14, a0g_15, Value.ref a0_16, a0g_17, a0g_18, a0g_19, a0g_20, a0g_21, a0g_22, a0g_23, a0g_24, a0g_25, a0g_26, a0g_27, a0g_28, a0g_29, a0g_30, a0g_31, a0g_32, a0g_33, a0g_34, a0g_35, a0g_36, a0g_37, a0g_38, a0g_39])), (a0_12, .inl (ka0_12, 8, .inl (nfa0_12))), (a0_16, .inl (ka0_16, 156, .inl (nfa0_16))), (a0_1, .inl (ka0_1, 900, .inl (fa0_1)))] [(ka0_12, .int), (ka0_16, .int), (ka0_1, .int)] t) A) := by
  refine zh (cc := cX8_readLine) (maxL := 1) (ret := none) zn_RX8 rfl (Nat.le_of_ble_eq_true rfl) (fun p e s m below meth c A ls hx hb hml hr hts (hown : s.vm.findClass RX8 = some m.cls) hlocks hA hS hP hK hD hE (hl : lv_has ls 1 [(0, .ref a0)]) => ?_)
  have hE0 := hE
  generalize hFX : FfG_X8_readLine a0_3.toInt a0_4.toInt a0_5.toInt a0_6.toInt a0_7.toInt a0_8.toInt a0_9.toInt a0_10.toInt (fl_A fa0_12) (fl_A fa0_16) (fl_A fa0_1) = FX at ⊢
  have hF0 := hFX.symm.trans (FfG_X8_readLine.eq_1 a0_3.toInt a0_4.toInt a0_5.toInt a0_6.toInt a0_7.toInt a0_8.toInt a0_9.toInt a0_10.toInt (fl_A fa0_12) (fl_A fa0_16) (fl_A fa0_1))
  refine lv_aload_n hx hb dX8_readLine_0 rfl (lv_at hl 0 rfl) ?_
  refine va_ldcS hx hb hown (sxc_R18 hE0) dX8_readLine_1 ?_
  have hKc := hK.sub (tys' := [(ka0_12, .int)]) [0] rfl
  refine va_calli (va_runV (As := [.ref (ad 18)]) (rest := []) ⟨hx, hb, hml, hown, hts⟩ (fG_X8_isWord l dC dI s.heap.size a0 (ad 18) a0g_0 (Value.ref a0_1) a0g_2 (Value.int a0_3) (Value.int a0_4) (Value.int a0_5) (Value.int a0_7) (Value.int a0_9) (Value.int a0_10) a0g_11 a0g_14 a0g_15 (Value.ref a0_16) a0g_17 a0g_18 a0g_19 a0g_20 a0g_21 a0g_22 a0g_23 a0g_24 a0g_25 a0g_26 a0g_27 a0g_28 a0g_29 a0g_30 a0g_31 a0g_32 a0g_33 a0g_34 a0g_35 a0g_36 a0g_37 a0g_38 a0g_39 a0_6 a0_8 a0_12 ka0_12 fa0_12 7 (sxc 18) ba0_8_l ba0_8_u) (cwV 1 hts gX8_readLine_X8_isWord rfl rfl rfl zd_X8_isWord ⟨Nat.le_of_ble_eq_true rfl, Nat.le_of_ble_eq_true rfl⟩) ⟨ax_blind (fun _ _ _ _ hq => sxc_W_same _ _ _ _ (hq)), zr_8 hKc (zp_P2 hP) (q0 := 0) rfl, ax_preE (zp_P2 hP) hKc (zp_D2 hD) (fun U hU hW => sxc_W_to (sxc_T_w hE0 (i := 18) (by decide)) hS.2.1 (zp_F2 hD hS hA) hU hW)⟩ rfl rfl hl.1 rfl (lv_room (Nat.le_of_ble_eq_true rfl)) dX8_readLine_3 ⟨Nat.le_of_ble_eq_true rfl, Nat.le_of_ble_eq_true rfl⟩) hS (fun q _ h => zp_F2 hD hS hA q h) (zp_F2 hD hS hA) (fun r3 u t H locs ht hvm hw hB hz1 hk1 hS1 => zo2 hB ht hP hD hk1 (zp_F2 hD hS hA) hS1 (fun hP hK1 hD hS => ?_))
  obtain ⟨hw, hfr3⟩ := hw
  rw [show ((7 : Nat) : Int) = 7 from rfl] at hfr3
  have hc3 : FfG_X8_isWord a0_6.toInt a0_8.toInt (fl_A fa0_12) 7 (fl_A (sxc 18)) = r3.toInt := hfr3.symm
  have hF0 := hF0.trans (fl_lt_eq hc3.symm)
  have hw : (0 : Int) ≤ r3.toInt ∧ r3.toInt ≤ (1 : Int) := hw
  obtain ⟨h3_0, h3_1⟩ := hw
  refine lv_if_eq (tgt := 16) hx hb dX8_readLine_6 (by decide) (fun c6 => ?_) (fun c6 => ?_)
  · have gc6 := ai_eq c6
    have u6t_r3 : r3.toInt ≤ (0 : Int) := Int.le_trans (Int.le_of_eq gc6) zq6
    have l6t_r3 : (0 : Int) ≤ r3.toInt := h3_0
    have hF0 := hF0.trans (if_pos (show r3.toInt = 0 from gc6))
    refine lv_aload_n hx hb dX8_readLine_16 rfl (lv_at hl 0 rfl) ?_
    refine va_ldcS hx hb hown (sxc_R19 hE0) dX8_readLine_17 ?_
    have hKc := hK.sub (tys' := [(ka0_12, .int)]) [0] rfl
    refine va_calli (va_runV (As := [.ref (ad 19)]) (rest := []) ⟨hx, hb, hml, hown, hts⟩ (fG_X8_isWord l dC dI H.size a0 (ad 19) a0g_0 (Value.ref a0_1) a0g_2 (Value.int a0_3) (Value.int a0_4) (Value.int a0_5) (Value.int a0_7) (Value.int a0_9) (Value.int a0_10) a0g_11 a0g_14 a0g_15 (Value.ref a0_16) a0g_17 a0g_18 a0g_19 a0g_20 a0g_21 a0g_22 a0g_23 a0g_24 a0g_25 a0g_26 a0g_27 a0g_28 a0g_29 a0g_30 a0g_31 a0g_32 a0g_33 a0g_34 a0g_35 a0g_36 a0g_37 a0g_38 a0g_39 a0_6 a0_8 a0_12 ka0_12 fa0_12 3 (sxc 19) ba0_8_l ba0_8_u) (cwV 1 hts gX8_readLine_X8_isWord rfl rfl rfl zd_X8_isWord ⟨Nat.le_of_ble_eq_true rfl, Nat.le_of_ble_eq_true rfl⟩) ⟨ax_blind (fun _ _ _ _ hq => sxc_W_same _ _ _ _ (hq)), zr_8 hKc (zp_P2 hP) (q0 := 0) rfl, ax_preE (zp_P2 hP) hKc (zp_D2 hD) (fun U hU hW => sxc_W_to (sxc_T_w hE0 (i := 19) (by decide)) hS.2.1 (zp_F2 hD hS hA) hU hW)⟩ rfl rfl hl.1 rfl (lv_room (Nat.le_of_ble_eq_true rfl)) dX8_readLine_19 ⟨Nat.le_of_ble_eq_true rfl, Nat.le_of_ble_eq_true rfl⟩) hS (fun q _ h => zp_F2 hD hS hA q h) (zp_F2 hD hS hA) (fun r19 u t H locs ht hvm hw hB hz1 hk1 hS1 => zo2 hB ht hP hD hk1 (zp_F2 hD hS hA) hS1 (fun hP hK1 hD hS => ?_))
    obtain ⟨hw, hfr19⟩ := hw
    rw [show ((3 : Nat) : Int) = 3 from rfl] at hfr19
    have hc19 : FfG_X8_isWord a0_6.toInt a0_8.toInt (fl_A fa0_12) 3 (fl_A (sxc 19)) = r19.toInt := hfr19.symm
    have hF0 := hF0.trans (fl_lt_eq hc19.symm)
    have hw : (0 : Int) ≤ r19.toInt ∧ r19.toInt ≤ (1 : Int) := hw
    obtain ⟨h19_0, h19_1⟩ := hw
    refine lv_if_eq (tgt := 32) hx hb dX8_readLine_22 (by decide) (fun c22 => ?_) (fun c22 => ?_)
    · have gc22 := ai_eq c22
      have u22t_r19 : r19.toInt ≤ (0 : Int) := Int.le_trans (Int.le_of_eq gc22) zq6
      have l22t_r19 : (0 : Int) ≤ r19.toInt := h19_0
      have hF0 := hF0.trans (if_pos (show r19.toInt = 0 from gc22))
      refine lv_aload_n hx hb dX8_readLine_32 rfl (lv_at hl 0 rfl) ?_
      refine va_ldcS hx hb hown (sxc_R20 hE0) dX8_readLine_33 ?_
      refine lv_aload_n hx hb dX8_readLine_35 rfl (lv_at hl 0 rfl) ?_
      refine va_get (D := (dC, dI)) (ci := 8) (v := .ref a0_16) (C := RX8) (T := TX8) (N := 40) hx hb hts zi_X8_readLine_8 hown hK hP 0 rfl rfl 16 (by decide) (hts (.fieldLink RX8 23 "WaxTurnsModel" "fresh" "[I") (zm_X8_readLine_r1 (List.mem_of_getElem? (i := 0) rfl))) (fun _ h9 => h9) rfl dX8_readLine_36 ?_
      refine lv_iconst (v := 4) hx hb dX8_readLine_39 zk_iconst_4 ?_
      refine va_iald hx hb hK hP 2 1 rfl rfl (by unfold vp_in; decide +kernel) dX8_readLine_40 ?_
      refine lv_topi (fun x40 ex40 => ?_)
      have bx40 : (0 : Int) ≤ x40.toInt ∧ x40.toInt ≤ 9 := by rw [ex40]; exact ai_rd bfa0_16.2.2.2.2.1 zq68 zq67 (by decide) (by decide) (by decide)
      have fqx40 := congrArg Int32.toInt ex40
      have hF0 := hF0.trans (fl_lt_eq (show x40.toInt = (fl_A fa0_16) (4) from fqx40))
      refine lv_bipush (v := 9) hx hb dX8_readLine_41 zk_bipush_9 ?_
      refine lv_icmp_ge (tgt := 50) hx hb dX8_readLine_43 (by decide) (fun c43 => ?_) (fun c43 => ?_)
      · have gc43 := ai_le c43
        have l43t_x40 : (9 : Int) ≤ x40.toInt := Int.le_trans zq2 gc43
        have hF0 := hF0.trans (if_pos (show 9 ≤ x40.toInt from gc43))
        refine lv_iconst (v := 0) hx hb dX8_readLine_50 zk_iconst_0 ?_
        have hKc := hK.sub (tys' := [(ka0_12, .int), (ka0_16, .int), (ka0_1, .int)]) [0, 1, 2] rfl
        refine va_calli (va_runV (As := [.ref (ad 20), .int 0]) (rest := []) ⟨hx, hb, hml, hown, hts⟩ (fG_X8_begins l dC dI H.size a0 (ad 20) 0 a0g_0 a0g_2 a0g_11 a0g_14 a0g_15 a0g_17 a0g_18 a0g_19 a0g_20 a0g_21 a0g_22 a0g_23 a0g_24 a0g_25 a0g_26 a0g_27 a0g_28 a0g_29 a0g_30 a0g_31 a0g_32 a0g_33 a0g_34 a0g_35 a0g_36 a0g_37 a0g_38 a0g_39 a0_1 a0_3 a0_4 a0_5 a0_6 a0_7 a0_8 a0_9 a0_10 a0_12 a0_16 ka0_12 fa0_12 ka0_16 fa0_16 ka0_1 fa0_1 6 (sxc 20) zq5 (Int.le_trans zq6 zq4) ba0_3_l ba0_3_u ba0_5_l ba0_5_u ba0_8_l ba0_8_u bfa0_16 hR1) (cwV 2 hts gX8_readLine_X8_begins rfl rfl rfl zd_X8_begins ⟨Nat.le_of_ble_eq_true rfl, Nat.le_of_ble_eq_true rfl⟩) ⟨ax_blind (fun _ _ _ _ hq => sxc_W_same _ _ _ _ (hq)), zr_8 hKc (zp_P4 hP) (q0 := 0) rfl, ax_preE (zp_P4 hP) hKc (zp_D4 hD) (fun U hU hW => sxc_W_to (sxc_T_w hE0 (i := 20) (by decide)) hS.2.1 (zp_F4 hD hS hA) hU hW)⟩ rfl rfl hl.1 rfl (lv_room (Nat.le_of_ble_eq_true rfl)) dX8_readLine_51 ⟨Nat.le_of_ble_eq_true rfl, Nat.le_of_ble_eq_true rfl⟩) hS (fun q _ h => zp_F4 hD hS hA q h) (zp_F4 hD hS hA) (fun r51 v51na0_13 t H1 locs ht hvm hw => zx_8 (fun v51na0_4 v51na0_5 v51na0_6 v51na0_7 v51na0_8 v51na0_9 v51na0_10 v51nfa0_12 => zy_6 (fun bv51na0_5 bv51na0_8 bv51na0_13 hraw51_0 hraw51_1 hraw51_2 hB hz1 hk1 hS1 => zo4 hB ht hP hD hk1 (zp_F4 hD hS hA) hS1 (fun hP hK1 hD hS => ?_))))
        generalize H1 = H at hP hS ⊢
        obtain ⟨hw, hfr51⟩ := hw
        rw [show (0 : Int32).toInt = 0 from by decide, show ((6 : Nat) : Int) = 6 from rfl] at hfr51 hraw51_2
        have hc51 : FfG_X8_begins 0 a0_3.toInt a0_4.toInt a0_5.toInt a0_6.toInt a0_7.toInt a0_8.toInt a0_9.toInt a0_10.toInt (fl_A fa0_12) (fl_A fa0_16) (fl_A fa0_1) 6 (fl_A (sxc 20)) = (r51.toInt, v51na0_4.toInt, v51na0_5.toInt, v51na0_6.toInt, v51na0_7.toInt, v51na0_8.toInt, v51na0_9.toInt, v51na0_10.toInt, v51na0_13.toInt, (fl_A v51nfa0_12)) := Prod.ext hfr51.symm hraw51_2
        have hF0 := hF0.trans (fl_c10_eq hc51)
        rcases hw with hw | hw | hw
        · obtain ⟨hw, huh51⟩ := hw
          subst hw
          subst huh51
          have hF0 := hF0.trans (if_pos (by decide))
          refine lv_if_eq (tgt := 64) hx hb dX8_readLine_54 (by decide) (fun _ => ?_) (fun c54 => absurd (by decide +kernel) c54)
          refine lv_aload_n hx hb dX8_readLine_64 rfl (lv_at hl 0 rfl) ?_
          refine va_ldcS hx hb hown (sxc_R21 hE0) dX8_readLine_65 ?_
          refine lv_aload_n hx hb dX8_readLine_67 rfl (lv_at hl 0 rfl) ?_
          refine va_get (D := (dC, dI)) (ci := 8) (v := .ref a0_16) (C := RX8) (T := TX8) (N := 40) hx hb hts zi_X8_readLine_8 hown hK hP 0 rfl rfl 16 (by decide) (hts (.fieldLink RX8 23 "WaxTurnsModel" "fresh" "[I") (zm_X8_readLine_r1 (List.mem_of_getElem? (i := 0) rfl))) (fun _ h9 => h9) rfl dX8_readLine_68 ?_
          refine lv_iconst (v := 5) hx hb dX8_readLine_71 zk_iconst_5 ?_
          refine va_iald hx hb hK hP 2 1 rfl rfl (by unfold vp_in; decide +kernel) dX8_readLine_72 ?_
          refine lv_topi (fun x72 ex72 => ?_)
          have bx72 : (0 : Int) ≤ x72.toInt ∧ x72.toInt ≤ 3 := by rw [ex72]; exact ai_rd bfa0_16.2.2.2.2.2.1 zq112 zq113 (by decide) (by decide) (by decide)
          have fqx72 := congrArg Int32.toInt ex72
          have hF0 := hF0.trans (fl_lt_eq (show x72.toInt = (fl_A fa0_16) (5) from fqx72))
          refine lv_iconst (v := 3) hx hb dX8_readLine_73 zk_iconst_3 ?_
          refine lv_icmp_ge (tgt := 81) hx hb dX8_readLine_74 (by decide) (fun c74 => ?_) (fun c74 => ?_)
          · have gc74 := ai_le c74
            have l74t_x72 : (3 : Int) ≤ x72.toInt := Int.le_trans zq8 gc74
            have hF0 := hF0.trans (if_pos (show 3 ≤ x72.toInt from gc74))
            refine lv_iconst (v := 0) hx hb dX8_readLine_81 zk_iconst_0 ?_
            have hKc := hK.sub (tys' := [(ka0_12, .int), (ka0_16, .int), (ka0_1, .int)]) [0, 1, 2] rfl
            refine va_calli (va_runV (As := [.ref (ad 21), .int 0]) (rest := []) ⟨hx, hb, hml, hown, hts⟩ (fG_X8_begins l dC dI H.size a0 (ad 21) 0 a0g_0 a0g_2 a0g_11 a0g_14 a0g_15 a0g_17 a0g_18 a0g_19 a0g_20 a0g_21 a0g_22 a0g_23 a0g_24 a0g_25 a0g_26 a0g_27 a0g_28 a0g_29 a0g_30 a0g_31 a0g_32 a0g_33 a0g_34 a0g_35 a0g_36 a0g_37 a0g_38 a0g_39 a0_1 a0_3 v51na0_4 v51na0_5 v51na0_6 v51na0_7 v51na0_8 v51na0_9 v51na0_10 a0_12 a0_16 ka0_12 v51nfa0_12 ka0_16 fa0_16 ka0_1 fa0_1 7 (sxc 21) zq5 (Int.le_trans zq6 zq4) ba0_3_l ba0_3_u bv51na0_5.1 bv51na0_5.2 bv51na0_8.1 bv51na0_8.2 bfa0_16 hraw51_0) (cwV 2 hts gX8_readLine_X8_begins rfl rfl rfl zd_X8_begins ⟨Nat.le_of_ble_eq_true rfl, Nat.le_of_ble_eq_true rfl⟩) ⟨ax_blind (fun _ _ _ _ hq => sxc_W_same _ _ _ _ (hq)), zr_8 hKc (zp_P4 hP) (q0 := 0) rfl, ax_preE (zp_P4 hP) hKc (zp_D4 hD) (fun U hU hW => sxc_W_to (sxc_T_w hE0 (i := 21) (by decide)) hS.2.1 (zp_F4 hD hS hA) hU hW)⟩ rfl rfl hl.1 rfl (lv_room (Nat.le_of_ble_eq_true rfl)) dX8_readLine_82 ⟨Nat.le_of_ble_eq_true rfl, Nat.le_of_ble_eq_true rfl⟩) hS (fun q _ h => zp_F4 hD hS hA q h) (zp_F4 hD hS hA) (fun r82 v82na0_13 t H1 locs ht hvm hw => zx_8 (fun v82na0_4 v82na0_5 v82na0_6 v82na0_7 v82na0_8 v82na0_9 v82na0_10 v82nfa0_12 => zy_6 (fun bv82na0_5 bv82na0_8 bv82na0_13 hraw82_0 hraw82_1 hraw82_2 hB hz1 hk1 hS1 => zo4 hB ht hP hD hk1 (zp_F4 hD hS hA) hS1 (fun hP hK1 hD hS => ?_))))
            generalize H1 = H at hP hS ⊢
            obtain ⟨hw, hfr82⟩ := hw
            rw [show (0 : Int32).toInt = 0 from by decide, show ((7 : Nat) : Int) = 7 from rfl] at hfr82 hraw82_2
            have hc82 : FfG_X8_begins 0 a0_3.toInt v51na0_4.toInt v51na0_5.toInt v51na0_6.toInt v51na0_7.toInt v51na0_8.toInt v51na0_9.toInt v51na0_10.toInt (fl_A v51nfa0_12) (fl_A fa0_16) (fl_A fa0_1) 7 (fl_A (sxc 21)) = (r82.toInt, v82na0_4.toInt, v82na0_5.toInt, v82na0_6.toInt, v82na0_7.toInt, v82na0_8.toInt, v82na0_9.toInt, v82na0_10.toInt, v82na0_13.toInt, (fl_A v82nfa0_12)) := Prod.ext hfr82.symm hraw82_2
            have hF0 := hF0.trans (fl_c10_eq hc82)
            rcases hw with hw | hw | hw
            · obtain ⟨hw, huh82⟩ := hw
              subst hw
              subst huh82
              have hF0 := hF0.trans (if_pos (by decide))
              refine lv_if_eq (tgt := 95) hx hb dX8_readLine_85 (by decide) (fun _ => ?_) (fun c85 => absurd (by decide +kernel) c85)
              refine lv_aload_n hx hb dX8_readLine_95 rfl (lv_at hl 0 rfl) ?_
              refine va_ldcS hx hb hown (sxc_R22 hE0) dX8_readLine_96 ?_
              refine lv_aload_n hx hb dX8_readLine_98 rfl (lv_at hl 0 rfl) ?_
              refine va_get (D := (dC, dI)) (ci := 8) (v := .ref a0_16) (C := RX8) (T := TX8) (N := 40) hx hb hts zi_X8_readLine_8 hown hK hP 0 rfl rfl 16 (by decide) (hts (.fieldLink RX8 23 "WaxTurnsModel" "fresh" "[I") (zm_X8_readLine_r1 (List.mem_of_getElem? (i := 0) rfl))) (fun _ h9 => h9) rfl dX8_readLine_99 ?_
              refine lv_bipush (v := 6) hx hb dX8_readLine_102 zk_bipush_6 ?_
              refine va_iald hx hb hK hP 2 1 rfl rfl (by unfold vp_in; decide +kernel) dX8_readLine_104 ?_
              refine lv_topi (fun x104 ex104 => ?_)
              have bx104 : (0 : Int) ≤ x104.toInt ∧ x104.toInt ≤ 6 := by rw [ex104]; exact ai_rd bfa0_16.2.2.2.2.2.2.1 zq15 zq16 (by decide) (by decide) (by decide)
              have fqx104 := congrArg Int32.toInt ex104
              have hF0 := hF0.trans (fl_lt_eq (show x104.toInt = (fl_A fa0_16) (6) from fqx104))
              refine lv_bipush (v := 6) hx hb dX8_readLine_105 zk_bipush_6 ?_
              refine lv_icmp_ge (tgt := 114) hx hb dX8_readLine_107 (by decide) (fun c107 => ?_) (fun c107 => ?_)
              · have gc107 := ai_le c107
                have l107t_x104 : (6 : Int) ≤ x104.toInt := Int.le_trans zq15 gc107
                have hF0 := hF0.trans (if_pos (show 6 ≤ x104.toInt from gc107))
                refine lv_iconst (v := 0) hx hb dX8_readLine_114 zk_iconst_0 ?_
                have hKc := hK.sub (tys' := [(ka0_12, .int), (ka0_16, .int), (ka0_1, .int)]) [0, 1, 2] rfl
                refine va_calli (va_runV (As := [.ref (ad 22), .int 0]) (rest := []) ⟨hx, hb, hml, hown, hts⟩ (fG_X8_begins l dC dI H.size a0 (ad 22) 0 a0g_0 a0g_2 a0g_11 a0g_14 a0g_15 a0g_17 a0g_18 a0g_19 a0g_20 a0g_21 a0g_22 a0g_23 a0g_24 a0g_25 a0g_26 a0g_27 a0g_28 a0g_29 a0g_30 a0g_31 a0g_32 a0g_33 a0g_34 a0g_35 a0g_36 a0g_37 a0g_38 a0g_39 a0_1 a0_3 v82na0_4 v82na0_5 v82na0_6 v82na0_7 v82na0_8 v82na0_9 v82na0_10 a0_12 a0_16 ka0_12 v82nfa0_12 ka0_16 fa0_16 ka0_1 fa0_1 4 (sxc 22) zq5 (Int.le_trans zq6 zq4) ba0_3_l ba0_3_u bv82na0_5.1 bv82na0_5.2 bv82na0_8.1 bv82na0_8.2 bfa0_16 hraw82_0) (cwV 2 hts gX8_readLine_X8_begins rfl rfl rfl zd_X8_begins ⟨Nat.le_of_ble_eq_true rfl, Nat.le_of_ble_eq_true rfl⟩) ⟨ax_blind (fun _ _ _ _ hq => sxc_W_same _ _ _ _ (hq)), zr_8 hKc (zp_P4 hP) (q0 := 0) rfl, ax_preE (zp_P4 hP) hKc (zp_D4 hD) (fun U hU hW => sxc_W_to (sxc_T_w hE0 (i := 22) (by decide)) hS.2.1 (zp_F4 hD hS hA) hU hW)⟩ rfl rfl hl.1 rfl (lv_room (Nat.le_of_ble_eq_true rfl)) dX8_readLine_115 ⟨Nat.le_of_ble_eq_true rfl, Nat.le_of_ble_eq_true rfl⟩) hS (fun q _ h => zp_F4 hD hS hA q h) (zp_F4 hD hS hA) (fun r115 v115na0_13 t H1 locs ht hvm hw => zx_8 (fun v115na0_4 v115na0_5 v115na0_6 v115na0_7 v115na0_8 v115na0_9 v115na0_10 v115nfa0_12 => zy_6 (fun bv115na0_5 bv115na0_8 bv115na0_13 hraw115_0 hraw115_1 hraw115_2 hB hz1 hk1 hS1 => zo4 hB ht hP hD hk1 (zp_F4 hD hS hA) hS1 (fun hP hK1 hD hS => ?_))))
                generalize H1 = H at hP hS ⊢
                obtain ⟨hw, hfr115⟩ := hw
                rw [show (0 : Int32).toInt = 0 from by decide, show ((4 : Nat) : Int) = 4 from rfl] at hfr115 hraw115_2
                have hc115 : FfG_X8_begins 0 a0_3.toInt v82na0_4.toInt v82na0_5.toInt v82na0_6.toInt v82na0_7.toInt v82na0_8.toInt v82na0_9.toInt v82na0_10.toInt (fl_A v82nfa0_12) (fl_A fa0_16) (fl_A fa0_1) 4 (fl_A (sxc 22)) = (r115.toInt, v115na0_4.toInt, v115na0_5.toInt, v115na0_6.toInt, v115na0_7.toInt, v115na0_8.toInt, v115na0_9.toInt, v115na0_10.toInt, v115na0_13.toInt, (fl_A v115nfa0_12)) := Prod.ext hfr115.symm hraw115_2
                have hF0 := hF0.trans (fl_c10_eq hc115)
                rcases hw with hw | hw | hw
                · obtain ⟨hw, huh115⟩ := hw
                  subst hw
                  subst huh115
                  have hF0 := hF0.trans (if_pos (by decide))
                  refine lv_if_eq (tgt := 128) hx hb dX8_readLine_118 (by decide) (fun _ => ?_) (fun c118 => absurd (by decide +kernel) c118)
                  refine lv_aload_n hx hb dX8_readLine_128 rfl (lv_at hl 0 rfl) ?_
                  refine lv_iconst (v := 1) hx hb dX8_readLine_129 zk_iconst_1 ?_
                  refine lv_aload_n hx hb dX8_readLine_130 rfl (lv_at hl 0 rfl) ?_
                  refine va_get (D := (dC, dI)) (ci := 8) (v := .int v115na0_4) (C := RX8) (T := TX8) (N := 40) hx hb hts zi_X8_readLine_8 hown hK hP 0 rfl rfl 4 (by decide) (hts (.fieldLink RX8 78 "WaxTurnsModel" "at" "I") (zm_X8_readLine_r1 (List.mem_of_getElem? (i := 1) rfl))) (fun _ h9 => h9) rfl dX8_readLine_131 ?_
                  refine va_callv (va_runV (As := [.int 1, .int v115na0_4]) (rest := []) ⟨hx, hb, hml, hown, hts⟩ (fG_X8_wrong l dC dI H.size a0 1 v115na0_4 a0g_0 (Value.ref a0_1) a0g_2 (Value.int a0_3) (Value.int v115na0_4) (Value.int v115na0_5) (Value.int v115na0_6) (Value.int v115na0_7) (Value.int v115na0_8) a0g_11 (Value.ref a0_12) a0g_14 a0g_15 (Value.ref a0_16) a0g_17 a0g_18 a0g_19 a0g_20 a0g_21 a0g_22 a0g_23 a0g_24 a0g_25 a0g_26 a0g_27 a0g_28 a0g_29 a0g_30 a0g_31 a0g_32 a0g_33 a0g_34 a0g_35 a0g_36 a0g_37 a0g_38 a0g_39 v115na0_9 v115na0_10 ) (cwV 2 hts gX8_readLine_X8_wrong rfl rfl rfl zd_X8_wrong ⟨Nat.le_of_ble_eq_true rfl, Nat.le_of_ble_eq_true rfl⟩) ⟨ax_blind (fun _ _ _ _ _ => trivial), zr_8 (zp_K hK) (zp_P1 hP) (q0 := 0) rfl, ax_pre (zp_P1 hP) (zp_K hK) (zp_D1 hD) (fun _ _ => trivial)⟩ rfl rfl hl.1 rfl (lv_room (Nat.le_of_ble_eq_true rfl)) dX8_readLine_134 ⟨Nat.le_of_ble_eq_true rfl, Nat.le_of_ble_eq_true rfl⟩) hS (fun q _ h => zp_F1 hD hS hA q h) (zp_F1 hD hS hA) (fun u t H locs ht hvm hw => zx_2 (fun v134na0_9 v134na0_10 => zy_1 (fun hraw134_0 hB hz1 hk1 hS1 => zo1 hB ht hP hD hk1 (zp_F1 hD hS hA) hS1 (fun hP hK1 hD hS => ?_))))
                  rw [show (1 : Int32).toInt = 1 from by decide] at hraw134_0
                  have hc134 : FfG_X8_wrong 1 v115na0_4.toInt = (v134na0_9.toInt, v134na0_10.toInt) := hraw134_0
                  have hF0 := hF0.trans (fl_c2_eq hc134)
                  have hFe : FX = (v115na0_4.toInt, v115na0_5.toInt, v115na0_6.toInt, v115na0_7.toInt, v115na0_8.toInt, v134na0_9.toInt, v134na0_10.toInt, 1, (fl_A v115nfa0_12), (fl_A fa0_16)) := hF0
                  exact W.vret hx hb hr (fun t ht hW => ⟨⟨(), rfl, trivial, v115na0_4, v115na0_5, v115na0_6, v115na0_7, v115na0_8, v134na0_9, v134na0_10, 1, v115nfa0_12, fa0_16, ⟨bv115na0_5.1, bv115na0_5.2⟩, ⟨bv115na0_8.1, bv115na0_8.2⟩, ⟨Int.le_trans (by decide) zq1, zq0⟩, bfa0_16, (Or.inl rfl), (em_t hraw51_1 (em_t hraw82_1 hraw115_1)), hFe, by rw [ht]; exact hP, va_K.moved hW.alike hK, hD⟩, hS.F ht⟩) hS.2.2 dX8_readLine_137
                · obtain ⟨hw, huh115⟩ := hw
                  subst hw
                  subst huh115
                  have hF0 := hF0.trans (if_neg (by decide))
                  have hF0 := hF0.trans (if_pos (by decide))
                  refine lv_if_eq (tgt := 128) hx hb dX8_readLine_118 (by decide) (fun c118 => absurd c118 (by decide +kernel)) (fun _ => ?_)
                  refine lv_aload_n hx hb dX8_readLine_121 rfl (lv_at hl 0 rfl) ?_
                  refine va_callv (va_runV (As := []) (rest := []) ⟨hx, hb, hml, hown, hts⟩ (fF_X8_seenLine l dC dI H.size a0 a0g_0 (Value.ref a0_1) a0g_2 (Value.int a0_3) (Value.int v115na0_4) (Value.int v115na0_5) (Value.int v115na0_6) (Value.int v115na0_7) (Value.int v115na0_8) (Value.int v115na0_9) (Value.int v115na0_10) a0g_11 (Value.ref a0_12) a0g_14 a0g_15 (Value.ref a0_16) a0g_17 a0g_18 a0g_19 a0g_20 a0g_21 a0g_22 a0g_23 a0g_24 a0g_25 a0g_26 a0g_27 a0g_28 a0g_29 a0g_30 a0g_31 a0g_32 a0g_33 a0g_34 a0g_35 a0g_36 a0g_37 a0g_38 a0g_39 ) (cwV 0 hts gX8_readLine_X8_seenLine rfl rfl rfl zd_X8_seenLine ⟨Nat.le_of_ble_eq_true rfl, Nat.le_of_ble_eq_true rfl⟩) ⟨ax_blind (fun _ _ _ _ _ => trivial), zr_8 (zp_K hK) (zp_P1 hP) (q0 := 0) rfl, ax_pre (zp_P1 hP) (zp_K hK) (zp_D1 hD) (fun _ _ => trivial)⟩ rfl rfl hl.1 rfl (lv_room (Nat.le_of_ble_eq_true rfl)) dX8_readLine_122 ⟨Nat.le_of_ble_eq_true rfl, Nat.le_of_ble_eq_true rfl⟩) hS (fun q _ h => zp_F1 hD hS hA q h) (zp_F1 hD hS hA) (fun u t H locs ht hvm hw hB hz1 hk1 hS1 => zo1 hB ht hP hD hk1 (zp_F1 hD hS hA) hS1 (fun hP hK1 hD hS => ?_))
                  refine lv_goto (tgt := 137) hx hb dX8_readLine_125 (by decide) ?_
                  have hFe : FX = (v115na0_4.toInt, v115na0_5.toInt, v115na0_6.toInt, v115na0_7.toInt, v115na0_8.toInt, v115na0_9.toInt, v115na0_10.toInt, 1, (fl_A v115nfa0_12), (fl_A fa0_16)) := hF0
                  exact W.vret hx hb hr (fun t ht hW => ⟨⟨(), rfl, trivial, v115na0_4, v115na0_5, v115na0_6, v115na0_7, v115na0_8, v115na0_9, v115na0_10, 1, v115nfa0_12, fa0_16, ⟨bv115na0_5.1, bv115na0_5.2⟩, ⟨bv115na0_8.1, bv115na0_8.2⟩, ⟨Int.le_trans (by decide) zq1, zq0⟩, bfa0_16, (Or.inl rfl), (em_t hraw51_1 (em_t hraw82_1 hraw115_1)), hFe, by rw [ht]; exact hP, va_K.moved hW.alike hK, hD⟩, hS.F ht⟩) hS.2.2 dX8_readLine_137
                · obtain ⟨hw, huh115, h115⟩ := hw
                  subst hw
                  subst huh115
                  exact absurd h115.1 (by decide)
              · have gc107 := ai_nle c107
                have u107f_x104 : x104.toInt ≤ (5 : Int) := ai_lthi gc107 zq16
                have hF0 := hF0.trans (if_neg (show ¬ (6 ≤ x104.toInt) from Int.not_le.mpr gc107))
                refine lv_iconst (v := 1) hx hb dX8_readLine_110 zk_iconst_1 ?_
                refine lv_goto (tgt := 115) hx hb dX8_readLine_111 (by decide) ?_
                have hKc := hK.sub (tys' := [(ka0_12, .int), (ka0_16, .int), (ka0_1, .int)]) [0, 1, 2] rfl
                refine va_calli (va_runV (As := [.ref (ad 22), .int 1]) (rest := []) ⟨hx, hb, hml, hown, hts⟩ (fG_X8_begins l dC dI H.size a0 (ad 22) 1 a0g_0 a0g_2 a0g_11 a0g_14 a0g_15 a0g_17 a0g_18 a0g_19 a0g_20 a0g_21 a0g_22 a0g_23 a0g_24 a0g_25 a0g_26 a0g_27 a0g_28 a0g_29 a0g_30 a0g_31 a0g_32 a0g_33 a0g_34 a0g_35 a0g_36 a0g_37 a0g_38 a0g_39 a0_1 a0_3 v82na0_4 v82na0_5 v82na0_6 v82na0_7 v82na0_8 v82na0_9 v82na0_10 a0_12 a0_16 ka0_12 v82nfa0_12 ka0_16 fa0_16 ka0_1 fa0_1 4 (sxc 22) (Int.le_trans zq4 zq1) zq0 ba0_3_l ba0_3_u bv82na0_5.1 bv82na0_5.2 bv82na0_8.1 bv82na0_8.2 bfa0_16 hraw82_0) (cwV 2 hts gX8_readLine_X8_begins rfl rfl rfl zd_X8_begins ⟨Nat.le_of_ble_eq_true rfl, Nat.le_of_ble_eq_true rfl⟩) ⟨ax_blind (fun _ _ _ _ hq => sxc_W_same _ _ _ _ (hq)), zr_8 hKc (zp_P4 hP) (q0 := 0) rfl, ax_preE (zp_P4 hP) hKc (zp_D4 hD) (fun U hU hW => sxc_W_to (sxc_T_w hE0 (i := 22) (by decide)) hS.2.1 (zp_F4 hD hS hA) hU hW)⟩ rfl rfl hl.1 rfl (lv_room (Nat.le_of_ble_eq_true rfl)) dX8_readLine_115 ⟨Nat.le_of_ble_eq_true rfl, Nat.le_of_ble_eq_true rfl⟩) hS (fun q _ h => zp_F4 hD hS hA q h) (zp_F4 hD hS hA) (fun r115 v115na0_13 t H1 locs ht hvm hw => zx_8 (fun v115na0_4 v115na0_5 v115na0_6 v115na0_7 v115na0_8 v115na0_9 v115na0_10 v115nfa0_12 => zy_6 (fun bv115na0_5 bv115na0_8 bv115na0_13 hraw115_0 hraw115_1 hraw115_2 hB hz1 hk1 hS1 => zo4 hB ht hP hD hk1 (zp_F4 hD hS hA) hS1 (fun hP hK1 hD hS => ?_))))
                generalize H1 = H at hP hS ⊢
                obtain ⟨hw, hfr115⟩ := hw
                rw [show (1 : Int32).toInt = 1 from by decide, show ((4 : Nat) : Int) = 4 from rfl] at hfr115 hraw115_2
                have hc115 : FfG_X8_begins 1 a0_3.toInt v82na0_4.toInt v82na0_5.toInt v82na0_6.toInt v82na0_7.toInt v82na0_8.toInt v82na0_9.toInt v82na0_10.toInt (fl_A v82nfa0_12) (fl_A fa0_16) (fl_A fa0_1) 4 (fl_A (sxc 22)) = (r115.toInt, v115na0_4.toInt, v115na0_5.toInt, v115na0_6.toInt, v115na0_7.toInt, v115na0_8.toInt, v115na0_9.toInt, v115na0_10.toInt, v115na0_13.toInt, (fl_A v115nfa0_12)) := Prod.ext hfr115.symm hraw115_2
                have hF0 := hF0.trans (fl_c10_eq hc115)
                rcases hw with hw | hw | hw
                · obtain ⟨hw, huh115⟩ := hw
                  subst hw
                  subst huh115
                  have hF0 := hF0.trans (if_pos (by decide))
                  refine lv_if_eq (tgt := 128) hx hb dX8_readLine_118 (by decide) (fun _ => ?_) (fun c118 => absurd (by decide +kernel) c118)
                  refine lv_aload_n hx hb dX8_readLine_128 rfl (lv_at hl 0 rfl) ?_
                  refine lv_iconst (v := 1) hx hb dX8_readLine_129 zk_iconst_1 ?_
                  refine lv_aload_n hx hb dX8_readLine_130 rfl (lv_at hl 0 rfl) ?_
                  refine va_get (D := (dC, dI)) (ci := 8) (v := .int v115na0_4) (C := RX8) (T := TX8) (N := 40) hx hb hts zi_X8_readLine_8 hown hK hP 0 rfl rfl 4 (by decide) (hts (.fieldLink RX8 78 "WaxTurnsModel" "at" "I") (zm_X8_readLine_r1 (List.mem_of_getElem? (i := 1) rfl))) (fun _ h9 => h9) rfl dX8_readLine_131 ?_
                  refine va_callv (va_runV (As := [.int 1, .int v115na0_4]) (rest := []) ⟨hx, hb, hml, hown, hts⟩ (fG_X8_wrong l dC dI H.size a0 1 v115na0_4 a0g_0 (Value.ref a0_1) a0g_2 (Value.int a0_3) (Value.int v115na0_4) (Value.int v115na0_5) (Value.int v115na0_6) (Value.int v115na0_7) (Value.int v115na0_8) a0g_11 (Value.ref a0_12) a0g_14 a0g_15 (Value.ref a0_16) a0g_17 a0g_18 a0g_19 a0g_20 a0g_21 a0g_22 a0g_23 a0g_24 a0g_25 a0g_26 a0g_27 a0g_28 a0g_29 a0g_30 a0g_31 a0g_32 a0g_33 a0g_34 a0g_35 a0g_36 a0g_37 a0g_38 a0g_39 v115na0_9 v115na0_10 ) (cwV 2 hts gX8_readLine_X8_wrong rfl rfl rfl zd_X8_wrong ⟨Nat.le_of_ble_eq_true rfl, Nat.le_of_ble_eq_true rfl⟩) ⟨ax_blind (fun _ _ _ _ _ => trivial), zr_8 (zp_K hK) (zp_P1 hP) (q0 := 0) rfl, ax_pre (zp_P1 hP) (zp_K hK) (zp_D1 hD) (fun _ _ => trivial)⟩ rfl rfl hl.1 rfl (lv_room (Nat.le_of_ble_eq_true rfl)) dX8_readLine_134 ⟨Nat.le_of_ble_eq_true rfl, Nat.le_of_ble_eq_true rfl⟩) hS (fun q _ h => zp_F1 hD hS hA q h) (zp_F1 hD hS hA) (fun u t H locs ht hvm hw => zx_2 (fun v134na0_9 v134na0_10 => zy_1 (fun hraw134_0 hB hz1 hk1 hS1 => zo1 hB ht hP hD hk1 (zp_F1 hD hS hA) hS1 (fun hP hK1 hD hS => ?_))))
                  rw [show (1 : Int32).toInt = 1 from by decide] at hraw134_0
                  have hc134 : FfG_X8_wrong 1 v115na0_4.toInt = (v134na0_9.toInt, v134na0_10.toInt) := hraw134_0
                  have hF0 := hF0.trans (fl_c2_eq hc134)
                  have hFe : FX = (v115na0_4.toInt, v115na0_5.toInt, v115na0_6.toInt, v115na0_7.toInt, v115na0_8.toInt, v134na0_9.toInt, v134na0_10.toInt, 1, (fl_A v115nfa0_12), (fl_A fa0_16)) := hF0
                  exact W.vret hx hb hr (fun t ht hW => ⟨⟨(), rfl, trivial, v115na0_4, v115na0_5, v115na0_6, v115na0_7, v115na0_8, v134na0_9, v134na0_10, 1, v115nfa0_12, fa0_16, ⟨bv115na0_5.1, bv115na0_5.2⟩, ⟨bv115na0_8.1, bv115na0_8.2⟩, ⟨Int.le_trans (by decide) zq1, zq0⟩, bfa0_16, (Or.inl rfl), (em_t hraw51_1 (em_t hraw82_1 hraw115_1)), hFe, by rw [ht]; exact hP, va_K.moved hW.alike hK, hD⟩, hS.F ht⟩) hS.2.2 dX8_readLine_137
                · obtain ⟨hw, huh115⟩ := hw
                  subst hw
                  subst huh115
                  have hF0 := hF0.trans (if_neg (by decide))
                  have hF0 := hF0.trans (if_pos (by decide))
                  refine lv_if_eq (tgt := 128) hx hb dX8_readLine_118 (by decide) (fun c118 => absurd c118 (by decide +kernel)) (fun _ => ?_)
                  refine lv_aload_n hx hb dX8_readLine_121 rfl (lv_at hl 0 rfl) ?_
                  refine va_callv (va_runV (As := []) (rest := []) ⟨hx, hb, hml, hown, hts⟩ (fF_X8_seenLine l dC dI H.size a0 a0g_0 (Value.ref a0_1) a0g_2 (Value.int a0_3) (Value.int v115na0_4) (Value.int v115na0_5) (Value.int v115na0_6) (Value.int v115na0_7) (Value.int v115na0_8) (Value.int v115na0_9) (Value.int v115na0_10) a0g_11 (Value.ref a0_12) a0g_14 a0g_15 (Value.ref a0_16) a0g_17 a0g_18 a0g_19 a0g_20 a0g_21 a0g_22 a0g_23 a0g_24 a0g_25 a0g_26 a0g_27 a0g_28 a0g_29 a0g_30 a0g_31 a0g_32 a0g_33 a0g_34 a0g_35 a0g_36 a0g_37 a0g_38 a0g_39 ) (cwV 0 hts gX8_readLine_X8_seenLine rfl rfl rfl zd_X8_seenLine ⟨Nat.le_of_ble_eq_true rfl, Nat.le_of_ble_eq_true rfl⟩) ⟨ax_blind (fun _ _ _ _ _ => trivial), zr_8 (zp_K hK) (zp_P1 hP) (q0 := 0) rfl, ax_pre (zp_P1 hP) (zp_K hK) (zp_D1 hD) (fun _ _ => trivial)⟩ rfl rfl hl.1 rfl (lv_room (Nat.le_of_ble_eq_true rfl)) dX8_readLine_122 ⟨Nat.le_of_ble_eq_true rfl, Nat.le_of_ble_eq_true rfl⟩) hS (fun q _ h => zp_F1 hD hS hA q h) (zp_F1 hD hS hA) (fun u t H locs ht hvm hw hB hz1 hk1 hS1 => zo1 hB ht hP hD hk1 (zp_F1 hD hS hA) hS1 (fun hP hK1 hD hS => ?_))
                  refine lv_goto (tgt := 137) hx hb dX8_readLine_125 (by decide) ?_
                  have hFe : FX = (v115na0_4.toInt, v115na0_5.toInt, v115na0_6.toInt, v115na0_7.toInt, v115na0_8.toInt, v115na0_9.toInt, v115na0_10.toInt, 1, (fl_A v115nfa0_12), (fl_A fa0_16)) := hF0
                  exact W.vret hx hb hr (fun t ht hW => ⟨⟨(), rfl, trivial, v115na0_4, v115na0_5, v115na0_6, v115na0_7, v115na0_8, v115na0_9, v115na0_10, 1, v115nfa0_12, fa0_16, ⟨bv115na0_5.1, bv115na0_5.2⟩, ⟨bv115na0_8.1, bv115na0_8.2⟩, ⟨Int.le_trans (by decide) zq1, zq0⟩, bfa0_16, (Or.inl rfl), (em_t hraw51_1 (em_t hraw82_1 hraw115_1)), hFe, by rw [ht]; exact hP, va_K.moved hW.alike hK, hD⟩, hS.F ht⟩) hS.2.2 dX8_readLine_137
                · obtain ⟨hw, huh115, h115⟩ := hw
                  subst hw
                  subst huh115
                  have hF0 := hF0.trans (if_neg (by decide))
                  have hF0 := hF0.trans (if_neg (by decide))
                  refine lv_if_eq (tgt := 128) hx hb dX8_readLine_118 (by decide) (fun c118 => absurd c118 (by decide +kernel)) (fun _ => ?_)
                  refine lv_aload_n hx hb dX8_readLine_121 rfl (lv_at hl 0 rfl) ?_
                  refine zc_cutc (wc := [(a0, .inr (8, [a0g_0, Value.ref a0_1, a0g_2, Value.int a0_3, Value.int v115na0_4, Value.int v115na0_5, Value.int v115na0_6, Value.int v115na0_7, Value.int v115na0_8, Value.int v115na0_9, Value.int v115na0_10, a0g_11, Value.ref a0_12, Value.int 0, a0g_14, a0g_15, Value.ref a0_16, a0g_17, a0g_18, a0g_19, a0g_20, a0g_21, a0g_22, a0g_23, a0g_24, a0g_25, a0g_26, a0g_27, a0g_28, a0g_29, a0g_30, a0g_31, a0g_32, a0g_33, a0g_34, a0g_35, a0g_36, a0g_37, a0g_38, a0g_39])), (a0_16, .inl (ka0_16, 156, .inl (fa0_16))), (a0_1, .inl (ka0_1, 900, .inl (fa0_1))), (a0_12, .inl (ka0_12, 8, .inl (v115nfa0_12)))]) hP hD hS hA [0, 2, 3, 1] (by decide +kernel) rfl (fun hPc hDc hFc hCc => ?_)
                  have hKc := hK.sub (tys' := [(ka0_16, .int), (ka0_1, .int), (ka0_12, .int)]) [1, 2, 0] rfl
                  refine va_callv (va_runV (As := []) (rest := []) ⟨hx, hb, hml, hown, hts⟩ (fG_X8_seenLine l dC dI H.size a0 a0g_0 a0g_2 a0g_11 a0g_14 a0g_15 a0g_17 a0g_18 a0g_19 a0g_20 a0g_21 a0g_22 a0g_23 a0g_24 a0g_25 a0g_26 a0g_27 a0g_28 a0g_29 a0g_30 a0g_31 a0g_32 a0g_33 a0g_34 a0g_35 a0g_36 a0g_37 a0g_38 a0g_39 a0_1 a0_3 v115na0_4 v115na0_5 v115na0_6 v115na0_7 v115na0_8 v115na0_9 v115na0_10 a0_12 a0_16 ka0_16 fa0_16 ka0_1 fa0_1 ka0_12 v115nfa0_12 ad ba0_3_l ba0_3_u bv115na0_5.1 bv115na0_5.2 bv115na0_8.1 bv115na0_8.2 bfa0_16 (by have h1 := u107f_x104; rw [ex104] at h1; exact h1)) (cwV 0 hts gX8_readLine_X8_seenLine rfl rfl rfl zd_X8_seenLine ⟨Nat.le_of_ble_eq_true rfl, Nat.le_of_ble_eq_true rfl⟩) ⟨ax_blind (fun _ _ _ _ hq => sxc_T_same _ _ _ _ (hq)), zr_8 hKc hPc (q0 := 0) rfl, ax_preE hPc hKc hDc (fun U hU hW => sxc_T_to hE0 hS.2.1 hFc hU hW)⟩ rfl rfl hl.1 rfl (lv_room (Nat.le_of_ble_eq_true rfl)) dX8_readLine_122 ⟨Nat.le_of_ble_eq_true rfl, Nat.le_of_ble_eq_true rfl⟩) hS (fun q _ h => hFc q h) hFc (fun u t H locs ht hvm hw => zx_10 (fun v122na0_4 v122na0_5 v122na0_6 v122na0_7 v122na0_8 v122na0_9 v122na0_10 v122na0_13 v122nfa0_16 v122nfa0_12 => zy_7 (fun bv122na0_5 bv122na0_8 bv122na0_13 bv122nfa0_16 hraw122_0 hraw122_1 hraw122_2 hB hz1 hk1 hS1 => zo hB ht hS1 (fun hP1 hK1 hD1 hS => ?_))))
                  refine zc_backc (w := [(a0, .inr (8, [a0g_0, Value.ref a0_1, a0g_2, Value.int a0_3, Value.int v122na0_4, Value.int v122na0_5, Value.int v122na0_6, Value.int v122na0_7, Value.int v122na0_8, Value.int v122na0_9, Value.int v122na0_10, a0g_11, Value.ref a0_12, Value.int v122na0_13, a0g_14, a0g_15, Value.ref a0_16, a0g_17, a0g_18, a0g_19, a0g_20, a0g_21, a0g_22, a0g_23, a0g_24, a0g_25, a0g_26, a0g_27, a0g_28, a0g_29, a0g_30, a0g_31, a0g_32, a0g_33, a0g_34, a0g_35, a0g_36, a0g_37, a0g_38, a0g_39])), (a0_12, .inl (ka0_12, 8, .inl (v122nfa0_12))), (a0_16, .inl (ka0_16, 156, .inl (v122nfa0_16))), (a0_1, .inl (ka0_1, 900, .inl (fa0_1)))]) hP hD hCc hk1 hFc hP1 hD1 [.inr 0, .inr 3, .inr 1, .inr 2] (by decide +kernel) rfl (fun hP hD => ?_)
                  have hc122 : FfG_X8_seenLine a0_3.toInt v115na0_4.toInt v115na0_5.toInt v115na0_6.toInt v115na0_7.toInt v115na0_8.toInt v115na0_9.toInt v115na0_10.toInt (fl_A fa0_16) (fl_A fa0_1) (fl_A v115nfa0_12) = (v122na0_4.toInt, v122na0_5.toInt, v122na0_6.toInt, v122na0_7.toInt, v122na0_8.toInt, v122na0_9.toInt, v122na0_10.toInt, v122na0_13.toInt, (fl_A v122nfa0_16), (fl_A v122nfa0_12)) := hraw122_2
                  have hF0 := hF0.trans (fl_c10_eq hc122)
                  rcases hraw122_0 with hf122 | hf122
                  · subst hf122
                    have hF0 := hF0.trans (if_pos (by decide))
                    refine lv_goto (tgt := 137) hx hb dX8_readLine_125 (by decide) ?_
                    have hFe : FX = (v122na0_4.toInt, v122na0_5.toInt, v122na0_6.toInt, v122na0_7.toInt, v122na0_8.toInt, v122na0_9.toInt, v122na0_10.toInt, 1, (fl_A v122nfa0_12), (fl_A v122nfa0_16)) := hF0
                    exact W.vret hx hb hr (fun t ht hW => ⟨⟨(), rfl, trivial, v122na0_4, v122na0_5, v122na0_6, v122na0_7, v122na0_8, v122na0_9, v122na0_10, 1, v122nfa0_12, v122nfa0_16, ⟨bv122na0_5.1, bv122na0_5.2⟩, ⟨bv122na0_8.1, bv122na0_8.2⟩, ⟨Int.le_trans (by decide) zq1, zq0⟩, bv122nfa0_16, (Or.inl rfl), (em_t hraw51_1 (em_t hraw82_1 (em_t hraw115_1 hraw122_1))), hFe, by rw [ht]; exact hP, va_K.moved hW.alike hK, hD⟩, hS.F ht⟩) hS.2.2 dX8_readLine_137
                  · subst hf122
                    have hF0 := hF0.trans (if_neg (by decide))
                    refine lv_goto (tgt := 137) hx hb dX8_readLine_125 (by decide) ?_
                    have hFe : FX = (v122na0_4.toInt, v122na0_5.toInt, v122na0_6.toInt, v122na0_7.toInt, v122na0_8.toInt, v122na0_9.toInt, v122na0_10.toInt, 0, (fl_A v122nfa0_12), (fl_A v122nfa0_16)) := hF0
                    exact W.vret hx hb hr (fun t ht hW => ⟨⟨(), rfl, trivial, v122na0_4, v122na0_5, v122na0_6, v122na0_7, v122na0_8, v122na0_9, v122na0_10, 0, v122nfa0_12, v122nfa0_16, ⟨bv122na0_5.1, bv122na0_5.2⟩, ⟨bv122na0_8.1, bv122na0_8.2⟩, ⟨zq5, Int.le_trans zq6 (by decide)⟩, bv122nfa0_16, (Or.inr rfl), (em_t hraw51_1 (em_t hraw82_1 (em_t hraw115_1 hraw122_1))), hFe, by rw [ht]; exact hP, va_K.moved hW.alike hK, hD⟩, hS.F ht⟩) hS.2.2 dX8_readLine_137
            · obtain ⟨hw, huh82⟩ := hw
              subst hw
              subst huh82
              have hF0 := hF0.trans (if_neg (by decide))
              have hF0 := hF0.trans (if_pos (by decide))
              refine lv_if_eq (tgt := 95) hx hb dX8_readLine_85 (by decide) (fun c85 => absurd c85 (by decide +kernel)) (fun _ => ?_)
              refine lv_aload_n hx hb dX8_readLine_88 rfl (lv_at hl 0 rfl) ?_
              refine va_callv (va_runV (As := []) (rest := []) ⟨hx, hb, hml, hown, hts⟩ (fF_X8_watcherLine l dC dI H.size a0 a0g_0 (Value.ref a0_1) a0g_2 (Value.int a0_3) (Value.int v82na0_4) (Value.int v82na0_5) (Value.int v82na0_6) (Value.int v82na0_7) (Value.int v82na0_8) (Value.int v82na0_9) (Value.int v82na0_10) a0g_11 (Value.ref a0_12) a0g_14 a0g_15 (Value.ref a0_16) a0g_17 a0g_18 a0g_19 a0g_20 a0g_21 a0g_22 a0g_23 a0g_24 a0g_25 a0g_26 a0g_27 a0g_28 a0g_29 a0g_30 a0g_31 a0g_32 a0g_33 a0g_34 a0g_35 a0g_36 a0g_37 a0g_38 a0g_39 ) (cwV 0 hts gX8_readLine_X8_watcherLine rfl rfl rfl zd_X8_watcherLine ⟨Nat.le_of_ble_eq_true rfl, Nat.le_of_ble_eq_true rfl⟩) ⟨ax_blind (fun _ _ _ _ _ => trivial), zr_8 (zp_K hK) (zp_P1 hP) (q0 := 0) rfl, ax_pre (zp_P1 hP) (zp_K hK) (zp_D1 hD) (fun _ _ => trivial)⟩ rfl rfl hl.1 rfl (lv_room (Nat.le_of_ble_eq_true rfl)) dX8_readLine_89 ⟨Nat.le_of_ble_eq_true rfl, Nat.le_of_ble_eq_true rfl⟩) hS (fun q _ h => zp_F1 hD hS hA q h) (zp_F1 hD hS hA) (fun u t H locs ht hvm hw hB hz1 hk1 hS1 => zo1 hB ht hP hD hk1 (zp_F1 hD hS hA) hS1 (fun hP hK1 hD hS => ?_))
              refine lv_goto (tgt := 137) hx hb dX8_readLine_92 (by decide) ?_
              have hFe : FX = (v82na0_4.toInt, v82na0_5.toInt, v82na0_6.toInt, v82na0_7.toInt, v82na0_8.toInt, v82na0_9.toInt, v82na0_10.toInt, 1, (fl_A v82nfa0_12), (fl_A fa0_16)) := hF0
              exact W.vret hx hb hr (fun t ht hW => ⟨⟨(), rfl, trivial, v82na0_4, v82na0_5, v82na0_6, v82na0_7, v82na0_8, v82na0_9, v82na0_10, 1, v82nfa0_12, fa0_16, ⟨bv82na0_5.1, bv82na0_5.2⟩, ⟨bv82na0_8.1, bv82na0_8.2⟩, ⟨Int.le_trans (by decide) zq1, zq0⟩, bfa0_16, (Or.inl rfl), (em_t hraw51_1 hraw82_1), hFe, by rw [ht]; exact hP, va_K.moved hW.alike hK, hD⟩, hS.F ht⟩) hS.2.2 dX8_readLine_137
            · obtain ⟨hw, huh82, h82⟩ := hw
              subst hw
              subst huh82
              exact absurd h82.1 (by decide)
          · have gc74 := ai_nle c74
            have u74f_x72 : x72.toInt ≤ (2 : Int) := ai_lthi gc74 zq9
            have hF0 := hF0.trans (if_neg (show ¬ (3 ≤ x72.toInt) from Int.not_le.mpr gc74))
            refine lv_iconst (v := 1) hx hb dX8_readLine_77 zk_iconst_1 ?_
            refine lv_goto (tgt := 82) hx hb dX8_readLine_78 (by decide) ?_
            have hKc := hK.sub (tys' := [(ka0_12, .int), (ka0_16, .int), (ka0_1, .int)]) [0, 1, 2] rfl
            refine va_calli (va_runV (As := [.ref (ad 21), .int 1]) (rest := []) ⟨hx, hb, hml, hown, hts⟩ (fG_X8_begins l dC dI H.size a0 (ad 21) 1 a0g_0 a0g_2 a0g_11 a0g_14 a0g_15 a0g_17 a0g_18 a0g_19 a0g_20 a0g_21 a0g_22 a0g_23 a0g_24 a0g_25 a0g_26 a0g_27 a0g_28 a0g_29 a0g_30 a0g_31 a0g_32 a0g_33 a0g_34 a0g_35 a0g_36 a0g_37 a0g_38 a0g_39 a0_1 a0_3 v51na0_4 v51na0_5 v51na0_6 v51na0_7 v51na0_8 v51na0_9 v51na0_10 a0_12 a0_16 ka0_12 v51nfa0_12 ka0_16 fa0_16 ka0_1 fa0_1 7 (sxc 21) (Int.le_trans zq4 zq1) zq0 ba0_3_l ba0_3_u bv51na0_5.1 bv51na0_5.2 bv51na0_8.1 bv51na0_8.2 bfa0_16 hraw51_0) (cwV 2 hts gX8_readLine_X8_begins rfl rfl rfl zd_X8_begins ⟨Nat.le_of_ble_eq_true rfl, Nat.le_of_ble_eq_true rfl⟩) ⟨ax_blind (fun _ _ _ _ hq => sxc_W_same _ _ _ _ (hq)), zr_8 hKc (zp_P4 hP) (q0 := 0) rfl, ax_preE (zp_P4 hP) hKc (zp_D4 hD) (fun U hU hW => sxc_W_to (sxc_T_w hE0 (i := 21) (by decide)) hS.2.1 (zp_F4 hD hS hA) hU hW)⟩ rfl rfl hl.1 rfl (lv_room (Nat.le_of_ble_eq_true rfl)) dX8_readLine_82 ⟨Nat.le_of_ble_eq_true rfl, Nat.le_of_ble_eq_true rfl⟩) hS (fun q _ h => zp_F4 hD hS hA q h) (zp_F4 hD hS hA) (fun r82 v82na0_13 t H1 locs ht hvm hw => zx_8 (fun v82na0_4 v82na0_5 v82na0_6 v82na0_7 v82na0_8 v82na0_9 v82na0_10 v82nfa0_12 => zy_6 (fun bv82na0_5 bv82na0_8 bv82na0_13 hraw82_0 hraw82_1 hraw82_2 hB hz1 hk1 hS1 => zo4 hB ht hP hD hk1 (zp_F4 hD hS hA) hS1 (fun hP hK1 hD hS => ?_))))
            generalize H1 = H at hP hS ⊢
            obtain ⟨hw, hfr82⟩ := hw
            rw [show (1 : Int32).toInt = 1 from by decide, show ((7 : Nat) : Int) = 7 from rfl] at hfr82 hraw82_2
            have hc82 : FfG_X8_begins 1 a0_3.toInt v51na0_4.toInt v51na0_5.toInt v51na0_6.toInt v51na0_7.toInt v51na0_8.toInt v51na0_9.toInt v51na0_10.toInt (fl_A v51nfa0_12) (fl_A fa0_16) (fl_A fa0_1) 7 (fl_A (sxc 21)) = (r82.toInt, v82na0_4.toInt, v82na0_5.toInt, v82na0_6.toInt, v82na0_7.toInt, v82na0_8.toInt, v82na0_9.toInt, v82na0_10.toInt, v82na0_13.toInt, (fl_A v82nfa0_12)) := Prod.ext hfr82.symm hraw82_2
            have hF0 := hF0.trans (fl_c10_eq hc82)
            rcases hw with hw | hw | hw
            · obtain ⟨hw, huh82⟩ := hw
              subst hw
              subst huh82
              have hF0 := hF0.trans (if_pos (by decide))
              refine lv_if_eq (tgt := 95) hx hb dX8_readLine_85 (by decide) (fun _ => ?_) (fun c85 => absurd (by decide +kernel) c85)
              refine lv_aload_n hx hb dX8_readLine_95 rfl (lv_at hl 0 rfl) ?_
              refine va_ldcS hx hb hown (sxc_R22 hE0) dX8_readLine_96 ?_
              refine lv_aload_n hx hb dX8_readLine_98 rfl (lv_at hl 0 rfl) ?_
              refine va_get (D := (dC, dI)) (ci := 8) (v := .ref a0_16) (C := RX8) (T := TX8) (N := 40) hx hb hts zi_X8_readLine_8 hown hK hP 0 rfl rfl 16 (by decide) (hts (.fieldLink RX8 23 "WaxTurnsModel" "fresh" "[I") (zm_X8_readLine_r1 (List.mem_of_getElem? (i := 0) rfl))) (fun _ h9 => h9) rfl dX8_readLine_99 ?_
              refine lv_bipush (v := 6) hx hb dX8_readLine_102 zk_bipush_6 ?_
              refine va_iald hx hb hK hP 2 1 rfl rfl (by unfold vp_in; decide +kernel) dX8_readLine_104 ?_
              refine lv_topi (fun x104 ex104 => ?_)
              have bx104 : (0 : Int) ≤ x104.toInt ∧ x104.toInt ≤ 6 := by rw [ex104]; exact ai_rd bfa0_16.2.2.2.2.2.2.1 zq15 zq16 (by decide) (by decide) (by decide)
              have fqx104 := congrArg Int32.toInt ex104
              have hF0 := hF0.trans (fl_lt_eq (show x104.toInt = (fl_A fa0_16) (6) from fqx104))
              refine lv_bipush (v := 6) hx hb dX8_readLine_105 zk_bipush_6 ?_
              refine lv_icmp_ge (tgt := 114) hx hb dX8_readLine_107 (by decide) (fun c107 => ?_) (fun c107 => ?_)
              · have gc107 := ai_le c107
                have l107t_x104 : (6 : Int) ≤ x104.toInt := Int.le_trans zq15 gc107
                have hF0 := hF0.trans (if_pos (show 6 ≤ x104.toInt from gc107))
                refine lv_iconst (v := 0) hx hb dX8_readLine_114 zk_iconst_0 ?_
                have hKc := hK.sub (tys' := [(ka0_12, .int), (ka0_16, .int), (ka0_1, .int)]) [0, 1, 2] rfl
                refine va_calli (va_runV (As := [.ref (ad 22), .int 0]) (rest := []) ⟨hx, hb, hml, hown, hts⟩ (fG_X8_begins l dC dI H.size a0 (ad 22) 0 a0g_0 a0g_2 a0g_11 a0g_14 a0g_15 a0g_17 a0g_18 a0g_19 a0g_20 a0g_21 a0g_22 a0g_23 a0g_24 a0g_25 a0g_26 a0g_27 a0g_28 a0g_29 a0g_30 a0g_31 a0g_32 a0g_33 a0g_34 a0g_35 a0g_36 a0g_37 a0g_38 a0g_39 a0_1 a0_3 v82na0_4 v82na0_5 v82na0_6 v82na0_7 v82na0_8 v82na0_9 v82na0_10 a0_12 a0_16 ka0_12 v82nfa0_12 ka0_16 fa0_16 ka0_1 fa0_1 4 (sxc 22) zq5 (Int.le_trans zq6 zq4) ba0_3_l ba0_3_u bv82na0_5.1 bv82na0_5.2 bv82na0_8.1 bv82na0_8.2 bfa0_16 hraw82_0) (cwV 2 hts gX8_readLine_X8_begins rfl rfl rfl zd_X8_begins ⟨Nat.le_of_ble_eq_true rfl, Nat.le_of_ble_eq_true rfl⟩) ⟨ax_blind (fun _ _ _ _ hq => sxc_W_same _ _ _ _ (hq)), zr_8 hKc (zp_P4 hP) (q0 := 0) rfl, ax_preE (zp_P4 hP) hKc (zp_D4 hD) (fun U hU hW => sxc_W_to (sxc_T_w hE0 (i := 22) (by decide)) hS.2.1 (zp_F4 hD hS hA) hU hW)⟩ rfl rfl hl.1 rfl (lv_room (Nat.le_of_ble_eq_true rfl)) dX8_readLine_115 ⟨Nat.le_of_ble_eq_true rfl, Nat.le_of_ble_eq_true rfl⟩) hS (fun q _ h => zp_F4 hD hS hA q h) (zp_F4 hD hS hA) (fun r115 v115na0_13 t H1 locs ht hvm hw => zx_8 (fun v115na0_4 v115na0_5 v115na0_6 v115na0_7 v115na0_8 v115na0_9 v115na0_10 v115nfa0_12 => zy_6 (fun bv115na0_5 bv115na0_8 bv115na0_13 hraw115_0 hraw115_1 hraw115_2 hB hz1 hk1 hS1 => zo4 hB ht hP hD hk1 (zp_F4 hD hS hA) hS1 (fun hP hK1 hD hS => ?_))))
                generalize H1 = H at hP hS ⊢
                obtain ⟨hw, hfr115⟩ := hw
                rw [show (0 : Int32).toInt = 0 from by decide, show ((4 : Nat) : Int) = 4 from rfl] at hfr115 hraw115_2
                have hc115 : FfG_X8_begins 0 a0_3.toInt v82na0_4.toInt v82na0_5.toInt v82na0_6.toInt v82na0_7.toInt v82na0_8.toInt v82na0_9.toInt v82na0_10.toInt (fl_A v82nfa0_12) (fl_A fa0_16) (fl_A fa0_1) 4 (fl_A (sxc 22)) = (r115.toInt, v115na0_4.toInt, v115na0_5.toInt, v115na0_6.toInt, v115na0_7.toInt, v115na0_8.toInt, v115na0_9.toInt, v115na0_10.toInt, v115na0_13.toInt, (fl_A v115nfa0_12)) := Prod.ext hfr115.symm hraw115_2
                have hF0 := hF0.trans (fl_c10_eq hc115)
                rcases hw with hw | hw | hw
                · obtain ⟨hw, huh115⟩ := hw
                  subst hw
                  subst huh115
                  have hF0 := hF0.trans (if_pos (by decide))
                  refine lv_if_eq (tgt := 128) hx hb dX8_readLine_118 (by decide) (fun _ => ?_) (fun c118 => absurd (by decide +kernel) c118)
                  refine lv_aload_n hx hb dX8_readLine_128 rfl (lv_at hl 0 rfl) ?_
                  refine lv_iconst (v := 1) hx hb dX8_readLine_129 zk_iconst_1 ?_
                  refine lv_aload_n hx hb dX8_readLine_130 rfl (lv_at hl 0 rfl) ?_
                  refine va_get (D := (dC, dI)) (ci := 8) (v := .int v115na0_4) (C := RX8) (T := TX8) (N := 40) hx hb hts zi_X8_readLine_8 hown hK hP 0 rfl rfl 4 (by decide) (hts (.fieldLink RX8 78 "WaxTurnsModel" "at" "I") (zm_X8_readLine_r1 (List.mem_of_getElem? (i := 1) rfl))) (fun _ h9 => h9) rfl dX8_readLine_131 ?_
                  refine va_callv (va_runV (As := [.int 1, .int v115na0_4]) (rest := []) ⟨hx, hb, hml, hown, hts⟩ (fG_X8_wrong l dC dI H.size a0 1 v115na0_4 a0g_0 (Value.ref a0_1) a0g_2 (Value.int a0_3) (Value.int v115na0_4) (Value.int v115na0_5) (Value.int v115na0_6) (Value.int v115na0_7) (Value.int v115na0_8) a0g_11 (Value.ref a0_12) a0g_14 a0g_15 (Value.ref a0_16) a0g_17 a0g_18 a0g_19 a0g_20 a0g_21 a0g_22 a0g_23 a0g_24 a0g_25 a0g_26 a0g_27 a0g_28 a0g_29 a0g_30 a0g_31 a0g_32 a0g_33 a0g_34 a0g_35 a0g_36 a0g_37 a0g_38 a0g_39 v115na0_9 v115na0_10 ) (cwV 2 hts gX8_readLine_X8_wrong rfl rfl rfl zd_X8_wrong ⟨Nat.le_of_ble_eq_true rfl, Nat.le_of_ble_eq_true rfl⟩) ⟨ax_blind (fun _ _ _ _ _ => trivial), zr_8 (zp_K hK) (zp_P1 hP) (q0 := 0) rfl, ax_pre (zp_P1 hP) (zp_K hK) (zp_D1 hD) (fun _ _ => trivial)⟩ rfl rfl hl.1 rfl (lv_room (Nat.le_of_ble_eq_true rfl)) dX8_readLine_134 ⟨Nat.le_of_ble_eq_true rfl, Nat.le_of_ble_eq_true rfl⟩) hS (fun q _ h => zp_F1 hD hS hA q h) (zp_F1 hD hS hA) (fun u t H locs ht hvm hw => zx_2 (fun v134na0_9 v134na0_10 => zy_1 (fun hraw134_0 hB hz1 hk1 hS1 => zo1 hB ht hP hD hk1 (zp_F1 hD hS hA) hS1 (fun hP hK1 hD hS => ?_))))
                  rw [show (1 : Int32).toInt = 1 from by decide] at hraw134_0
                  have hc134 : FfG_X8_wrong 1 v115na0_4.toInt = (v134na0_9.toInt, v134na0_10.toInt) := hraw134_0
                  have hF0 := hF0.trans (fl_c2_eq hc134)
                  have hFe : FX = (v115na0_4.toInt, v115na0_5.toInt, v115na0_6.toInt, v115na0_7.toInt, v115na0_8.toInt, v134na0_9.toInt, v134na0_10.toInt, 1, (fl_A v115nfa0_12), (fl_A fa0_16)) := hF0
                  exact W.vret hx hb hr (fun t ht hW => ⟨⟨(), rfl, trivial, v115na0_4, v115na0_5, v115na0_6, v115na0_7, v115na0_8, v134na0_9, v134na0_10, 1, v115nfa0_12, fa0_16, ⟨bv115na0_5.1, bv115na0_5.2⟩, ⟨bv115na0_8.1, bv115na0_8.2⟩, ⟨Int.le_trans (by decide) zq1, zq0⟩, bfa0_16, (Or.inl rfl), (em_t hraw51_1 (em_t hraw82_1 hraw115_1)), hFe, by rw [ht]; exact hP, va_K.moved hW.alike hK, hD⟩, hS.F ht⟩) hS.2.2 dX8_readLine_137
                · obtain ⟨hw, huh115⟩ := hw
                  subst hw
                  subst huh115
                  have hF0 := hF0.trans (if_neg (by decide))
                  have hF0 := hF0.trans (if_pos (by decide))
                  refine lv_if_eq (tgt := 128) hx hb dX8_readLine_118 (by decide) (fun c118 => absurd c118 (by decide +kernel)) (fun _ => ?_)
                  refine lv_aload_n hx hb dX8_readLine_121 rfl (lv_at hl 0 rfl) ?_
                  refine va_callv (va_runV (As := []) (rest := []) ⟨hx, hb, hml, hown, hts⟩ (fF_X8_seenLine l dC dI H.size a0 a0g_0 (Value.ref a0_1) a0g_2 (Value.int a0_3) (Value.int v115na0_4) (Value.int v115na0_5) (Value.int v115na0_6) (Value.int v115na0_7) (Value.int v115na0_8) (Value.int v115na0_9) (Value.int v115na0_10) a0g_11 (Value.ref a0_12) a0g_14 a0g_15 (Value.ref a0_16) a0g_17 a0g_18 a0g_19 a0g_20 a0g_21 a0g_22 a0g_23 a0g_24 a0g_25 a0g_26 a0g_27 a0g_28 a0g_29 a0g_30 a0g_31 a0g_32 a0g_33 a0g_34 a0g_35 a0g_36 a0g_37 a0g_38 a0g_39 ) (cwV 0 hts gX8_readLine_X8_seenLine rfl rfl rfl zd_X8_seenLine ⟨Nat.le_of_ble_eq_true rfl, Nat.le_of_ble_eq_true rfl⟩) ⟨ax_blind (fun _ _ _ _ _ => trivial), zr_8 (zp_K hK) (zp_P1 hP) (q0 := 0) rfl, ax_pre (zp_P1 hP) (zp_K hK) (zp_D1 hD) (fun _ _ => trivial)⟩ rfl rfl hl.1 rfl (lv_room (Nat.le_of_ble_eq_true rfl)) dX8_readLine_122 ⟨Nat.le_of_ble_eq_true rfl, Nat.le_of_ble_eq_true rfl⟩) hS (fun q _ h => zp_F1 hD hS hA q h) (zp_F1 hD hS hA) (fun u t H locs ht hvm hw hB hz1 hk1 hS1 => zo1 hB ht hP hD hk1 (zp_F1 hD hS hA) hS1 (fun hP hK1 hD hS => ?_))
                  refine lv_goto (tgt := 137) hx hb dX8_readLine_125 (by decide) ?_
                  have hFe : FX = (v115na0_4.toInt, v115na0_5.toInt, v115na0_6.toInt, v115na0_7.toInt, v115na0_8.toInt, v115na0_9.toInt, v115na0_10.toInt, 1, (fl_A v115nfa0_12), (fl_A fa0_16)) := hF0
                  exact W.vret hx hb hr (fun t ht hW => ⟨⟨(), rfl, trivial, v115na0_4, v115na0_5, v115na0_6, v115na0_7, v115na0_8, v115na0_9, v115na0_10, 1, v115nfa0_12, fa0_16, ⟨bv115na0_5.1, bv115na0_5.2⟩, ⟨bv115na0_8.1, bv115na0_8.2⟩, ⟨Int.le_trans (by decide) zq1, zq0⟩, bfa0_16, (Or.inl rfl), (em_t hraw51_1 (em_t hraw82_1 hraw115_1)), hFe, by rw [ht]; exact hP, va_K.moved hW.alike hK, hD⟩, hS.F ht⟩) hS.2.2 dX8_readLine_137
                · obtain ⟨hw, huh115, h115⟩ := hw
                  subst hw
                  subst huh115
                  exact absurd h115.1 (by decide)
              · have gc107 := ai_nle c107
                have u107f_x104 : x104.toInt ≤ (5 : Int) := ai_lthi gc107 zq16
                have hF0 := hF0.trans (if_neg (show ¬ (6 ≤ x104.toInt) from Int.not_le.mpr gc107))
                refine lv_iconst (v := 1) hx hb dX8_readLine_110 zk_iconst_1 ?_
                refine lv_goto (tgt := 115) hx hb dX8_readLine_111 (by decide) ?_
                have hKc := hK.sub (tys' := [(ka0_12, .int), (ka0_16, .int), (ka0_1, .int)]) [0, 1, 2] rfl
                refine va_calli (va_runV (As := [.ref (ad 22), .int 1]) (rest := []) ⟨hx, hb, hml, hown, hts⟩ (fG_X8_begins l dC dI H.size a0 (ad 22) 1 a0g_0 a0g_2 a0g_11 a0g_14 a0g_15 a0g_17 a0g_18 a0g_19 a0g_20 a0g_21 a0g_22 a0g_23 a0g_24 a0g_25 a0g_26 a0g_27 a0g_28 a0g_29 a0g_30 a0g_31 a0g_32 a0g_33 a0g_34 a0g_35 a0g_36 a0g_37 a0g_38 a0g_39 a0_1 a0_3 v82na0_4 v82na0_5 v82na0_6 v82na0_7 v82na0_8 v82na0_9 v82na0_10 a0_12 a0_16 ka0_12 v82nfa0_12 ka0_16 fa0_16 ka0_1 fa0_1 4 (sxc 22) (Int.le_trans zq4 zq1) zq0 ba0_3_l ba0_3_u bv82na0_5.1 bv82na0_5.2 bv82na0_8.1 bv82na0_8.2 bfa0_16 hraw82_0) (cwV 2 hts gX8_readLine_X8_begins rfl rfl rfl zd_X8_begins ⟨Nat.le_of_ble_eq_true rfl, Nat.le_of_ble_eq_true rfl⟩) ⟨ax_blind (fun _ _ _ _ hq => sxc_W_same _ _ _ _ (hq)), zr_8 hKc (zp_P4 hP) (q0 := 0) rfl, ax_preE (zp_P4 hP) hKc (zp_D4 hD) (fun U hU hW => sxc_W_to (sxc_T_w hE0 (i := 22) (by decide)) hS.2.1 (zp_F4 hD hS hA) hU hW)⟩ rfl rfl hl.1 rfl (lv_room (Nat.le_of_ble_eq_true rfl)) dX8_readLine_115 ⟨Nat.le_of_ble_eq_true rfl, Nat.le_of_ble_eq_true rfl⟩) hS (fun q _ h => zp_F4 hD hS hA q h) (zp_F4 hD hS hA) (fun r115 v115na0_13 t H1 locs ht hvm hw => zx_8 (fun v115na0_4 v115na0_5 v115na0_6 v115na0_7 v115na0_8 v115na0_9 v115na0_10 v115nfa0_12 => zy_6 (fun bv115na0_5 bv115na0_8 bv115na0_13 hraw115_0 hraw115_1 hraw115_2 hB hz1 hk1 hS1 => zo4 hB ht hP hD hk1 (zp_F4 hD hS hA) hS1 (fun hP hK1 hD hS => ?_))))
                generalize H1 = H at hP hS ⊢
                obtain ⟨hw, hfr115⟩ := hw
                rw [show (1 : Int32).toInt = 1 from by decide, show ((4 : Nat) : Int) = 4 from rfl] at hfr115 hraw115_2
                have hc115 : FfG_X8_begins 1 a0_3.toInt v82na0_4.toInt v82na0_5.toInt v82na0_6.toInt v82na0_7.toInt v82na0_8.toInt v82na0_9.toInt v82na0_10.toInt (fl_A v82nfa0_12) (fl_A fa0_16) (fl_A fa0_1) 4 (fl_A (sxc 22)) = (r115.toInt, v115na0_4.toInt, v115na0_5.toInt, v115na0_6.toInt, v115na0_7.toInt, v115na0_8.toInt, v115na0_9.toInt, v115na0_10.toInt, v115na0_13.toInt, (fl_A v115nfa0_12)) := Prod.ext hfr115.symm hraw115_2
                have hF0 := hF0.trans (fl_c10_eq hc115)
                rcases hw with hw | hw | hw
                · obtain ⟨hw, huh115⟩ := hw
                  subst hw
                  subst huh115
                  have hF0 := hF0.trans (if_pos (by decide))
                  refine lv_if_eq (tgt := 128) hx hb dX8_readLine_118 (by decide) (fun _ => ?_) (fun c118 => absurd (by decide +kernel) c118)
                  refine lv_aload_n hx hb dX8_readLine_128 rfl (lv_at hl 0 rfl) ?_
                  refine lv_iconst (v := 1) hx hb dX8_readLine_129 zk_iconst_1 ?_
                  refine lv_aload_n hx hb dX8_readLine_130 rfl (lv_at hl 0 rfl) ?_
                  refine va_get (D := (dC, dI)) (ci := 8) (v := .int v115na0_4) (C := RX8) (T := TX8) (N := 40) hx hb hts zi_X8_readLine_8 hown hK hP 0 rfl rfl 4 (by decide) (hts (.fieldLink RX8 78 "WaxTurnsModel" "at" "I") (zm_X8_readLine_r1 (List.mem_of_getElem? (i := 1) rfl))) (fun _ h9 => h9) rfl dX8_readLine_131 ?_
                  refine va_callv (va_runV (As := [.int 1, .int v115na0_4]) (rest := []) ⟨hx, hb, hml, hown, hts⟩ (fG_X8_wrong l dC dI H.size a0 1 v115na0_4 a0g_0 (Value.ref a0_1) a0g_2 (Value.int a0_3) (Value.int v115na0_4) (Value.int v115na0_5) (Value.int v115na0_6) (Value.int v115na0_7) (Value.int v115na0_8) a0g_11 (Value.ref a0_12) a0g_14 a0g_15 (Value.ref a0_16) a0g_17 a0g_18 a0g_19 a0g_20 a0g_21 a0g_22 a0g_23 a0g_24 a0g_25 a0g_26 a0g_27 a0g_28 a0g_29 a0g_30 a0g_31 a0g_32 a0g_33 a0g_34 a0g_35 a0g_36 a0g_37 a0g_38 a0g_39 v115na0_9 v115na0_10 ) (cwV 2 hts gX8_readLine_X8_wrong rfl rfl rfl zd_X8_wrong ⟨Nat.le_of_ble_eq_true rfl, Nat.le_of_ble_eq_true rfl⟩) ⟨ax_blind (fun _ _ _ _ _ => trivial), zr_8 (zp_K hK) (zp_P1 hP) (q0 := 0) rfl, ax_pre (zp_P1 hP) (zp_K hK) (zp_D1 hD) (fun _ _ => trivial)⟩ rfl rfl hl.1 rfl (lv_room (Nat.le_of_ble_eq_true rfl)) dX8_readLine_134 ⟨Nat.le_of_ble_eq_true rfl, Nat.le_of_ble_eq_true rfl⟩) hS (fun q _ h => zp_F1 hD hS hA q h) (zp_F1 hD hS hA) (fun u t H locs ht hvm hw => zx_2 (fun v134na0_9 v134na0_10 => zy_1 (fun hraw134_0 hB hz1 hk1 hS1 => zo1 hB ht hP hD hk1 (zp_F1 hD hS hA) hS1 (fun hP hK1 hD hS => ?_))))
                  rw [show (1 : Int32).toInt = 1 from by decide] at hraw134_0
                  have hc134 : FfG_X8_wrong 1 v115na0_4.toInt = (v134na0_9.toInt, v134na0_10.toInt) := hraw134_0
                  have hF0 := hF0.trans (fl_c2_eq hc134)
                  have hFe : FX = (v115na0_4.toInt, v115na0_5.toInt, v115na0_6.toInt, v115na0_7.toInt, v115na0_8.toInt, v134na0_9.toInt, v134na0_10.toInt, 1, (fl_A v115nfa0_12), (fl_A fa0_16)) := hF0
                  exact W.vret hx hb hr (fun t ht hW => ⟨⟨(), rfl, trivial, v115na0_4, v115na0_5, v115na0_6, v115na0_7, v115na0_8, v134na0_9, v134na0_10, 1, v115nfa0_12, fa0_16, ⟨bv115na0_5.1, bv115na0_5.2⟩, ⟨bv115na0_8.1, bv115na0_8.2⟩, ⟨Int.le_trans (by decide) zq1, zq0⟩, bfa0_16, (Or.inl rfl), (em_t hraw51_1 (em_t hraw82_1 hraw115_1)), hFe, by rw [ht]; exact hP, va_K.moved hW.alike hK, hD⟩, hS.F ht⟩) hS.2.2 dX8_readLine_137
                · obtain ⟨hw, huh115⟩ := hw
                  subst hw
                  subst huh115
                  have hF0 := hF0.trans (if_neg (by decide))
                  have hF0 := hF0.trans (if_pos (by decide))
                  refine lv_if_eq (tgt := 128) hx hb dX8_readLine_118 (by decide) (fun c118 => absurd c118 (by decide +kernel)) (fun _ => ?_)
                  refine lv_aload_n hx hb dX8_readLine_121 rfl (lv_at hl 0 rfl) ?_
                  refine va_callv (va_runV (As := []) (rest := []) ⟨hx, hb, hml, hown, hts⟩ (fF_X8_seenLine l dC dI H.size a0 a0g_0 (Value.ref a0_1) a0g_2 (Value.int a0_3) (Value.int v115na0_4) (Value.int v115na0_5) (Value.int v115na0_6) (Value.int v115na0_7) (Value.int v115na0_8) (Value.int v115na0_9) (Value.int v115na0_10) a0g_11 (Value.ref a0_12) a0g_14 a0g_15 (Value.ref a0_16) a0g_17 a0g_18 a0g_19 a0g_20 a0g_21 a0g_22 a0g_23 a0g_24 a0g_25 a0g_26 a0g_27 a0g_28 a0g_29 a0g_30 a0g_31 a0g_32 a0g_33 a0g_34 a0g_35 a0g_36 a0g_37 a0g_38 a0g_39 ) (cwV 0 hts gX8_readLine_X8_seenLine rfl rfl rfl zd_X8_seenLine ⟨Nat.le_of_ble_eq_true rfl, Nat.le_of_ble_eq_true rfl⟩) ⟨ax_blind (fun _ _ _ _ _ => trivial), zr_8 (zp_K hK) (zp_P1 hP) (q0 := 0) rfl, ax_pre (zp_P1 hP) (zp_K hK) (zp_D1 hD) (fun _ _ => trivial)⟩ rfl rfl hl.1 rfl (lv_room (Nat.le_of_ble_eq_true rfl)) dX8_readLine_122 ⟨Nat.le_of_ble_eq_true rfl, Nat.le_of_ble_eq_true rfl⟩) hS (fun q _ h => zp_F1 hD hS hA q h) (zp_F1 hD hS hA) (fun u t H locs ht hvm hw hB hz1 hk1 hS1 => zo1 hB ht hP hD hk1 (zp_F1 hD hS hA) hS1 (fun hP hK1 hD hS => ?_))
                  refine lv_goto (tgt := 137) hx hb dX8_readLine_125 (by decide) ?_
                  have hFe : FX = (v115na0_4.toInt, v115na0_5.toInt, v115na0_6.toInt, v115na0_7.toInt, v115na0_8.toInt, v115na0_9.toInt, v115na0_10.toInt, 1, (fl_A v115nfa0_12), (fl_A fa0_16)) := hF0
                  exact W.vret hx hb hr (fun t ht hW => ⟨⟨(), rfl, trivial, v115na0_4, v115na0_5, v115na0_6, v115na0_7, v115na0_8, v115na0_9, v115na0_10, 1, v115nfa0_12, fa0_16, ⟨bv115na0_5.1, bv115na0_5.2⟩, ⟨bv115na0_8.1, bv115na0_8.2⟩, ⟨Int.le_trans (by decide) zq1, zq0⟩, bfa0_16, (Or.inl rfl), (em_t hraw51_1 (em_t hraw82_1 hraw115_1)), hFe, by rw [ht]; exact hP, va_K.moved hW.alike hK, hD⟩, hS.F ht⟩) hS.2.2 dX8_readLine_137
                · obtain ⟨hw, huh115, h115⟩ := hw
                  subst hw
                  subst huh115
                  have hF0 := hF0.trans (if_neg (by decide))
                  have hF0 := hF0.trans (if_neg (by decide))
                  refine lv_if_eq (tgt := 128) hx hb dX8_readLine_118 (by decide) (fun c118 => absurd c118 (by decide +kernel)) (fun _ => ?_)
                  refine lv_aload_n hx hb dX8_readLine_121 rfl (lv_at hl 0 rfl) ?_
                  refine zc_cutc (wc := [(a0, .inr (8, [a0g_0, Value.ref a0_1, a0g_2, Value.int a0_3, Value.int v115na0_4, Value.int v115na0_5, Value.int v115na0_6, Value.int v115na0_7, Value.int v115na0_8, Value.int v115na0_9, Value.int v115na0_10, a0g_11, Value.ref a0_12, Value.int 0, a0g_14, a0g_15, Value.ref a0_16, a0g_17, a0g_18, a0g_19, a0g_20, a0g_21, a0g_22, a0g_23, a0g_24, a0g_25, a0g_26, a0g_27, a0g_28, a0g_29, a0g_30, a0g_31, a0g_32, a0g_33, a0g_34, a0g_35, a0g_36, a0g_37, a0g_38, a0g_39])), (a0_16, .inl (ka0_16, 156, .inl (fa0_16))), (a0_1, .inl (ka0_1, 900, .inl (fa0_1))), (a0_12, .inl (ka0_12, 8, .inl (v115nfa0_12)))]) hP hD hS hA [0, 2, 3, 1] (by decide +kernel) rfl (fun hPc hDc hFc hCc => ?_)
                  have hKc := hK.sub (tys' := [(ka0_16, .int), (ka0_1, .int), (ka0_12, .int)]) [1, 2, 0] rfl
                  refine va_callv (va_runV (As := []) (rest := []) ⟨hx, hb, hml, hown, hts⟩ (fG_X8_seenLine l dC dI H.size a0 a0g_0 a0g_2 a0g_11 a0g_14 a0g_15 a0g_17 a0g_18 a0g_19 a0g_20 a0g_21 a0g_22 a0g_23 a0g_24 a0g_25 a0g_26 a0g_27 a0g_28 a0g_29 a0g_30 a0g_31 a0g_32 a0g_33 a0g_34 a0g_35 a0g_36 a0g_37 a0g_38 a0g_39 a0_1 a0_3 v115na0_4 v115na0_5 v115na0_6 v115na0_7 v115na0_8 v115na0_9 v115na0_10 a0_12 a0_16 ka0_16 fa0_16 ka0_1 fa0_1 ka0_12 v115nfa0_12 ad ba0_3_l ba0_3_u bv115na0_5.1 bv115na0_5.2 bv115na0_8.1 bv115na0_8.2 bfa0_16 (by have h1 := u107f_x104; rw [ex104] at h1; exact h1)) (cwV 0 hts gX8_readLine_X8_seenLine rfl rfl rfl zd_X8_seenLine ⟨Nat.le_of_ble_eq_true rfl, Nat.le_of_ble_eq_true rfl⟩) ⟨ax_blind (fun _ _ _ _ hq => sxc_T_same _ _ _ _ (hq)), zr_8 hKc hPc (q0 := 0) rfl, ax_preE hPc hKc hDc (fun U hU hW => sxc_T_to hE0 hS.2.1 hFc hU hW)⟩ rfl rfl hl.1 rfl (lv_room (Nat.le_of_ble_eq_true rfl)) dX8_readLine_122 ⟨Nat.le_of_ble_eq_true rfl, Nat.le_of_ble_eq_true rfl⟩) hS (fun q _ h => hFc q h) hFc (fun u t H locs ht hvm hw => zx_10 (fun v122na0_4 v122na0_5 v122na0_6 v122na0_7 v122na0_8 v122na0_9 v122na0_10 v122na0_13 v122nfa0_16 v122nfa0_12 => zy_7 (fun bv122na0_5 bv122na0_8 bv122na0_13 bv122nfa0_16 hraw122_0 hraw122_1 hraw122_2 hB hz1 hk1 hS1 => zo hB ht hS1 (fun hP1 hK1 hD1 hS => ?_))))
                  refine zc_backc (w := [(a0, .inr (8, [a0g_0, Value.ref a0_1, a0g_2, Value.int a0_3, Value.int v122na0_4, Value.int v122na0_5, Value.int v122na0_6, Value.int v122na0_7, Value.int v122na0_8, Value.int v122na0_9, Value.int v122na0_10, a0g_11, Value.ref a0_12, Value.int v122na0_13, a0g_14, a0g_15, Value.ref a0_16, a0g_17, a0g_18, a0g_19, a0g_20, a0g_21, a0g_22, a0g_23, a0g_24, a0g_25, a0g_26, a0g_27, a0g_28, a0g_29, a0g_30, a0g_31, a0g_32, a0g_33, a0g_34, a0g_35, a0g_36, a0g_37, a0g_38, a0g_39])), (a0_12, .inl (ka0_12, 8, .inl (v122nfa0_12))), (a0_16, .inl (ka0_16, 156, .inl (v122nfa0_16))), (a0_1, .inl (ka0_1, 900, .inl (fa0_1)))]) hP hD hCc hk1 hFc hP1 hD1 [.inr 0, .inr 3, .inr 1, .inr 2] (by decide +kernel) rfl (fun hP hD => ?_)
                  have hc122 : FfG_X8_seenLine a0_3.toInt v115na0_4.toInt v115na0_5.toInt v115na0_6.toInt v115na0_7.toInt v115na0_8.toInt v115na0_9.toInt v115na0_10.toInt (fl_A fa0_16) (fl_A fa0_1) (fl_A v115nfa0_12) = (v122na0_4.toInt, v122na0_5.toInt, v122na0_6.toInt, v122na0_7.toInt, v122na0_8.toInt, v122na0_9.toInt, v122na0_10.toInt, v122na0_13.toInt, (fl_A v122nfa0_16), (fl_A v122nfa0_12)) := hraw122_2
                  have hF0 := hF0.trans (fl_c10_eq hc122)
                  rcases hraw122_0 with hf122 | hf122
                  · subst hf122
                    have hF0 := hF0.trans (if_pos (by decide))
                    refine lv_goto (tgt := 137) hx hb dX8_readLine_125 (by decide) ?_
                    have hFe : FX = (v122na0_4.toInt, v122na0_5.toInt, v122na0_6.toInt, v122na0_7.toInt, v122na0_8.toInt, v122na0_9.toInt, v122na0_10.toInt, 1, (fl_A v122nfa0_12), (fl_A v122nfa0_16)) := hF0
                    exact W.vret hx hb hr (fun t ht hW => ⟨⟨(), rfl, trivial, v122na0_4, v122na0_5, v122na0_6, v122na0_7, v122na0_8, v122na0_9, v122na0_10, 1, v122nfa0_12, v122nfa0_16, ⟨bv122na0_5.1, bv122na0_5.2⟩, ⟨bv122na0_8.1, bv122na0_8.2⟩, ⟨Int.le_trans (by decide) zq1, zq0⟩, bv122nfa0_16, (Or.inl rfl), (em_t hraw51_1 (em_t hraw82_1 (em_t hraw115_1 hraw122_1))), hFe, by rw [ht]; exact hP, va_K.moved hW.alike hK, hD⟩, hS.F ht⟩) hS.2.2 dX8_readLine_137
                  · subst hf122
                    have hF0 := hF0.trans (if_neg (by decide))
                    refine lv_goto (tgt := 137) hx hb dX8_readLine_125 (by decide) ?_
                    have hFe : FX = (v122na0_4.toInt, v122na0_5.toInt, v122na0_6.toInt, v122na0_7.toInt, v122na0_8.toInt, v122na0_9.toInt, v122na0_10.toInt, 0, (fl_A v122nfa0_12), (fl_A v122nfa0_16)) := hF0
                    exact W.vret hx hb hr (fun t ht hW => ⟨⟨(), rfl, trivial, v122na0_4, v122na0_5, v122na0_6, v122na0_7, v122na0_8, v122na0_9, v122na0_10, 0, v122nfa0_12, v122nfa0_16, ⟨bv122na0_5.1, bv122na0_5.2⟩, ⟨bv122na0_8.1, bv122na0_8.2⟩, ⟨zq5, Int.le_trans zq6 (by decide)⟩, bv122nfa0_16, (Or.inr rfl), (em_t hraw51_1 (em_t hraw82_1 (em_t hraw115_1 hraw122_1))), hFe, by rw [ht]; exact hP, va_K.moved hW.alike hK, hD⟩, hS.F ht⟩) hS.2.2 dX8_readLine_137
            · obtain ⟨hw, huh82⟩ := hw
              subst hw
              subst huh82
              have hF0 := hF0.trans (if_neg (by decide))
              have hF0 := hF0.trans (if_pos (by decide))
              refine lv_if_eq (tgt := 95) hx hb dX8_readLine_85 (by decide) (fun c85 => absurd c85 (by decide +kernel)) (fun _ => ?_)
              refine lv_aload_n hx hb dX8_readLine_88 rfl (lv_at hl 0 rfl) ?_
              refine va_callv (va_runV (As := []) (rest := []) ⟨hx, hb, hml, hown, hts⟩ (fF_X8_watcherLine l dC dI H.size a0 a0g_0 (Value.ref a0_1) a0g_2 (Value.int a0_3) (Value.int v82na0_4) (Value.int v82na0_5) (Value.int v82na0_6) (Value.int v82na0_7) (Value.int v82na0_8) (Value.int v82na0_9) (Value.int v82na0_10) a0g_11 (Value.ref a0_12) a0g_14 a0g_15 (Value.ref a0_16) a0g_17 a0g_18 a0g_19 a0g_20 a0g_21 a0g_22 a0g_23 a0g_24 a0g_25 a0g_26 a0g_27 a0g_28 a0g_29 a0g_30 a0g_31 a0g_32 a0g_33 a0g_34 a0g_35 a0g_36 a0g_37 a0g_38 a0g_39 ) (cwV 0 hts gX8_readLine_X8_watcherLine rfl rfl rfl zd_X8_watcherLine ⟨Nat.le_of_ble_eq_true rfl, Nat.le_of_ble_eq_true rfl⟩) ⟨ax_blind (fun _ _ _ _ _ => trivial), zr_8 (zp_K hK) (zp_P1 hP) (q0 := 0) rfl, ax_pre (zp_P1 hP) (zp_K hK) (zp_D1 hD) (fun _ _ => trivial)⟩ rfl rfl hl.1 rfl (lv_room (Nat.le_of_ble_eq_true rfl)) dX8_readLine_89 ⟨Nat.le_of_ble_eq_true rfl, Nat.le_of_ble_eq_true rfl⟩) hS (fun q _ h => zp_F1 hD hS hA q h) (zp_F1 hD hS hA) (fun u t H locs ht hvm hw hB hz1 hk1 hS1 => zo1 hB ht hP hD hk1 (zp_F1 hD hS hA) hS1 (fun hP hK1 hD hS => ?_))
              refine lv_goto (tgt := 137) hx hb dX8_readLine_92 (by decide) ?_
              have hFe : FX = (v82na0_4.toInt, v82na0_5.toInt, v82na0_6.toInt, v82na0_7.toInt, v82na0_8.toInt, v82na0_9.toInt, v82na0_10.toInt, 1, (fl_A v82nfa0_12), (fl_A fa0_16)) := hF0
              exact W.vret hx hb hr (fun t ht hW => ⟨⟨(), rfl, trivial, v82na0_4, v82na0_5, v82na0_6, v82na0_7, v82na0_8, v82na0_9, v82na0_10, 1, v82nfa0_12, fa0_16, ⟨bv82na0_5.1, bv82na0_5.2⟩, ⟨bv82na0_8.1, bv82na0_8.2⟩, ⟨Int.le_trans (by decide) zq1, zq0⟩, bfa0_16, (Or.inl rfl), (em_t hraw51_1 hraw82_1), hFe, by rw [ht]; exact hP, va_K.moved hW.alike hK, hD⟩, hS.F ht⟩) hS.2.2 dX8_readLine_137
            · obtain ⟨hw, huh82, h82⟩ := hw
              subst hw
              subst huh82
              have hF0 := hF0.trans (if_neg (by decide))
              have hF0 := hF0.trans (if_neg (by decide))
              refine lv_if_eq (tgt := 95) hx hb dX8_readLine_85 (by decide) (fun c85 => absurd c85 (by decide +kernel)) (fun _ => ?_)
              refine lv_aload_n hx hb dX8_readLine_88 rfl (lv_at hl 0 rfl) ?_
              refine zc_cutc (wc := [(a0, .inr (8, [a0g_0, Value.ref a0_1, a0g_2, Value.int a0_3, Value.int v82na0_4, Value.int v82na0_5, Value.int v82na0_6, Value.int v82na0_7, Value.int v82na0_8, Value.int v82na0_9, Value.int v82na0_10, a0g_11, Value.ref a0_12, Value.int 0, a0g_14, a0g_15, Value.ref a0_16, a0g_17, a0g_18, a0g_19, a0g_20, a0g_21, a0g_22, a0g_23, a0g_24, a0g_25, a0g_26, a0g_27, a0g_28, a0g_29, a0g_30, a0g_31, a0g_32, a0g_33, a0g_34, a0g_35, a0g_36, a0g_37, a0g_38, a0g_39])), (a0_16, .inl (ka0_16, 156, .inl (fa0_16))), (a0_12, .inl (ka0_12, 8, .inl (v82nfa0_12))), (a0_1, .inl (ka0_1, 900, .inl (fa0_1)))]) hP hD hS hA [0, 2, 1, 3] (by decide +kernel) rfl (fun hPc hDc hFc hCc => ?_)
              have hKc := hK.sub (tys' := [(ka0_16, .int), (ka0_12, .int), (ka0_1, .int)]) [1, 0, 2] rfl
              refine va_callv (va_runV (As := []) (rest := []) ⟨hx, hb, hml, hown, hts⟩ (fG_X8_watcherLine l dC dI H.size a0 a0g_0 a0g_2 a0g_11 a0g_14 a0g_15 a0g_17 a0g_18 a0g_19 a0g_20 a0g_21 a0g_22 a0g_23 a0g_24 a0g_25 a0g_26 a0g_27 a0g_28 a0g_29 a0g_30 a0g_31 a0g_32 a0g_33 a0g_34 a0g_35 a0g_36 a0g_37 a0g_38 a0g_39 a0_1 a0_3 v82na0_4 v82na0_5 v82na0_6 v82na0_7 v82na0_8 v82na0_9 v82na0_10 a0_12 a0_16 ka0_16 fa0_16 ka0_12 v82nfa0_12 ka0_1 fa0_1 ad ba0_3_l ba0_3_u bv82na0_5.1 bv82na0_5.2 bv82na0_8.1 bv82na0_8.2 bfa0_16 hraw82_0 (by have h1 := u74f_x72; rw [ex72] at h1; exact h1)) (cwV 0 hts gX8_readLine_X8_watcherLine rfl rfl rfl zd_X8_watcherLine ⟨Nat.le_of_ble_eq_true rfl, Nat.le_of_ble_eq_true rfl⟩) ⟨ax_blind (fun _ _ _ _ hq => sxc_T_same _ _ _ _ (hq)), zr_8 hKc hPc (q0 := 0) rfl, ax_preE hPc hKc hDc (fun U hU hW => sxc_T_to hE0 hS.2.1 hFc hU hW)⟩ rfl rfl hl.1 rfl (lv_room (Nat.le_of_ble_eq_true rfl)) dX8_readLine_89 ⟨Nat.le_of_ble_eq_true rfl, Nat.le_of_ble_eq_true rfl⟩) hS (fun q _ h => hFc q h) hFc (fun u t H locs ht hvm hw => zx_10 (fun v89na0_4 v89na0_5 v89na0_6 v89na0_7 v89na0_8 v89na0_9 v89na0_10 v89na0_13 v89nfa0_16 v89nfa0_12 => zy_7 (fun bv89na0_5 bv89na0_8 bv89na0_13 bv89nfa0_16 hraw89_0 hraw89_1 hraw89_2 hB hz1 hk1 hS1 => zo hB ht hS1 (fun hP1 hK1 hD1 hS => ?_))))
              refine zc_backc (w := [(a0, .inr (8, [a0g_0, Value.ref a0_1, a0g_2, Value.int a0_3, Value.int v89na0_4, Value.int v89na0_5, Value.int v89na0_6, Value.int v89na0_7, Value.int v89na0_8, Value.int v89na0_9, Value.int v89na0_10, a0g_11, Value.ref a0_12, Value.int v89na0_13, a0g_14, a0g_15, Value.ref a0_16, a0g_17, a0g_18, a0g_19, a0g_20, a0g_21, a0g_22, a0g_23, a0g_24, a0g_25, a0g_26, a0g_27, a0g_28, a0g_29, a0g_30, a0g_31, a0g_32, a0g_33, a0g_34, a0g_35, a0g_36, a0g_37, a0g_38, a0g_39])), (a0_12, .inl (ka0_12, 8, .inl (v89nfa0_12))), (a0_16, .inl (ka0_16, 156, .inl (v89nfa0_16))), (a0_1, .inl (ka0_1, 900, .inl (fa0_1)))]) hP hD hCc hk1 hFc hP1 hD1 [.inr 0, .inr 2, .inr 1, .inr 3] (by decide +kernel) rfl (fun hP hD => ?_)
              have hc89 : FfG_X8_watcherLine a0_3.toInt v82na0_4.toInt v82na0_5.toInt v82na0_6.toInt v82na0_7.toInt v82na0_8.toInt v82na0_9.toInt v82na0_10.toInt (fl_A fa0_16) (fl_A v82nfa0_12) (fl_A fa0_1) = (v89na0_4.toInt, v89na0_5.toInt, v89na0_6.toInt, v89na0_7.toInt, v89na0_8.toInt, v89na0_9.toInt, v89na0_10.toInt, v89na0_13.toInt, (fl_A v89nfa0_16), (fl_A v89nfa0_12)) := hraw89_2
              have hF0 := hF0.trans (fl_c10_eq hc89)
              rcases hraw89_0 with hf89 | hf89
              · subst hf89
                have hF0 := hF0.trans (if_pos (by decide))
                refine lv_goto (tgt := 137) hx hb dX8_readLine_92 (by decide) ?_
                have hFe : FX = (v89na0_4.toInt, v89na0_5.toInt, v89na0_6.toInt, v89na0_7.toInt, v89na0_8.toInt, v89na0_9.toInt, v89na0_10.toInt, 1, (fl_A v89nfa0_12), (fl_A v89nfa0_16)) := hF0
                exact W.vret hx hb hr (fun t ht hW => ⟨⟨(), rfl, trivial, v89na0_4, v89na0_5, v89na0_6, v89na0_7, v89na0_8, v89na0_9, v89na0_10, 1, v89nfa0_12, v89nfa0_16, ⟨bv89na0_5.1, bv89na0_5.2⟩, ⟨bv89na0_8.1, bv89na0_8.2⟩, ⟨Int.le_trans (by decide) zq1, zq0⟩, bv89nfa0_16, (Or.inl rfl), (em_t hraw51_1 (em_t hraw82_1 hraw89_1)), hFe, by rw [ht]; exact hP, va_K.moved hW.alike hK, hD⟩, hS.F ht⟩) hS.2.2 dX8_readLine_137
              · subst hf89
                have hF0 := hF0.trans (if_neg (by decide))
                refine lv_goto (tgt := 137) hx hb dX8_readLine_92 (by decide) ?_
                have hFe : FX = (v89na0_4.toInt, v89na0_5.toInt, v89na0_6.toInt, v89na0_7.toInt, v89na0_8.toInt, v89na0_9.toInt, v89na0_10.toInt, 0, (fl_A v89nfa0_12), (fl_A v89nfa0_16)) := hF0
                exact W.vret hx hb hr (fun t ht hW => ⟨⟨(), rfl, trivial, v89na0_4, v89na0_5, v89na0_6, v89na0_7, v89na0_8, v89na0_9, v89na0_10, 0, v89nfa0_12, v89nfa0_16, ⟨bv89na0_5.1, bv89na0_5.2⟩, ⟨bv89na0_8.1, bv89na0_8.2⟩, ⟨zq5, Int.le_trans zq6 (by decide)⟩, bv89nfa0_16, (Or.inr rfl), (em_t hraw51_1 (em_t hraw82_1 hraw89_1)), hFe, by rw [ht]; exact hP, va_K.moved hW.alike hK, hD⟩, hS.F ht⟩) hS.2.2 dX8_readLine_137
        · obtain ⟨hw, huh51⟩ := hw
          subst hw
          subst huh51
          have hF0 := hF0.trans (if_neg (by decide))
          have hF0 := hF0.trans (if_pos (by decide))
          refine lv_if_eq (tgt := 64) hx hb dX8_readLine_54 (by decide) (fun c54 => absurd c54 (by decide +kernel)) (fun _ => ?_)
          refine lv_aload_n hx hb dX8_readLine_57 rfl (lv_at hl 0 rfl) ?_
          refine va_callv (va_runV (As := []) (rest := []) ⟨hx, hb, hml, hown, hts⟩ (fF_X8_figureLine l dC dI H.size a0 a0g_0 (Value.ref a0_1) a0g_2 (Value.int a0_3) (Value.int v51na0_4) (Value.int v51na0_5) (Value.int v51na0_6) (Value.int v51na0_7) (Value.int v51na0_8) (Value.int v51na0_9) (Value.int v51na0_10) a0g_11 (Value.ref a0_12) a0g_14 a0g_15 (Value.ref a0_16) a0g_17 a0g_18 a0g_19 a0g_20 a0g_21 a0g_22 a0g_23 a0g_24 a0g_25 a0g_26 a0g_27 a0g_28 a0g_29 a0g_30 a0g_31 a0g_32 a0g_33 a0g_34 a0g_35 a0g_36 a0g_37 a0g_38 a0g_39 ) (cwV 0 hts gX8_readLine_X8_figureLine rfl rfl rfl zd_X8_figureLine ⟨Nat.le_of_ble_eq_true rfl, Nat.le_of_ble_eq_true rfl⟩) ⟨ax_blind (fun _ _ _ _ _ => trivial), zr_8 (zp_K hK) (zp_P1 hP) (q0 := 0) rfl, ax_pre (zp_P1 hP) (zp_K hK) (zp_D1 hD) (fun _ _ => trivial)⟩ rfl rfl hl.1 rfl (lv_room (Nat.le_of_ble_eq_true rfl)) dX8_readLine_58 ⟨Nat.le_of_ble_eq_true rfl, Nat.le_of_ble_eq_true rfl⟩) hS (fun q _ h => zp_F1 hD hS hA q h) (zp_F1 hD hS hA) (fun u t H locs ht hvm hw hB hz1 hk1 hS1 => zo1 hB ht hP hD hk1 (zp_F1 hD hS hA) hS1 (fun hP hK1 hD hS => ?_))
          refine lv_goto (tgt := 137) hx hb dX8_readLine_61 (by decide) ?_
          have hFe : FX = (v51na0_4.toInt, v51na0_5.toInt, v51na0_6.toInt, v51na0_7.toInt, v51na0_8.toInt, v51na0_9.toInt, v51na0_10.toInt, 1, (fl_A v51nfa0_12), (fl_A fa0_16)) := hF0
          exact W.vret hx hb hr (fun t ht hW => ⟨⟨(), rfl, trivial, v51na0_4, v51na0_5, v51na0_6, v51na0_7, v51na0_8, v51na0_9, v51na0_10, 1, v51nfa0_12, fa0_16, ⟨bv51na0_5.1, bv51na0_5.2⟩, ⟨bv51na0_8.1, bv51na0_8.2⟩, ⟨Int.le_trans (by decide) zq1, zq0⟩, bfa0_16, (Or.inl rfl), hraw51_1, hFe, by rw [ht]; exact hP, va_K.moved hW.alike hK, hD⟩, hS.F ht⟩) hS.2.2 dX8_readLine_137
        · obtain ⟨hw, huh51, h51⟩ := hw
          subst hw
          subst huh51
          exact absurd h51.1 (by decide)
      · have gc43 := ai_nle c43
        have u43f_x40 : x40.toInt ≤ (8 : Int) := ai_lthi gc43 zq3
        have hF0 := hF0.trans (if_neg (show ¬ (9 ≤ x40.toInt) from Int.not_le.mpr gc43))
        refine lv_iconst (v := 1) hx hb dX8_readLine_46 zk_iconst_1 ?_
        refine lv_goto (tgt := 51) hx hb dX8_readLine_47 (by decide) ?_
        have hKc := hK.sub (tys' := [(ka0_12, .int), (ka0_16, .int), (ka0_1, .int)]) [0, 1, 2] rfl
        refine va_calli (va_runV (As := [.ref (ad 20), .int 1]) (rest := []) ⟨hx, hb, hml, hown, hts⟩ (fG_X8_begins l dC dI H.size a0 (ad 20) 1 a0g_0 a0g_2 a0g_11 a0g_14 a0g_15 a0g_17 a0g_18 a0g_19 a0g_20 a0g_21 a0g_22 a0g_23 a0g_24 a0g_25 a0g_26 a0g_27 a0g_28 a0g_29 a0g_30 a0g_31 a0g_32 a0g_33 a0g_34 a0g_35 a0g_36 a0g_37 a0g_38 a0g_39 a0_1 a0_3 a0_4 a0_5 a0_6 a0_7 a0_8 a0_9 a0_10 a0_12 a0_16 ka0_12 fa0_12 ka0_16 fa0_16 ka0_1 fa0_1 6 (sxc 20) (Int.le_trans zq4 zq1) zq0 ba0_3_l ba0_3_u ba0_5_l ba0_5_u ba0_8_l ba0_8_u bfa0_16 hR1) (cwV 2 hts gX8_readLine_X8_begins rfl rfl rfl zd_X8_begins ⟨Nat.le_of_ble_eq_true rfl, Nat.le_of_ble_eq_true rfl⟩) ⟨ax_blind (fun _ _ _ _ hq => sxc_W_same _ _ _ _ (hq)), zr_8 hKc (zp_P4 hP) (q0 := 0) rfl, ax_preE (zp_P4 hP) hKc (zp_D4 hD) (fun U hU hW => sxc_W_to (sxc_T_w hE0 (i := 20) (by decide)) hS.2.1 (zp_F4 hD hS hA) hU hW)⟩ rfl rfl hl.1 rfl (lv_room (Nat.le_of_ble_eq_true rfl)) dX8_readLine_51 ⟨Nat.le_of_ble_eq_true rfl, Nat.le_of_ble_eq_true rfl⟩) hS (fun q _ h => zp_F4 hD hS hA q h) (zp_F4 hD hS hA) (fun r51 v51na0_13 t H1 locs ht hvm hw => zx_8 (fun v51na0_4 v51na0_5 v51na0_6 v51na0_7 v51na0_8 v51na0_9 v51na0_10 v51nfa0_12 => zy_6 (fun bv51na0_5 bv51na0_8 bv51na0_13 hraw51_0 hraw51_1 hraw51_2 hB hz1 hk1 hS1 => zo4 hB ht hP hD hk1 (zp_F4 hD hS hA) hS1 (fun hP hK1 hD hS => ?_))))
        generalize H1 = H at hP hS ⊢
        obtain ⟨hw, hfr51⟩ := hw
        rw [show (1 : Int32).toInt = 1 from by decide, show ((6 : Nat) : Int) = 6 from rfl] at hfr51 hraw51_2
        have hc51 : FfG_X8_begins 1 a0_3.toInt a0_4.toInt a0_5.toInt a0_6.toInt a0_7.toInt a0_8.toInt a0_9.toInt a0_10.toInt (fl_A fa0_12) (fl_A fa0_16) (fl_A fa0_1) 6 (fl_A (sxc 20)) = (r51.toInt, v51na0_4.toInt, v51na0_5.toInt, v51na0_6.toInt, v51na0_7.toInt, v51na0_8.toInt, v51na0_9.toInt, v51na0_10.toInt, v51na0_13.toInt, (fl_A v51nfa0_12)) := Prod.ext hfr51.symm hraw51_2
        have hF0 := hF0.trans (fl_c10_eq hc51)
        rcases hw with hw | hw | hw
        · obtain ⟨hw, huh51⟩ := hw
          subst hw
          subst huh51
          have hF0 := hF0.trans (if_pos (by decide))
          refine lv_if_eq (tgt := 64) hx hb dX8_readLine_54 (by decide) (fun _ => ?_) (fun c54 => absurd (by decide +kernel) c54)
          refine lv_aload_n hx hb dX8_readLine_64 rfl (lv_at hl 0 rfl) ?_
          refine va_ldcS hx hb hown (sxc_R21 hE0) dX8_readLine_65 ?_
          refine lv_aload_n hx hb dX8_readLine_67 rfl (lv_at hl 0 rfl) ?_
          refine va_get (D := (dC, dI)) (ci := 8) (v := .ref a0_16) (C := RX8) (T := TX8) (N := 40) hx hb hts zi_X8_readLine_8 hown hK hP 0 rfl rfl 16 (by decide) (hts (.fieldLink RX8 23 "WaxTurnsModel" "fresh" "[I") (zm_X8_readLine_r1 (List.mem_of_getElem? (i := 0) rfl))) (fun _ h9 => h9) rfl dX8_readLine_68 ?_
          refine lv_iconst (v := 5) hx hb dX8_readLine_71 zk_iconst_5 ?_
          refine va_iald hx hb hK hP 2 1 rfl rfl (by unfold vp_in; decide +kernel) dX8_readLine_72 ?_
          refine lv_topi (fun x72 ex72 => ?_)
          have bx72 : (0 : Int) ≤ x72.toInt ∧ x72.toInt ≤ 3 := by rw [ex72]; exact ai_rd bfa0_16.2.2.2.2.2.1 zq112 zq113 (by decide) (by decide) (by decide)
          have fqx72 := congrArg Int32.toInt ex72
          have hF0 := hF0.trans (fl_lt_eq (show x72.toInt = (fl_A fa0_16) (5) from fqx72))
          refine lv_iconst (v := 3) hx hb dX8_readLine_73 zk_iconst_3 ?_
          refine lv_icmp_ge (tgt := 81) hx hb dX8_readLine_74 (by decide) (fun c74 => ?_) (fun c74 => ?_)
          · have gc74 := ai_le c74
            have l74t_x72 : (3 : Int) ≤ x72.toInt := Int.le_trans zq8 gc74
            have hF0 := hF0.trans (if_pos (show 3 ≤ x72.toInt from gc74))
            refine lv_iconst (v := 0) hx hb dX8_readLine_81 zk_iconst_0 ?_
            have hKc := hK.sub (tys' := [(ka0_12, .int), (ka0_16, .int), (ka0_1, .int)]) [0, 1, 2] rfl
            refine va_calli (va_runV (As := [.ref (ad 21), .int 0]) (rest := []) ⟨hx, hb, hml, hown, hts⟩ (fG_X8_begins l dC dI H.size a0 (ad 21) 0 a0g_0 a0g_2 a0g_11 a0g_14 a0g_15 a0g_17 a0g_18 a0g_19 a0g_20 a0g_21 a0g_22 a0g_23 a0g_24 a0g_25 a0g_26 a0g_27 a0g_28 a0g_29 a0g_30 a0g_31 a0g_32 a0g_33 a0g_34 a0g_35 a0g_36 a0g_37 a0g_38 a0g_39 a0_1 a0_3 v51na0_4 v51na0_5 v51na0_6 v51na0_7 v51na0_8 v51na0_9 v51na0_10 a0_12 a0_16 ka0_12 v51nfa0_12 ka0_16 fa0_16 ka0_1 fa0_1 7 (sxc 21) zq5 (Int.le_trans zq6 zq4) ba0_3_l ba0_3_u bv51na0_5.1 bv51na0_5.2 bv51na0_8.1 bv51na0_8.2 bfa0_16 hraw51_0) (cwV 2 hts gX8_readLine_X8_begins rfl rfl rfl zd_X8_begins ⟨Nat.le_of_ble_eq_true rfl, Nat.le_of_ble_eq_true rfl⟩) ⟨ax_blind (fun _ _ _ _ hq => sxc_W_same _ _ _ _ (hq)), zr_8 hKc (zp_P4 hP) (q0 := 0) rfl, ax_preE (zp_P4 hP) hKc (zp_D4 hD) (fun U hU hW => sxc_W_to (sxc_T_w hE0 (i := 21) (by decide)) hS.2.1 (zp_F4 hD hS hA) hU hW)⟩ rfl rfl hl.1 rfl (lv_room (Nat.le_of_ble_eq_true rfl)) dX8_readLine_82 ⟨Nat.le_of_ble_eq_true rfl, Nat.le_of_ble_eq_true rfl⟩) hS (fun q _ h => zp_F4 hD hS hA q h) (zp_F4 hD hS hA) (fun r82 v82na0_13 t H1 locs ht hvm hw => zx_8 (fun v82na0_4 v82na0_5 v82na0_6 v82na0_7 v82na0_8 v82na0_9 v82na0_10 v82nfa0_12 => zy_6 (fun bv82na0_5 bv82na0_8 bv82na0_13 hraw82_0 hraw82_1 hraw82_2 hB hz1 hk1 hS1 => zo4 hB ht hP hD hk1 (zp_F4 hD hS hA) hS1 (fun hP hK1 hD hS => ?_))))
            generalize H1 = H at hP hS ⊢
            obtain ⟨hw, hfr82⟩ := hw
            rw [show (0 : Int32).toInt = 0 from by decide, show ((7 : Nat) : Int) = 7 from rfl] at hfr82 hraw82_2
            have hc82 : FfG_X8_begins 0 a0_3.toInt v51na0_4.toInt v51na0_5.toInt v51na0_6.toInt v51na0_7.toInt v51na0_8.toInt v51na0_9.toInt v51na0_10.toInt (fl_A v51nfa0_12) (fl_A fa0_16) (fl_A fa0_1) 7 (fl_A (sxc 21)) = (r82.toInt, v82na0_4.toInt, v82na0_5.toInt, v82na0_6.toInt, v82na0_7.toInt, v82na0_8.toInt, v82na0_9.toInt, v82na0_10.toInt, v82na0_13.toInt, (fl_A v82nfa0_12)) := Prod.ext hfr82.symm hraw82_2
            have hF0 := hF0.trans (fl_c10_eq hc82)
            rcases hw with hw | hw | hw
            · obtain ⟨hw, huh82⟩ := hw
              subst hw
              subst huh82
              have hF0 := hF0.trans (if_pos (by decide))
              refine lv_if_eq (tgt := 95) hx hb dX8_readLine_85 (by decide) (fun _ => ?_) (fun c85 => absurd (by decide +kernel) c85)
              refine lv_aload_n hx hb dX8_readLine_95 rfl (lv_at hl 0 rfl) ?_
              refine va_ldcS hx hb hown (sxc_R22 hE0) dX8_readLine_96 ?_
              refine lv_aload_n hx hb dX8_readLine_98 rfl (lv_at hl 0 rfl) ?_
              refine va_get (D := (dC, dI)) (ci := 8) (v := .ref a0_16) (C := RX8) (T := TX8) (N := 40) hx hb hts zi_X8_readLine_8 hown hK hP 0 rfl rfl 16 (by decide) (hts (.fieldLink RX8 23 "WaxTurnsModel" "fresh" "[I") (zm_X8_readLine_r1 (List.mem_of_getElem? (i := 0) rfl))) (fun _ h9 => h9) rfl dX8_readLine_99 ?_
              refine lv_bipush (v := 6) hx hb dX8_readLine_102 zk_bipush_6 ?_
              refine va_iald hx hb hK hP 2 1 rfl rfl (by unfold vp_in; decide +kernel) dX8_readLine_104 ?_
              refine lv_topi (fun x104 ex104 => ?_)
              have bx104 : (0 : Int) ≤ x104.toInt ∧ x104.toInt ≤ 6 := by rw [ex104]; exact ai_rd bfa0_16.2.2.2.2.2.2.1 zq15 zq16 (by decide) (by decide) (by decide)
              have fqx104 := congrArg Int32.toInt ex104
              have hF0 := hF0.trans (fl_lt_eq (show x104.toInt = (fl_A fa0_16) (6) from fqx104))
              refine lv_bipush (v := 6) hx hb dX8_readLine_105 zk_bipush_6 ?_
              refine lv_icmp_ge (tgt := 114) hx hb dX8_readLine_107 (by decide) (fun c107 => ?_) (fun c107 => ?_)
              · have gc107 := ai_le c107
                have l107t_x104 : (6 : Int) ≤ x104.toInt := Int.le_trans zq15 gc107
                have hF0 := hF0.trans (if_pos (show 6 ≤ x104.toInt from gc107))
                refine lv_iconst (v := 0) hx hb dX8_readLine_114 zk_iconst_0 ?_
                have hKc := hK.sub (tys' := [(ka0_12, .int), (ka0_16, .int), (ka0_1, .int)]) [0, 1, 2] rfl
                refine va_calli (va_runV (As := [.ref (ad 22), .int 0]) (rest := []) ⟨hx, hb, hml, hown, hts⟩ (fG_X8_begins l dC dI H.size a0 (ad 22) 0 a0g_0 a0g_2 a0g_11 a0g_14 a0g_15 a0g_17 a0g_18 a0g_19 a0g_20 a0g_21 a0g_22 a0g_23 a0g_24 a0g_25 a0g_26 a0g_27 a0g_28 a0g_29 a0g_30 a0g_31 a0g_32 a0g_33 a0g_34 a0g_35 a0g_36 a0g_37 a0g_38 a0g_39 a0_1 a0_3 v82na0_4 v82na0_5 v82na0_6 v82na0_7 v82na0_8 v82na0_9 v82na0_10 a0_12 a0_16 ka0_12 v82nfa0_12 ka0_16 fa0_16 ka0_1 fa0_1 4 (sxc 22) zq5 (Int.le_trans zq6 zq4) ba0_3_l ba0_3_u bv82na0_5.1 bv82na0_5.2 bv82na0_8.1 bv82na0_8.2 bfa0_16 hraw82_0) (cwV 2 hts gX8_readLine_X8_begins rfl rfl rfl zd_X8_begins ⟨Nat.le_of_ble_eq_true rfl, Nat.le_of_ble_eq_true rfl⟩) ⟨ax_blind (fun _ _ _ _ hq => sxc_W_same _ _ _ _ (hq)), zr_8 hKc (zp_P4 hP) (q0 := 0) rfl, ax_preE (zp_P4 hP) hKc (zp_D4 hD) (fun U hU hW => sxc_W_to (sxc_T_w hE0 (i := 22) (by decide)) hS.2.1 (zp_F4 hD hS hA) hU hW)⟩ rfl rfl hl.1 rfl (lv_room (Nat.le_of_ble_eq_true rfl)) dX8_readLine_115 ⟨Nat.le_of_ble_eq_true rfl, Nat.le_of_ble_eq_true rfl⟩) hS (fun q _ h => zp_F4 hD hS hA q h) (zp_F4 hD hS hA) (fun r115 v115na0_13 t H1 locs ht hvm hw => zx_8 (fun v115na0_4 v115na0_5 v115na0_6 v115na0_7 v115na0_8 v115na0_9 v115na0_10 v115nfa0_12 => zy_6 (fun bv115na0_5 bv115na0_8 bv115na0_13 hraw115_0 hraw115_1 hraw115_2 hB hz1 hk1 hS1 => zo4 hB ht hP hD hk1 (zp_F4 hD hS hA) hS1 (fun hP hK1 hD hS => ?_))))
                generalize H1 = H at hP hS ⊢
                obtain ⟨hw, hfr115⟩ := hw
                rw [show (0 : Int32).toInt = 0 from by decide, show ((4 : Nat) : Int) = 4 from rfl] at hfr115 hraw115_2
                have hc115 : FfG_X8_begins 0 a0_3.toInt v82na0_4.toInt v82na0_5.toInt v82na0_6.toInt v82na0_7.toInt v82na0_8.toInt v82na0_9.toInt v82na0_10.toInt (fl_A v82nfa0_12) (fl_A fa0_16) (fl_A fa0_1) 4 (fl_A (sxc 22)) = (r115.toInt, v115na0_4.toInt, v115na0_5.toInt, v115na0_6.toInt, v115na0_7.toInt, v115na0_8.toInt, v115na0_9.toInt, v115na0_10.toInt, v115na0_13.toInt, (fl_A v115nfa0_12)) := Prod.ext hfr115.symm hraw115_2
                have hF0 := hF0.trans (fl_c10_eq hc115)
                rcases hw with hw | hw | hw
                · obtain ⟨hw, huh115⟩ := hw
                  subst hw
                  subst huh115
                  have hF0 := hF0.trans (if_pos (by decide))
                  refine lv_if_eq (tgt := 128) hx hb dX8_readLine_118 (by decide) (fun _ => ?_) (fun c118 => absurd (by decide +kernel) c118)
                  refine lv_aload_n hx hb dX8_readLine_128 rfl (lv_at hl 0 rfl) ?_
                  refine lv_iconst (v := 1) hx hb dX8_readLine_129 zk_iconst_1 ?_
                  refine lv_aload_n hx hb dX8_readLine_130 rfl (lv_at hl 0 rfl) ?_
                  refine va_get (D := (dC, dI)) (ci := 8) (v := .int v115na0_4) (C := RX8) (T := TX8) (N := 40) hx hb hts zi_X8_readLine_8 hown hK hP 0 rfl rfl 4 (by decide) (hts (.fieldLink RX8 78 "WaxTurnsModel" "at" "I") (zm_X8_readLine_r1 (List.mem_of_getElem? (i := 1) rfl))) (fun _ h9 => h9) rfl dX8_readLine_131 ?_
                  refine va_callv (va_runV (As := [.int 1, .int v115na0_4]) (rest := []) ⟨hx, hb, hml, hown, hts⟩ (fG_X8_wrong l dC dI H.size a0 1 v115na0_4 a0g_0 (Value.ref a0_1) a0g_2 (Value.int a0_3) (Value.int v115na0_4) (Value.int v115na0_5) (Value.int v115na0_6) (Value.int v115na0_7) (Value.int v115na0_8) a0g_11 (Value.ref a0_12) a0g_14 a0g_15 (Value.ref a0_16) a0g_17 a0g_18 a0g_19 a0g_20 a0g_21 a0g_22 a0g_23 a0g_24 a0g_25 a0g_26 a0g_27 a0g_28 a0g_29 a0g_30 a0g_31 a0g_32 a0g_33 a0g_34 a0g_35 a0g_36 a0g_37 a0g_38 a0g_39 v115na0_9 v115na0_10 ) (cwV 2 hts gX8_readLine_X8_wrong rfl rfl rfl zd_X8_wrong ⟨Nat.le_of_ble_eq_true rfl, Nat.le_of_ble_eq_true rfl⟩) ⟨ax_blind (fun _ _ _ _ _ => trivial), zr_8 (zp_K hK) (zp_P1 hP) (q0 := 0) rfl, ax_pre (zp_P1 hP) (zp_K hK) (zp_D1 hD) (fun _ _ => trivial)⟩ rfl rfl hl.1 rfl (lv_room (Nat.le_of_ble_eq_true rfl)) dX8_readLine_134 ⟨Nat.le_of_ble_eq_true rfl, Nat.le_of_ble_eq_true rfl⟩) hS (fun q _ h => zp_F1 hD hS hA q h) (zp_F1 hD hS hA) (fun u t H locs ht hvm hw => zx_2 (fun v134na0_9 v134na0_10 => zy_1 (fun hraw134_0 hB hz1 hk1 hS1 => zo1 hB ht hP hD hk1 (zp_F1 hD hS hA) hS1 (fun hP hK1 hD hS => ?_))))
                  rw [show (1 : Int32).toInt = 1 from by decide] at hraw134_0
                  have hc134 : FfG_X8_wrong 1 v115na0_4.toInt = (v134na0_9.toInt, v134na0_10.toInt) := hraw134_0
                  have hF0 := hF0.trans (fl_c2_eq hc134)
                  have hFe : FX = (v115na0_4.toInt, v115na0_5.toInt, v115na0_6.toInt, v115na0_7.toInt, v115na0_8.toInt, v134na0_9.toInt, v134na0_10.toInt, 1, (fl_A v115nfa0_12), (fl_A fa0_16)) := hF0
                  exact W.vret hx hb hr (fun t ht hW => ⟨⟨(), rfl, trivial, v115na0_4, v115na0_5, v115na0_6, v115na0_7, v115na0_8, v134na0_9, v134na0_10, 1, v115nfa0_12, fa0_16, ⟨bv115na0_5.1, bv115na0_5.2⟩, ⟨bv115na0_8.1, bv115na0_8.2⟩, ⟨Int.le_trans (by decide) zq1, zq0⟩, bfa0_16, (Or.inl rfl), (em_t hraw51_1 (em_t hraw82_1 hraw115_1)), hFe, by rw [ht]; exact hP, va_K.moved hW.alike hK, hD⟩, hS.F ht⟩) hS.2.2 dX8_readLine_137
                · obtain ⟨hw, huh115⟩ := hw
                  subst hw
                  subst huh115
                  have hF0 := hF0.trans (if_neg (by decide))
                  have hF0 := hF0.trans (if_pos (by decide))
                  refine lv_if_eq (tgt := 128) hx hb dX8_readLine_118 (by decide) (fun c118 => absurd c118 (by decide +kernel)) (fun _ => ?_)
                  refine lv_aload_n hx hb dX8_readLine_121 rfl (lv_at hl 0 rfl) ?_
                  refine va_callv (va_runV (As := []) (rest := []) ⟨hx, hb, hml, hown, hts⟩ (fF_X8_seenLine l dC dI H.size a0 a0g_0 (Value.ref a0_1) a0g_2 (Value.int a0_3) (Value.int v115na0_4) (Value.int v115na0_5) (Value.int v115na0_6) (Value.int v115na0_7) (Value.int v115na0_8) (Value.int v115na0_9) (Value.int v115na0_10) a0g_11 (Value.ref a0_12) a0g_14 a0g_15 (Value.ref a0_16) a0g_17 a0g_18 a0g_19 a0g_20 a0g_21 a0g_22 a0g_23 a0g_24 a0g_25 a0g_26 a0g_27 a0g_28 a0g_29 a0g_30 a0g_31 a0g_32 a0g_33 a0g_34 a0g_35 a0g_36 a0g_37 a0g_38 a0g_39 ) (cwV 0 hts gX8_readLine_X8_seenLine rfl rfl rfl zd_X8_seenLine ⟨Nat.le_of_ble_eq_true rfl, Nat.le_of_ble_eq_true rfl⟩) ⟨ax_blind (fun _ _ _ _ _ => trivial), zr_8 (zp_K hK) (zp_P1 hP) (q0 := 0) rfl, ax_pre (zp_P1 hP) (zp_K hK) (zp_D1 hD) (fun _ _ => trivial)⟩ rfl rfl hl.1 rfl (lv_room (Nat.le_of_ble_eq_true rfl)) dX8_readLine_122 ⟨Nat.le_of_ble_eq_true rfl, Nat.le_of_ble_eq_true rfl⟩) hS (fun q _ h => zp_F1 hD hS hA q h) (zp_F1 hD hS hA) (fun u t H locs ht hvm hw hB hz1 hk1 hS1 => zo1 hB ht hP hD hk1 (zp_F1 hD hS hA) hS1 (fun hP hK1 hD hS => ?_))
                  refine lv_goto (tgt := 137) hx hb dX8_readLine_125 (by decide) ?_
                  have hFe : FX = (v115na0_4.toInt, v115na0_5.toInt, v115na0_6.toInt, v115na0_7.toInt, v115na0_8.toInt, v115na0_9.toInt, v115na0_10.toInt, 1, (fl_A v115nfa0_12), (fl_A fa0_16)) := hF0
                  exact W.vret hx hb hr (fun t ht hW => ⟨⟨(), rfl, trivial, v115na0_4, v115na0_5, v115na0_6, v115na0_7, v115na0_8, v115na0_9, v115na0_10, 1, v115nfa0_12, fa0_16, ⟨bv115na0_5.1, bv115na0_5.2⟩, ⟨bv115na0_8.1, bv115na0_8.2⟩, ⟨Int.le_trans (by decide) zq1, zq0⟩, bfa0_16, (Or.inl rfl), (em_t hraw51_1 (em_t hraw82_1 hraw115_1)), hFe, by rw [ht]; exact hP, va_K.moved hW.alike hK, hD⟩, hS.F ht⟩) hS.2.2 dX8_readLine_137
                · obtain ⟨hw, huh115, h115⟩ := hw
                  subst hw
                  subst huh115
                  exact absurd h115.1 (by decide)
              · have gc107 := ai_nle c107
                have u107f_x104 : x104.toInt ≤ (5 : Int) := ai_lthi gc107 zq16
                have hF0 := hF0.trans (if_neg (show ¬ (6 ≤ x104.toInt) from Int.not_le.mpr gc107))
                refine lv_iconst (v := 1) hx hb dX8_readLine_110 zk_iconst_1 ?_
                refine lv_goto (tgt := 115) hx hb dX8_readLine_111 (by decide) ?_
                have hKc := hK.sub (tys' := [(ka0_12, .int), (ka0_16, .int), (ka0_1, .int)]) [0, 1, 2] rfl
                refine va_calli (va_runV (As := [.ref (ad 22), .int 1]) (rest := []) ⟨hx, hb, hml, hown, hts⟩ (fG_X8_begins l dC dI H.size a0 (ad 22) 1 a0g_0 a0g_2 a0g_11 a0g_14 a0g_15 a0g_17 a0g_18 a0g_19 a0g_20 a0g_21 a0g_22 a0g_23 a0g_24 a0g_25 a0g_26 a0g_27 a0g_28 a0g_29 a0g_30 a0g_31 a0g_32 a0g_33 a0g_34 a0g_35 a0g_36 a0g_37 a0g_38 a0g_39 a0_1 a0_3 v82na0_4 v82na0_5 v82na0_6 v82na0_7 v82na0_8 v82na0_9 v82na0_10 a0_12 a0_16 ka0_12 v82nfa0_12 ka0_16 fa0_16 ka0_1 fa0_1 4 (sxc 22) (Int.le_trans zq4 zq1) zq0 ba0_3_l ba0_3_u bv82na0_5.1 bv82na0_5.2 bv82na0_8.1 bv82na0_8.2 bfa0_16 hraw82_0) (cwV 2 hts gX8_readLine_X8_begins rfl rfl rfl zd_X8_begins ⟨Nat.le_of_ble_eq_true rfl, Nat.le_of_ble_eq_true rfl⟩) ⟨ax_blind (fun _ _ _ _ hq => sxc_W_same _ _ _ _ (hq)), zr_8 hKc (zp_P4 hP) (q0 := 0) rfl, ax_preE (zp_P4 hP) hKc (zp_D4 hD) (fun U hU hW => sxc_W_to (sxc_T_w hE0 (i := 22) (by decide)) hS.2.1 (zp_F4 hD hS hA) hU hW)⟩ rfl rfl hl.1 rfl (lv_room (Nat.le_of_ble_eq_true rfl)) dX8_readLine_115 ⟨Nat.le_of_ble_eq_true rfl, Nat.le_of_ble_eq_true rfl⟩) hS (fun q _ h => zp_F4 hD hS hA q h) (zp_F4 hD hS hA) (fun r115 v115na0_13 t H1 locs ht hvm hw => zx_8 (fun v115na0_4 v115na0_5 v115na0_6 v115na0_7 v115na0_8 v115na0_9 v115na0_10 v115nfa0_12 => zy_6 (fun bv115na0_5 bv115na0_8 bv115na0_13 hraw115_0 hraw115_1 hraw115_2 hB hz1 hk1 hS1 => zo4 hB ht hP hD hk1 (zp_F4 hD hS hA) hS1 (fun hP hK1 hD hS => ?_))))
                generalize H1 = H at hP hS ⊢
                obtain ⟨hw, hfr115⟩ := hw
                rw [show (1 : Int32).toInt = 1 from by decide, show ((4 : Nat) : Int) = 4 from rfl] at hfr115 hraw115_2
                have hc115 : FfG_X8_begins 1 a0_3.toInt v82na0_4.toInt v82na0_5.toInt v82na0_6.toInt v82na0_7.toInt v82na0_8.toInt v82na0_9.toInt v82na0_10.toInt (fl_A v82nfa0_12) (fl_A fa0_16) (fl_A fa0_1) 4 (fl_A (sxc 22)) = (r115.toInt, v115na0_4.toInt, v115na0_5.toInt, v115na0_6.toInt, v115na0_7.toInt, v115na0_8.toInt, v115na0_9.toInt, v115na0_10.toInt, v115na0_13.toInt, (fl_A v115nfa0_12)) := Prod.ext hfr115.symm hraw115_2
                have hF0 := hF0.trans (fl_c10_eq hc115)
                rcases hw with hw | hw | hw
                · obtain ⟨hw, huh115⟩ := hw
                  subst hw
                  subst huh115
                  have hF0 := hF0.trans (if_pos (by decide))
                  refine lv_if_eq (tgt := 128) hx hb dX8_readLine_118 (by decide) (fun _ => ?_) (fun c118 => absurd (by decide +kernel) c118)
                  refine lv_aload_n hx hb dX8_readLine_128 rfl (lv_at hl 0 rfl) ?_
                  refine lv_iconst (v := 1) hx hb dX8_readLine_129 zk_iconst_1 ?_
                  refine lv_aload_n hx hb dX8_readLine_130 rfl (lv_at hl 0 rfl) ?_
                  refine va_get (D := (dC, dI)) (ci := 8) (v := .int v115na0_4) (C := RX8) (T := TX8) (N := 40) hx hb hts zi_X8_readLine_8 hown hK hP 0 rfl rfl 4 (by decide) (hts (.fieldLink RX8 78 "WaxTurnsModel" "at" "I") (zm_X8_readLine_r1 (List.mem_of_getElem? (i := 1) rfl))) (fun _ h9 => h9) rfl dX8_readLine_131 ?_
                  refine va_callv (va_runV (As := [.int 1, .int v115na0_4]) (rest := []) ⟨hx, hb, hml, hown, hts⟩ (fG_X8_wrong l dC dI H.size a0 1 v115na0_4 a0g_0 (Value.ref a0_1) a0g_2 (Value.int a0_3) (Value.int v115na0_4) (Value.int v115na0_5) (Value.int v115na0_6) (Value.int v115na0_7) (Value.int v115na0_8) a0g_11 (Value.ref a0_12) a0g_14 a0g_15 (Value.ref a0_16) a0g_17 a0g_18 a0g_19 a0g_20 a0g_21 a0g_22 a0g_23 a0g_24 a0g_25 a0g_26 a0g_27 a0g_28 a0g_29 a0g_30 a0g_31 a0g_32 a0g_33 a0g_34 a0g_35 a0g_36 a0g_37 a0g_38 a0g_39 v115na0_9 v115na0_10 ) (cwV 2 hts gX8_readLine_X8_wrong rfl rfl rfl zd_X8_wrong ⟨Nat.le_of_ble_eq_true rfl, Nat.le_of_ble_eq_true rfl⟩) ⟨ax_blind (fun _ _ _ _ _ => trivial), zr_8 (zp_K hK) (zp_P1 hP) (q0 := 0) rfl, ax_pre (zp_P1 hP) (zp_K hK) (zp_D1 hD) (fun _ _ => trivial)⟩ rfl rfl hl.1 rfl (lv_room (Nat.le_of_ble_eq_true rfl)) dX8_readLine_134 ⟨Nat.le_of_ble_eq_true rfl, Nat.le_of_ble_eq_true rfl⟩) hS (fun q _ h => zp_F1 hD hS hA q h) (zp_F1 hD hS hA) (fun u t H locs ht hvm hw => zx_2 (fun v134na0_9 v134na0_10 => zy_1 (fun hraw134_0 hB hz1 hk1 hS1 => zo1 hB ht hP hD hk1 (zp_F1 hD hS hA) hS1 (fun hP hK1 hD hS => ?_))))
                  rw [show (1 : Int32).toInt = 1 from by decide] at hraw134_0
                  have hc134 : FfG_X8_wrong 1 v115na0_4.toInt = (v134na0_9.toInt, v134na0_10.toInt) := hraw134_0
                  have hF0 := hF0.trans (fl_c2_eq hc134)
                  have hFe : FX = (v115na0_4.toInt, v115na0_5.toInt, v115na0_6.toInt, v115na0_7.toInt, v115na0_8.toInt, v134na0_9.toInt, v134na0_10.toInt, 1, (fl_A v115nfa0_12), (fl_A fa0_16)) := hF0
                  exact W.vret hx hb hr (fun t ht hW => ⟨⟨(), rfl, trivial, v115na0_4, v115na0_5, v115na0_6, v115na0_7, v115na0_8, v134na0_9, v134na0_10, 1, v115nfa0_12, fa0_16, ⟨bv115na0_5.1, bv115na0_5.2⟩, ⟨bv115na0_8.1, bv115na0_8.2⟩, ⟨Int.le_trans (by decide) zq1, zq0⟩, bfa0_16, (Or.inl rfl), (em_t hraw51_1 (em_t hraw82_1 hraw115_1)), hFe, by rw [ht]; exact hP, va_K.moved hW.alike hK, hD⟩, hS.F ht⟩) hS.2.2 dX8_readLine_137
                · obtain ⟨hw, huh115⟩ := hw
                  subst hw
                  subst huh115
                  have hF0 := hF0.trans (if_neg (by decide))
                  have hF0 := hF0.trans (if_pos (by decide))
                  refine lv_if_eq (tgt := 128) hx hb dX8_readLine_118 (by decide) (fun c118 => absurd c118 (by decide +kernel)) (fun _ => ?_)
                  refine lv_aload_n hx hb dX8_readLine_121 rfl (lv_at hl 0 rfl) ?_
                  refine va_callv (va_runV (As := []) (rest := []) ⟨hx, hb, hml, hown, hts⟩ (fF_X8_seenLine l dC dI H.size a0 a0g_0 (Value.ref a0_1) a0g_2 (Value.int a0_3) (Value.int v115na0_4) (Value.int v115na0_5) (Value.int v115na0_6) (Value.int v115na0_7) (Value.int v115na0_8) (Value.int v115na0_9) (Value.int v115na0_10) a0g_11 (Value.ref a0_12) a0g_14 a0g_15 (Value.ref a0_16) a0g_17 a0g_18 a0g_19 a0g_20 a0g_21 a0g_22 a0g_23 a0g_24 a0g_25 a0g_26 a0g_27 a0g_28 a0g_29 a0g_30 a0g_31 a0g_32 a0g_33 a0g_34 a0g_35 a0g_36 a0g_37 a0g_38 a0g_39 ) (cwV 0 hts gX8_readLine_X8_seenLine rfl rfl rfl zd_X8_seenLine ⟨Nat.le_of_ble_eq_true rfl, Nat.le_of_ble_eq_true rfl⟩) ⟨ax_blind (fun _ _ _ _ _ => trivial), zr_8 (zp_K hK) (zp_P1 hP) (q0 := 0) rfl, ax_pre (zp_P1 hP) (zp_K hK) (zp_D1 hD) (fun _ _ => trivial)⟩ rfl rfl hl.1 rfl (lv_room (Nat.le_of_ble_eq_true rfl)) dX8_readLine_122 ⟨Nat.le_of_ble_eq_true rfl, Nat.le_of_ble_eq_true rfl⟩) hS (fun q _ h => zp_F1 hD hS hA q h) (zp_F1 hD hS hA) (fun u t H locs ht hvm hw hB hz1 hk1 hS1 => zo1 hB ht hP hD hk1 (zp_F1 hD hS hA) hS1 (fun hP hK1 hD hS => ?_))
                  refine lv_goto (tgt := 137) hx hb dX8_readLine_125 (by decide) ?_
                  have hFe : FX = (v115na0_4.toInt, v115na0_5.toInt, v115na0_6.toInt, v115na0_7.toInt, v115na0_8.toInt, v115na0_9.toInt, v115na0_10.toInt, 1, (fl_A v115nfa0_12), (fl_A fa0_16)) := hF0
                  exact W.vret hx hb hr (fun t ht hW => ⟨⟨(), rfl, trivial, v115na0_4, v115na0_5, v115na0_6, v115na0_7, v115na0_8, v115na0_9, v115na0_10, 1, v115nfa0_12, fa0_16, ⟨bv115na0_5.1, bv115na0_5.2⟩, ⟨bv115na0_8.1, bv115na0_8.2⟩, ⟨Int.le_trans (by decide) zq1, zq0⟩, bfa0_16, (Or.inl rfl), (em_t hraw51_1 (em_t hraw82_1 hraw115_1)), hFe, by rw [ht]; exact hP, va_K.moved hW.alike hK, hD⟩, hS.F ht⟩) hS.2.2 dX8_readLine_137
                · obtain ⟨hw, huh115, h115⟩ := hw
                  subst hw
                  subst huh115
                  have hF0 := hF0.trans (if_neg (by decide))
                  have hF0 := hF0.trans (if_neg (by decide))
                  refine lv_if_eq (tgt := 128) hx hb dX8_readLine_118 (by decide) (fun c118 => absurd c118 (by decide +kernel)) (fun _ => ?_)
                  refine lv_aload_n hx hb dX8_readLine_121 rfl (lv_at hl 0 rfl) ?_
                  refine zc_cutc (wc := [(a0, .inr (8, [a0g_0, Value.ref a0_1, a0g_2, Value.int a0_3, Value.int v115na0_4, Value.int v115na0_5, Value.int v115na0_6, Value.int v115na0_7, Value.int v115na0_8, Value.int v115na0_9, Value.int v115na0_10, a0g_11, Value.ref a0_12, Value.int 0, a0g_14, a0g_15, Value.ref a0_16, a0g_17, a0g_18, a0g_19, a0g_20, a0g_21, a0g_22, a0g_23, a0g_24, a0g_25, a0g_26, a0g_27, a0g_28, a0g_29, a0g_30, a0g_31, a0g_32, a0g_33, a0g_34, a0g_35, a0g_36, a0g_37, a0g_38, a0g_39])), (a0_16, .inl (ka0_16, 156, .inl (fa0_16))), (a0_1, .inl (ka0_1, 900, .inl (fa0_1))), (a0_12, .inl (ka0_12, 8, .inl (v115nfa0_12)))]) hP hD hS hA [0, 2, 3, 1] (by decide +kernel) rfl (fun hPc hDc hFc hCc => ?_)
                  have hKc := hK.sub (tys' := [(ka0_16, .int), (ka0_1, .int), (ka0_12, .int)]) [1, 2, 0] rfl
                  refine va_callv (va_runV (As := []) (rest := []) ⟨hx, hb, hml, hown, hts⟩ (fG_X8_seenLine l dC dI H.size a0 a0g_0 a0g_2 a0g_11 a0g_14 a0g_15 a0g_17 a0g_18 a0g_19 a0g_20 a0g_21 a0g_22 a0g_23 a0g_24 a0g_25 a0g_26 a0g_27 a0g_28 a0g_29 a0g_30 a0g_31 a0g_32 a0g_33 a0g_34 a0g_35 a0g_36 a0g_37 a0g_38 a0g_39 a0_1 a0_3 v115na0_4 v115na0_5 v115na0_6 v115na0_7 v115na0_8 v115na0_9 v115na0_10 a0_12 a0_16 ka0_16 fa0_16 ka0_1 fa0_1 ka0_12 v115nfa0_12 ad ba0_3_l ba0_3_u bv115na0_5.1 bv115na0_5.2 bv115na0_8.1 bv115na0_8.2 bfa0_16 (by have h1 := u107f_x104; rw [ex104] at h1; exact h1)) (cwV 0 hts gX8_readLine_X8_seenLine rfl rfl rfl zd_X8_seenLine ⟨Nat.le_of_ble_eq_true rfl, Nat.le_of_ble_eq_true rfl⟩) ⟨ax_blind (fun _ _ _ _ hq => sxc_T_same _ _ _ _ (hq)), zr_8 hKc hPc (q0 := 0) rfl, ax_preE hPc hKc hDc (fun U hU hW => sxc_T_to hE0 hS.2.1 hFc hU hW)⟩ rfl rfl hl.1 rfl (lv_room (Nat.le_of_ble_eq_true rfl)) dX8_readLine_122 ⟨Nat.le_of_ble_eq_true rfl, Nat.le_of_ble_eq_true rfl⟩) hS (fun q _ h => hFc q h) hFc (fun u t H locs ht hvm hw => zx_10 (fun v122na0_4 v122na0_5 v122na0_6 v122na0_7 v122na0_8 v122na0_9 v122na0_10 v122na0_13 v122nfa0_16 v122nfa0_12 => zy_7 (fun bv122na0_5 bv122na0_8 bv122na0_13 bv122nfa0_16 hraw122_0 hraw122_1 hraw122_2 hB hz1 hk1 hS1 => zo hB ht hS1 (fun hP1 hK1 hD1 hS => ?_))))
                  refine zc_backc (w := [(a0, .inr (8, [a0g_0, Value.ref a0_1, a0g_2, Value.int a0_3, Value.int v122na0_4, Value.int v122na0_5, Value.int v122na0_6, Value.int v122na0_7, Value.int v122na0_8, Value.int v122na0_9, Value.int v122na0_10, a0g_11, Value.ref a0_12, Value.int v122na0_13, a0g_14, a0g_15, Value.ref a0_16, a0g_17, a0g_18, a0g_19, a0g_20, a0g_21, a0g_22, a0g_23, a0g_24, a0g_25, a0g_26, a0g_27, a0g_28, a0g_29, a0g_30, a0g_31, a0g_32, a0g_33, a0g_34, a0g_35, a0g_36, a0g_37, a0g_38, a0g_39])), (a0_12, .inl (ka0_12, 8, .inl (v122nfa0_12))), (a0_16, .inl (ka0_16, 156, .inl (v122nfa0_16))), (a0_1, .inl (ka0_1, 900, .inl (fa0_1)))]) hP hD hCc hk1 hFc hP1 hD1 [.inr 0, .inr 3, .inr 1, .inr 2] (by decide +kernel) rfl (fun hP hD => ?_)
                  have hc122 : FfG_X8_seenLine a0_3.toInt v115na0_4.toInt v115na0_5.toInt v115na0_6.toInt v115na0_7.toInt v115na0_8.toInt v115na0_9.toInt v115na0_10.toInt (fl_A fa0_16) (fl_A fa0_1) (fl_A v115nfa0_12) = (v122na0_4.toInt, v122na0_5.toInt, v122na0_6.toInt, v122na0_7.toInt, v122na0_8.toInt, v122na0_9.toInt, v122na0_10.toInt, v122na0_13.toInt, (fl_A v122nfa0_16), (fl_A v122nfa0_12)) := hraw122_2
                  have hF0 := hF0.trans (fl_c10_eq hc122)
                  rcases hraw122_0 with hf122 | hf122
                  · subst hf122
                    have hF0 := hF0.trans (if_pos (by decide))
                    refine lv_goto (tgt := 137) hx hb dX8_readLine_125 (by decide) ?_
                    have hFe : FX = (v122na0_4.toInt, v122na0_5.toInt, v122na0_6.toInt, v122na0_7.toInt, v122na0_8.toInt, v122na0_9.toInt, v122na0_10.toInt, 1, (fl_A v122nfa0_12), (fl_A v122nfa0_16)) := hF0
                    exact W.vret hx hb hr (fun t ht hW => ⟨⟨(), rfl, trivial, v122na0_4, v122na0_5, v122na0_6, v122na0_7, v122na0_8, v122na0_9, v122na0_10, 1, v122nfa0_12, v122nfa0_16, ⟨bv122na0_5.1, bv122na0_5.2⟩, ⟨bv122na0_8.1, bv122na0_8.2⟩, ⟨Int.le_trans (by decide) zq1, zq0⟩, bv122nfa0_16, (Or.inl rfl), (em_t hraw51_1 (em_t hraw82_1 (em_t hraw115_1 hraw122_1))), hFe, by rw [ht]; exact hP, va_K.moved hW.alike hK, hD⟩, hS.F ht⟩) hS.2.2 dX8_readLine_137
                  · subst hf122
                    have hF0 := hF0.trans (if_neg (by decide))
                    refine lv_goto (tgt := 137) hx hb dX8_readLine_125 (by decide) ?_
                    have hFe : FX = (v122na0_4.toInt, v122na0_5.toInt, v122na0_6.toInt, v122na0_7.toInt, v122na0_8.toInt, v122na0_9.toInt, v122na0_10.toInt, 0, (fl_A v122nfa0_12), (fl_A v122nfa0_16)) := hF0
                    exact W.vret hx hb hr (fun t ht hW => ⟨⟨(), rfl, trivial, v122na0_4, v122na0_5, v122na0_6, v122na0_7, v122na0_8, v122na0_9, v122na0_10, 0, v122nfa0_12, v122nfa0_16, ⟨bv122na0_5.1, bv122na0_5.2⟩, ⟨bv122na0_8.1, bv122na0_8.2⟩, ⟨zq5, Int.le_trans zq6 (by decide)⟩, bv122nfa0_16, (Or.inr rfl), (em_t hraw51_1 (em_t hraw82_1 (em_t hraw115_1 hraw122_1))), hFe, by rw [ht]; exact hP, va_K.moved hW.alike hK, hD⟩, hS.F ht⟩) hS.2.2 dX8_readLine_137
            · obtain ⟨hw, huh82⟩ := hw
              subst hw
              subst huh82
              have hF0 := hF0.trans (if_neg (by decide))
              have hF0 := hF0.trans (if_pos (by decide))
              refine lv_if_eq (tgt := 95) hx hb dX8_readLine_85 (by decide) (fun c85 => absurd c85 (by decide +kernel)) (fun _ => ?_)
              refine lv_aload_n hx hb dX8_readLine_88 rfl (lv_at hl 0 rfl) ?_
              refine va_callv (va_runV (As := []) (rest := []) ⟨hx, hb, hml, hown, hts⟩ (fF_X8_watcherLine l dC dI H.size a0 a0g_0 (Value.ref a0_1) a0g_2 (Value.int a0_3) (Value.int v82na0_4) (Value.int v82na0_5) (Value.int v82na0_6) (Value.int v82na0_7) (Value.int v82na0_8) (Value.int v82na0_9) (Value.int v82na0_10) a0g_11 (Value.ref a0_12) a0g_14 a0g_15 (Value.ref a0_16) a0g_17 a0g_18 a0g_19 a0g_20 a0g_21 a0g_22 a0g_23 a0g_24 a0g_25 a0g_26 a0g_27 a0g_28 a0g_29 a0g_30 a0g_31 a0g_32 a0g_33 a0g_34 a0g_35 a0g_36 a0g_37 a0g_38 a0g_39 ) (cwV 0 hts gX8_readLine_X8_watcherLine rfl rfl rfl zd_X8_watcherLine ⟨Nat.le_of_ble_eq_true rfl, Nat.le_of_ble_eq_true rfl⟩) ⟨ax_blind (fun _ _ _ _ _ => trivial), zr_8 (zp_K hK) (zp_P1 hP) (q0 := 0) rfl, ax_pre (zp_P1 hP) (zp_K hK) (zp_D1 hD) (fun _ _ => trivial)⟩ rfl rfl hl.1 rfl (lv_room (Nat.le_of_ble_eq_true rfl)) dX8_readLine_89 ⟨Nat.le_of_ble_eq_true rfl, Nat.le_of_ble_eq_true rfl⟩) hS (fun q _ h => zp_F1 hD hS hA q h) (zp_F1 hD hS hA) (fun u t H locs ht hvm hw hB hz1 hk1 hS1 => zo1 hB ht hP hD hk1 (zp_F1 hD hS hA) hS1 (fun hP hK1 hD hS => ?_))
              refine lv_goto (tgt := 137) hx hb dX8_readLine_92 (by decide) ?_
              have hFe : FX = (v82na0_4.toInt, v82na0_5.toInt, v82na0_6.toInt, v82na0_7.toInt, v82na0_8.toInt, v82na0_9.toInt, v82na0_10.toInt, 1, (fl_A v82nfa0_12), (fl_A fa0_16)) := hF0
              exact W.vret hx hb hr (fun t ht hW => ⟨⟨(), rfl, trivial, v82na0_4, v82na0_5, v82na0_6, v82na0_7, v82na0_8, v82na0_9, v82na0_10, 1, v82nfa0_12, fa0_16, ⟨bv82na0_5.1, bv82na0_5.2⟩, ⟨bv82na0_8.1, bv82na0_8.2⟩, ⟨Int.le_trans (by decide) zq1, zq0⟩, bfa0_16, (Or.inl rfl), (em_t hraw51_1 hraw82_1), hFe, by rw [ht]; exact hP, va_K.moved hW.alike hK, hD⟩, hS.F ht⟩) hS.2.2 dX8_readLine_137
            · obtain ⟨hw, huh82, h82⟩ := hw
              subst hw
              subst huh82
              exact absurd h82.1 (by decide)
          · have gc74 := ai_nle c74
            have u74f_x72 : x72.toInt ≤ (2 : Int) := ai_lthi gc74 zq9
            have hF0 := hF0.trans (if_neg (show ¬ (3 ≤ x72.toInt) from Int.not_le.mpr gc74))
            refine lv_iconst (v := 1) hx hb dX8_readLine_77 zk_iconst_1 ?_
            refine lv_goto (tgt := 82) hx hb dX8_readLine_78 (by decide) ?_
            have hKc := hK.sub (tys' := [(ka0_12, .int), (ka0_16, .int), (ka0_1, .int)]) [0, 1, 2] rfl
            refine va_calli (va_runV (As := [.ref (ad 21), .int 1]) (rest := []) ⟨hx, hb, hml, hown, hts⟩ (fG_X8_begins l dC dI H.size a0 (ad 21) 1 a0g_0 a0g_2 a0g_11 a0g_14 a0g_15 a0g_17 a0g_18 a0g_19 a0g_20 a0g_21 a0g_22 a0g_23 a0g_24 a0g_25 a0g_26 a0g_27 a0g_28 a0g_29 a0g_30 a0g_31 a0g_32 a0g_33 a0g_34 a0g_35 a0g_36 a0g_37 a0g_38 a0g_39 a0_1 a0_3 v51na0_4 v51na0_5 v51na0_6 v51na0_7 v51na0_8 v51na0_9 v51na0_10 a0_12 a0_16 ka0_12 v51nfa0_12 ka0_16 fa0_16 ka0_1 fa0_1 7 (sxc 21) (Int.le_trans zq4 zq1) zq0 ba0_3_l ba0_3_u bv51na0_5.1 bv51na0_5.2 bv51na0_8.1 bv51na0_8.2 bfa0_16 hraw51_0) (cwV 2 hts gX8_readLine_X8_begins rfl rfl rfl zd_X8_begins ⟨Nat.le_of_ble_eq_true rfl, Nat.le_of_ble_eq_true rfl⟩) ⟨ax_blind (fun _ _ _ _ hq => sxc_W_same _ _ _ _ (hq)), zr_8 hKc (zp_P4 hP) (q0 := 0) rfl, ax_preE (zp_P4 hP) hKc (zp_D4 hD) (fun U hU hW => sxc_W_to (sxc_T_w hE0 (i := 21) (by decide)) hS.2.1 (zp_F4 hD hS hA) hU hW)⟩ rfl rfl hl.1 rfl (lv_room (Nat.le_of_ble_eq_true rfl)) dX8_readLine_82 ⟨Nat.le_of_ble_eq_true rfl, Nat.le_of_ble_eq_true rfl⟩) hS (fun q _ h => zp_F4 hD hS hA q h) (zp_F4 hD hS hA) (fun r82 v82na0_13 t H1 locs ht hvm hw => zx_8 (fun v82na0_4 v82na0_5 v82na0_6 v82na0_7 v82na0_8 v82na0_9 v82na0_10 v82nfa0_12 => zy_6 (fun bv82na0_5 bv82na0_8 bv82na0_13 hraw82_0 hraw82_1 hraw82_2 hB hz1 hk1 hS1 => zo4 hB ht hP hD hk1 (zp_F4 hD hS hA) hS1 (fun hP hK1 hD hS => ?_))))
            generalize H1 = H at hP hS ⊢
            obtain ⟨hw, hfr82⟩ := hw
            rw [show (1 : Int32).toInt = 1 from by decide, show ((7 : Nat) : Int) = 7 from rfl] at hfr82 hraw82_2
            have hc82 : FfG_X8_begins 1 a0_3.toInt v51na0_4.toInt v51na0_5.toInt v51na0_6.toInt v51na0_7.toInt v51na0_8.toInt v51na0_9.toInt v51na0_10.toInt (fl_A v51nfa0_12) (fl_A fa0_16) (fl_A fa0_1) 7 (fl_A (sxc 21)) = (r82.toInt, v82na0_4.toInt, v82na0_5.toInt, v82na0_6.toInt, v82na0_7.toInt, v82na0_8.toInt, v82na0_9.toInt, v82na0_10.toInt, v82na0_13.toInt, (fl_A v82nfa0_12)) := Prod.ext hfr82.symm hraw82_2
            have hF0 := hF0.trans (fl_c10_eq hc82)
            rcases hw with hw | hw | hw
            · obtain ⟨hw, huh82⟩ := hw
              subst hw
              subst huh82
              have hF0 := hF0.trans (if_pos (by decide))
              refine lv_if_eq (tgt := 95) hx hb dX8_readLine_85 (by decide) (fun _ => ?_) (fun c85 => absurd (by decide +kernel) c85)
              refine lv_aload_n hx hb dX8_readLine_95 rfl (lv_at hl 0 rfl) ?_
              refine va_ldcS hx hb hown (sxc_R22 hE0) dX8_readLine_96 ?_
              refine lv_aload_n hx hb dX8_readLine_98 rfl (lv_at hl 0 rfl) ?_
              refine va_get (D := (dC, dI)) (ci := 8) (v := .ref a0_16) (C := RX8) (T := TX8) (N := 40) hx hb hts zi_X8_readLine_8 hown hK hP 0 rfl rfl 16 (by decide) (hts (.fieldLink RX8 23 "WaxTurnsModel" "fresh" "[I") (zm_X8_readLine_r1 (List.mem_of_getElem? (i := 0) rfl))) (fun _ h9 => h9) rfl dX8_readLine_99 ?_
              refine lv_bipush (v := 6) hx hb dX8_readLine_102 zk_bipush_6 ?_
              refine va_iald hx hb hK hP 2 1 rfl rfl (by unfold vp_in; decide +kernel) dX8_readLine_104 ?_
              refine lv_topi (fun x104 ex104 => ?_)
              have bx104 : (0 : Int) ≤ x104.toInt ∧ x104.toInt ≤ 6 := by rw [ex104]; exact ai_rd bfa0_16.2.2.2.2.2.2.1 zq15 zq16 (by decide) (by decide) (by decide)
              have fqx104 := congrArg Int32.toInt ex104
              have hF0 := hF0.trans (fl_lt_eq (show x104.toInt = (fl_A fa0_16) (6) from fqx104))
              refine lv_bipush (v := 6) hx hb dX8_readLine_105 zk_bipush_6 ?_
              refine lv_icmp_ge (tgt := 114) hx hb dX8_readLine_107 (by decide) (fun c107 => ?_) (fun c107 => ?_)
              · have gc107 := ai_le c107
                have l107t_x104 : (6 : Int) ≤ x104.toInt := Int.le_trans zq15 gc107
                have hF0 := hF0.trans (if_pos (show 6 ≤ x104.toInt from gc107))
                refine lv_iconst (v := 0) hx hb dX8_readLine_114 zk_iconst_0 ?_
                have hKc := hK.sub (tys' := [(ka0_12, .int), (ka0_16, .int), (ka0_1, .int)]) [0, 1, 2] rfl
                refine va_calli (va_runV (As := [.ref (ad 22), .int 0]) (rest := []) ⟨hx, hb, hml, hown, hts⟩ (fG_X8_begins l dC dI H.size a0 (ad 22) 0 a0g_0 a0g_2 a0g_11 a0g_14 a0g_15 a0g_17 a0g_18 a0g_19 a0g_20 a0g_21 a0g_22 a0g_23 a0g_24 a0g_25 a0g_26 a0g_27 a0g_28 a0g_29 a0g_30 a0g_31 a0g_32 a0g_33 a0g_34 a0g_35 a0g_36 a0g_37 a0g_38 a0g_39 a0_1 a0_3 v82na0_4 v82na0_5 v82na0_6 v82na0_7 v82na0_8 v82na0_9 v82na0_10 a0_12 a0_16 ka0_12 v82nfa0_12 ka0_16 fa0_16 ka0_1 fa0_1 4 (sxc 22) zq5 (Int.le_trans zq6 zq4) ba0_3_l ba0_3_u bv82na0_5.1 bv82na0_5.2 bv82na0_8.1 bv82na0_8.2 bfa0_16 hraw82_0) (cwV 2 hts gX8_readLine_X8_begins rfl rfl rfl zd_X8_begins ⟨Nat.le_of_ble_eq_true rfl, Nat.le_of_ble_eq_true rfl⟩) ⟨ax_blind (fun _ _ _ _ hq => sxc_W_same _ _ _ _ (hq)), zr_8 hKc (zp_P4 hP) (q0 := 0) rfl, ax_preE (zp_P4 hP) hKc (zp_D4 hD) (fun U hU hW => sxc_W_to (sxc_T_w hE0 (i := 22) (by decide)) hS.2.1 (zp_F4 hD hS hA) hU hW)⟩ rfl rfl hl.1 rfl (lv_room (Nat.le_of_ble_eq_true rfl)) dX8_readLine_115 ⟨Nat.le_of_ble_eq_true rfl, Nat.le_of_ble_eq_true rfl⟩) hS (fun q _ h => zp_F4 hD hS hA q h) (zp_F4 hD hS hA) (fun r115 v115na0_13 t H1 locs ht hvm hw => zx_8 (fun v115na0_4 v115na0_5 v115na0_6 v115na0_7 v115na0_8 v115na0_9 v115na0_10 v115nfa0_12 => zy_6 (fun bv115na0_5 bv115na0_8 bv115na0_13 hraw115_0 hraw115_1 hraw115_2 hB hz1 hk1 hS1 => zo4 hB ht hP hD hk1 (zp_F4 hD hS hA) hS1 (fun hP hK1 hD hS => ?_))))
                generalize H1 = H at hP hS ⊢
                obtain ⟨hw, hfr115⟩ := hw
                rw [show (0 : Int32).toInt = 0 from by decide, show ((4 : Nat) : Int) = 4 from rfl] at hfr115 hraw115_2
                have hc115 : FfG_X8_begins 0 a0_3.toInt v82na0_4.toInt v82na0_5.toInt v82na0_6.toInt v82na0_7.toInt v82na0_8.toInt v82na0_9.toInt v82na0_10.toInt (fl_A v82nfa0_12) (fl_A fa0_16) (fl_A fa0_1) 4 (fl_A (sxc 22)) = (r115.toInt, v115na0_4.toInt, v115na0_5.toInt, v115na0_6.toInt, v115na0_7.toInt, v115na0_8.toInt, v115na0_9.toInt, v115na0_10.toInt, v115na0_13.toInt, (fl_A v115nfa0_12)) := Prod.ext hfr115.symm hraw115_2
                have hF0 := hF0.trans (fl_c10_eq hc115)
                rcases hw with hw | hw | hw
                · obtain ⟨hw, huh115⟩ := hw
                  subst hw
                  subst huh115
                  have hF0 := hF0.trans (if_pos (by decide))
                  refine lv_if_eq (tgt := 128) hx hb dX8_readLine_118 (by decide) (fun _ => ?_) (fun c118 => absurd (by decide +kernel) c118)
                  refine lv_aload_n hx hb dX8_readLine_128 rfl (lv_at hl 0 rfl) ?_
                  refine lv_iconst (v := 1) hx hb dX8_readLine_129 zk_iconst_1 ?_
                  refine lv_aload_n hx hb dX8_readLine_130 rfl (lv_at hl 0 rfl) ?_
                  refine va_get (D := (dC, dI)) (ci := 8) (v := .int v115na0_4) (C := RX8) (T := TX8) (N := 40) hx hb hts zi_X8_readLine_8 hown hK hP 0 rfl rfl 4 (by decide) (hts (.fieldLink RX8 78 "WaxTurnsModel" "at" "I") (zm_X8_readLine_r1 (List.mem_of_getElem? (i := 1) rfl))) (fun _ h9 => h9) rfl dX8_readLine_131 ?_
                  refine va_callv (va_runV (As := [.int 1, .int v115na0_4]) (rest := []) ⟨hx, hb, hml, hown, hts⟩ (fG_X8_wrong l dC dI H.size a0 1 v115na0_4 a0g_0 (Value.ref a0_1) a0g_2 (Value.int a0_3) (Value.int v115na0_4) (Value.int v115na0_5) (Value.int v115na0_6) (Value.int v115na0_7) (Value.int v115na0_8) a0g_11 (Value.ref a0_12) a0g_14 a0g_15 (Value.ref a0_16) a0g_17 a0g_18 a0g_19 a0g_20 a0g_21 a0g_22 a0g_23 a0g_24 a0g_25 a0g_26 a0g_27 a0g_28 a0g_29 a0g_30 a0g_31 a0g_32 a0g_33 a0g_34 a0g_35 a0g_36 a0g_37 a0g_38 a0g_39 v115na0_9 v115na0_10 ) (cwV 2 hts gX8_readLine_X8_wrong rfl rfl rfl zd_X8_wrong ⟨Nat.le_of_ble_eq_true rfl, Nat.le_of_ble_eq_true rfl⟩) ⟨ax_blind (fun _ _ _ _ _ => trivial), zr_8 (zp_K hK) (zp_P1 hP) (q0 := 0) rfl, ax_pre (zp_P1 hP) (zp_K hK) (zp_D1 hD) (fun _ _ => trivial)⟩ rfl rfl hl.1 rfl (lv_room (Nat.le_of_ble_eq_true rfl)) dX8_readLine_134 ⟨Nat.le_of_ble_eq_true rfl, Nat.le_of_ble_eq_true rfl⟩) hS (fun q _ h => zp_F1 hD hS hA q h) (zp_F1 hD hS hA) (fun u t H locs ht hvm hw => zx_2 (fun v134na0_9 v134na0_10 => zy_1 (fun hraw134_0 hB hz1 hk1 hS1 => zo1 hB ht hP hD hk1 (zp_F1 hD hS hA) hS1 (fun hP hK1 hD hS => ?_))))
                  rw [show (1 : Int32).toInt = 1 from by decide] at hraw134_0
                  have hc134 : FfG_X8_wrong 1 v115na0_4.toInt = (v134na0_9.toInt, v134na0_10.toInt) := hraw134_0
                  have hF0 := hF0.trans (fl_c2_eq hc134)
                  have hFe : FX = (v115na0_4.toInt, v115na0_5.toInt, v115na0_6.toInt, v115na0_7.toInt, v115na0_8.toInt, v134na0_9.toInt, v134na0_10.toInt, 1, (fl_A v115nfa0_12), (fl_A fa0_16)) := hF0
                  exact W.vret hx hb hr (fun t ht hW => ⟨⟨(), rfl, trivial, v115na0_4, v115na0_5, v115na0_6, v115na0_7, v115na0_8, v134na0_9, v134na0_10, 1, v115nfa0_12, fa0_16, ⟨bv115na0_5.1, bv115na0_5.2⟩, ⟨bv115na0_8.1, bv115na0_8.2⟩, ⟨Int.le_trans (by decide) zq1, zq0⟩, bfa0_16, (Or.inl rfl), (em_t hraw51_1 (em_t hraw82_1 hraw115_1)), hFe, by rw [ht]; exact hP, va_K.moved hW.alike hK, hD⟩, hS.F ht⟩) hS.2.2 dX8_readLine_137
                · obtain ⟨hw, huh115⟩ := hw
                  subst hw
                  subst huh115
                  have hF0 := hF0.trans (if_neg (by decide))
                  have hF0 := hF0.trans (if_pos (by decide))
                  refine lv_if_eq (tgt := 128) hx hb dX8_readLine_118 (by decide) (fun c118 => absurd c118 (by decide +kernel)) (fun _ => ?_)
                  refine lv_aload_n hx hb dX8_readLine_121 rfl (lv_at hl 0 rfl) ?_
                  refine va_callv (va_runV (As := []) (rest := []) ⟨hx, hb, hml, hown, hts⟩ (fF_X8_seenLine l dC dI H.size a0 a0g_0 (Value.ref a0_1) a0g_2 (Value.int a0_3) (Value.int v115na0_4) (Value.int v115na0_5) (Value.int v115na0_6) (Value.int v115na0_7) (Value.int v115na0_8) (Value.int v115na0_9) (Value.int v115na0_10) a0g_11 (Value.ref a0_12) a0g_14 a0g_15 (Value.ref a0_16) a0g_17 a0g_18 a0g_19 a0g_20 a0g_21 a0g_22 a0g_23 a0g_24 a0g_25 a0g_26 a0g_27 a0g_28 a0g_29 a0g_30 a0g_31 a0g_32 a0g_33 a0g_34 a0g_35 a0g_36 a0g_37 a0g_38 a0g_39 ) (cwV 0 hts gX8_readLine_X8_seenLine rfl rfl rfl zd_X8_seenLine ⟨Nat.le_of_ble_eq_true rfl, Nat.le_of_ble_eq_true rfl⟩) ⟨ax_blind (fun _ _ _ _ _ => trivial), zr_8 (zp_K hK) (zp_P1 hP) (q0 := 0) rfl, ax_pre (zp_P1 hP) (zp_K hK) (zp_D1 hD) (fun _ _ => trivial)⟩ rfl rfl hl.1 rfl (lv_room (Nat.le_of_ble_eq_true rfl)) dX8_readLine_122 ⟨Nat.le_of_ble_eq_true rfl, Nat.le_of_ble_eq_true rfl⟩) hS (fun q _ h => zp_F1 hD hS hA q h) (zp_F1 hD hS hA) (fun u t H locs ht hvm hw hB hz1 hk1 hS1 => zo1 hB ht hP hD hk1 (zp_F1 hD hS hA) hS1 (fun hP hK1 hD hS => ?_))
                  refine lv_goto (tgt := 137) hx hb dX8_readLine_125 (by decide) ?_
                  have hFe : FX = (v115na0_4.toInt, v115na0_5.toInt, v115na0_6.toInt, v115na0_7.toInt, v115na0_8.toInt, v115na0_9.toInt, v115na0_10.toInt, 1, (fl_A v115nfa0_12), (fl_A fa0_16)) := hF0
                  exact W.vret hx hb hr (fun t ht hW => ⟨⟨(), rfl, trivial, v115na0_4, v115na0_5, v115na0_6, v115na0_7, v115na0_8, v115na0_9, v115na0_10, 1, v115nfa0_12, fa0_16, ⟨bv115na0_5.1, bv115na0_5.2⟩, ⟨bv115na0_8.1, bv115na0_8.2⟩, ⟨Int.le_trans (by decide) zq1, zq0⟩, bfa0_16, (Or.inl rfl), (em_t hraw51_1 (em_t hraw82_1 hraw115_1)), hFe, by rw [ht]; exact hP, va_K.moved hW.alike hK, hD⟩, hS.F ht⟩) hS.2.2 dX8_readLine_137
                · obtain ⟨hw, huh115, h115⟩ := hw
                  subst hw
                  subst huh115
                  exact absurd h115.1 (by decide)
              · have gc107 := ai_nle c107
                have u107f_x104 : x104.toInt ≤ (5 : Int) := ai_lthi gc107 zq16
                have hF0 := hF0.trans (if_neg (show ¬ (6 ≤ x104.toInt) from Int.not_le.mpr gc107))
                refine lv_iconst (v := 1) hx hb dX8_readLine_110 zk_iconst_1 ?_
                refine lv_goto (tgt := 115) hx hb dX8_readLine_111 (by decide) ?_
                have hKc := hK.sub (tys' := [(ka0_12, .int), (ka0_16, .int), (ka0_1, .int)]) [0, 1, 2] rfl
                refine va_calli (va_runV (As := [.ref (ad 22), .int 1]) (rest := []) ⟨hx, hb, hml, hown, hts⟩ (fG_X8_begins l dC dI H.size a0 (ad 22) 1 a0g_0 a0g_2 a0g_11 a0g_14 a0g_15 a0g_17 a0g_18 a0g_19 a0g_20 a0g_21 a0g_22 a0g_23 a0g_24 a0g_25 a0g_26 a0g_27 a0g_28 a0g_29 a0g_30 a0g_31 a0g_32 a0g_33 a0g_34 a0g_35 a0g_36 a0g_37 a0g_38 a0g_39 a0_1 a0_3 v82na0_4 v82na0_5 v82na0_6 v82na0_7 v82na0_8 v82na0_9 v82na0_10 a0_12 a0_16 ka0_12 v82nfa0_12 ka0_16 fa0_16 ka0_1 fa0_1 4 (sxc 22) (Int.le_trans zq4 zq1) zq0 ba0_3_l ba0_3_u bv82na0_5.1 bv82na0_5.2 bv82na0_8.1 bv82na0_8.2 bfa0_16 hraw82_0) (cwV 2 hts gX8_readLine_X8_begins rfl rfl rfl zd_X8_begins ⟨Nat.le_of_ble_eq_true rfl, Nat.le_of_ble_eq_true rfl⟩) ⟨ax_blind (fun _ _ _ _ hq => sxc_W_same _ _ _ _ (hq)), zr_8 hKc (zp_P4 hP) (q0 := 0) rfl, ax_preE (zp_P4 hP) hKc (zp_D4 hD) (fun U hU hW => sxc_W_to (sxc_T_w hE0 (i := 22) (by decide)) hS.2.1 (zp_F4 hD hS hA) hU hW)⟩ rfl rfl hl.1 rfl (lv_room (Nat.le_of_ble_eq_true rfl)) dX8_readLine_115 ⟨Nat.le_of_ble_eq_true rfl, Nat.le_of_ble_eq_true rfl⟩) hS (fun q _ h => zp_F4 hD hS hA q h) (zp_F4 hD hS hA) (fun r115 v115na0_13 t H1 locs ht hvm hw => zx_8 (fun v115na0_4 v115na0_5 v115na0_6 v115na0_7 v115na0_8 v115na0_9 v115na0_10 v115nfa0_12 => zy_6 (fun bv115na0_5 bv115na0_8 bv115na0_13 hraw115_0 hraw115_1 hraw115_2 hB hz1 hk1 hS1 => zo4 hB ht hP hD hk1 (zp_F4 hD hS hA) hS1 (fun hP hK1 hD hS => ?_))))
                generalize H1 = H at hP hS ⊢
                obtain ⟨hw, hfr115⟩ := hw
                rw [show (1 : Int32).toInt = 1 from by decide, show ((4 : Nat) : Int) = 4 from rfl] at hfr115 hraw115_2
                have hc115 : FfG_X8_begins 1 a0_3.toInt v82na0_4.toInt v82na0_5.toInt v82na0_6.toInt v82na0_7.toInt v82na0_8.toInt v82na0_9.toInt v82na0_10.toInt (fl_A v82nfa0_12) (fl_A fa0_16) (fl_A fa0_1) 4 (fl_A (sxc 22)) = (r115.toInt, v115na0_4.toInt, v115na0_5.toInt, v115na0_6.toInt, v115na0_7.toInt, v115na0_8.toInt, v115na0_9.toInt, v115na0_10.toInt, v115na0_13.toInt, (fl_A v115nfa0_12)) := Prod.ext hfr115.symm hraw115_2
                have hF0 := hF0.trans (fl_c10_eq hc115)
                rcases hw with hw | hw | hw
                · obtain ⟨hw, huh115⟩ := hw
                  subst hw
                  subst huh115
                  have hF0 := hF0.trans (if_pos (by decide))
                  refine lv_if_eq (tgt := 128) hx hb dX8_readLine_118 (by decide) (fun _ => ?_) (fun c118 => absurd (by decide +kernel) c118)
                  refine lv_aload_n hx hb dX8_readLine_128 rfl (lv_at hl 0 rfl) ?_
                  refine lv_iconst (v := 1) hx hb dX8_readLine_129 zk_iconst_1 ?_
                  refine lv_aload_n hx hb dX8_readLine_130 rfl (lv_at hl 0 rfl) ?_
                  refine va_get (D := (dC, dI)) (ci := 8) (v := .int v115na0_4) (C := RX8) (T := TX8) (N := 40) hx hb hts zi_X8_readLine_8 hown hK hP 0 rfl rfl 4 (by decide) (hts (.fieldLink RX8 78 "WaxTurnsModel" "at" "I") (zm_X8_readLine_r1 (List.mem_of_getElem? (i := 1) rfl))) (fun _ h9 => h9) rfl dX8_readLine_131 ?_
                  refine va_callv (va_runV (As := [.int 1, .int v115na0_4]) (rest := []) ⟨hx, hb, hml, hown, hts⟩ (fG_X8_wrong l dC dI H.size a0 1 v115na0_4 a0g_0 (Value.ref a0_1) a0g_2 (Value.int a0_3) (Value.int v115na0_4) (Value.int v115na0_5) (Value.int v115na0_6) (Value.int v115na0_7) (Value.int v115na0_8) a0g_11 (Value.ref a0_12) a0g_14 a0g_15 (Value.ref a0_16) a0g_17 a0g_18 a0g_19 a0g_20 a0g_21 a0g_22 a0g_23 a0g_24 a0g_25 a0g_26 a0g_27 a0g_28 a0g_29 a0g_30 a0g_31 a0g_32 a0g_33 a0g_34 a0g_35 a0g_36 a0g_37 a0g_38 a0g_39 v115na0_9 v115na0_10 ) (cwV 2 hts gX8_readLine_X8_wrong rfl rfl rfl zd_X8_wrong ⟨Nat.le_of_ble_eq_true rfl, Nat.le_of_ble_eq_true rfl⟩) ⟨ax_blind (fun _ _ _ _ _ => trivial), zr_8 (zp_K hK) (zp_P1 hP) (q0 := 0) rfl, ax_pre (zp_P1 hP) (zp_K hK) (zp_D1 hD) (fun _ _ => trivial)⟩ rfl rfl hl.1 rfl (lv_room (Nat.le_of_ble_eq_true rfl)) dX8_readLine_134 ⟨Nat.le_of_ble_eq_true rfl, Nat.le_of_ble_eq_true rfl⟩) hS (fun q _ h => zp_F1 hD hS hA q h) (zp_F1 hD hS hA) (fun u t H locs ht hvm hw => zx_2 (fun v134na0_9 v134na0_10 => zy_1 (fun hraw134_0 hB hz1 hk1 hS1 => zo1 hB ht hP hD hk1 (zp_F1 hD hS hA) hS1 (fun hP hK1 hD hS => ?_))))
                  rw [show (1 : Int32).toInt = 1 from by decide] at hraw134_0
                  have hc134 : FfG_X8_wrong 1 v115na0_4.toInt = (v134na0_9.toInt, v134na0_10.toInt) := hraw134_0
                  have hF0 := hF0.trans (fl_c2_eq hc134)
                  have hFe : FX = (v115na0_4.toInt, v115na0_5.toInt, v115na0_6.toInt, v115na0_7.toInt, v115na0_8.toInt, v134na0_9.toInt, v134na0_10.toInt, 1, (fl_A v115nfa0_12), (fl_A fa0_16)) := hF0
                  exact W.vret hx hb hr (fun t ht hW => ⟨⟨(), rfl, trivial, v115na0_4, v115na0_5, v115na0_6, v115na0_7, v115na0_8, v134na0_9, v134na0_10, 1, v115nfa0_12, fa0_16, ⟨bv115na0_5.1, bv115na0_5.2⟩, ⟨bv115na0_8.1, bv115na0_8.2⟩, ⟨Int.le_trans (by decide) zq1, zq0⟩, bfa0_16, (Or.inl rfl), (em_t hraw51_1 (em_t hraw82_1 hraw115_1)), hFe, by rw [ht]; exact hP, va_K.moved hW.alike hK, hD⟩, hS.F ht⟩) hS.2.2 dX8_readLine_137
                · obtain ⟨hw, huh115⟩ := hw
                  subst hw
                  subst huh115
                  have hF0 := hF0.trans (if_neg (by decide))
                  have hF0 := hF0.trans (if_pos (by decide))
                  refine lv_if_eq (tgt := 128) hx hb dX8_readLine_118 (by decide) (fun c118 => absurd c118 (by decide +kernel)) (fun _ => ?_)
                  refine lv_aload_n hx hb dX8_readLine_121 rfl (lv_at hl 0 rfl) ?_
                  refine va_callv (va_runV (As := []) (rest := []) ⟨hx, hb, hml, hown, hts⟩ (fF_X8_seenLine l dC dI H.size a0 a0g_0 (Value.ref a0_1) a0g_2 (Value.int a0_3) (Value.int v115na0_4) (Value.int v115na0_5) (Value.int v115na0_6) (Value.int v115na0_7) (Value.int v115na0_8) (Value.int v115na0_9) (Value.int v115na0_10) a0g_11 (Value.ref a0_12) a0g_14 a0g_15 (Value.ref a0_16) a0g_17 a0g_18 a0g_19 a0g_20 a0g_21 a0g_22 a0g_23 a0g_24 a0g_25 a0g_26 a0g_27 a0g_28 a0g_29 a0g_30 a0g_31 a0g_32 a0g_33 a0g_34 a0g_35 a0g_36 a0g_37 a0g_38 a0g_39 ) (cwV 0 hts gX8_readLine_X8_seenLine rfl rfl rfl zd_X8_seenLine ⟨Nat.le_of_ble_eq_true rfl, Nat.le_of_ble_eq_true rfl⟩) ⟨ax_blind (fun _ _ _ _ _ => trivial), zr_8 (zp_K hK) (zp_P1 hP) (q0 := 0) rfl, ax_pre (zp_P1 hP) (zp_K hK) (zp_D1 hD) (fun _ _ => trivial)⟩ rfl rfl hl.1 rfl (lv_room (Nat.le_of_ble_eq_true rfl)) dX8_readLine_122 ⟨Nat.le_of_ble_eq_true rfl, Nat.le_of_ble_eq_true rfl⟩) hS (fun q _ h => zp_F1 hD hS hA q h) (zp_F1 hD hS hA) (fun u t H locs ht hvm hw hB hz1 hk1 hS1 => zo1 hB ht hP hD hk1 (zp_F1 hD hS hA) hS1 (fun hP hK1 hD hS => ?_))
                  refine lv_goto (tgt := 137) hx hb dX8_readLine_125 (by decide) ?_
                  have hFe : FX = (v115na0_4.toInt, v115na0_5.toInt, v115na0_6.toInt, v115na0_7.toInt, v115na0_8.toInt, v115na0_9.toInt, v115na0_10.toInt, 1, (fl_A v115nfa0_12), (fl_A fa0_16)) := hF0
                  exact W.vret hx hb hr (fun t ht hW => ⟨⟨(), rfl, trivial, v115na0_4, v115na0_5, v115na0_6, v115na0_7, v115na0_8, v115na0_9, v115na0_10, 1, v115nfa0_12, fa0_16, ⟨bv115na0_5.1, bv115na0_5.2⟩, ⟨bv115na0_8.1, bv115na0_8.2⟩, ⟨Int.le_trans (by decide) zq1, zq0⟩, bfa0_16, (Or.inl rfl), (em_t hraw51_1 (em_t hraw82_1 hraw115_1)), hFe, by rw [ht]; exact hP, va_K.moved hW.alike hK, hD⟩, hS.F ht⟩) hS.2.2 dX8_readLine_137
                · obtain ⟨hw, huh115, h115⟩ := hw
                  subst hw
                  subst huh115
                  have hF0 := hF0.trans (if_neg (by decide))
                  have hF0 := hF0.trans (if_neg (by decide))
                  refine lv_if_eq (tgt := 128) hx hb dX8_readLine_118 (by decide) (fun c118 => absurd c118 (by decide +kernel)) (fun _ => ?_)
                  refine lv_aload_n hx hb dX8_readLine_121 rfl (lv_at hl 0 rfl) ?_
                  refine zc_cutc (wc := [(a0, .inr (8, [a0g_0, Value.ref a0_1, a0g_2, Value.int a0_3, Value.int v115na0_4, Value.int v115na0_5, Value.int v115na0_6, Value.int v115na0_7, Value.int v115na0_8, Value.int v115na0_9, Value.int v115na0_10, a0g_11, Value.ref a0_12, Value.int 0, a0g_14, a0g_15, Value.ref a0_16, a0g_17, a0g_18, a0g_19, a0g_20, a0g_21, a0g_22, a0g_23, a0g_24, a0g_25, a0g_26, a0g_27, a0g_28, a0g_29, a0g_30, a0g_31, a0g_32, a0g_33, a0g_34, a0g_35, a0g_36, a0g_37, a0g_38, a0g_39])), (a0_16, .inl (ka0_16, 156, .inl (fa0_16))), (a0_1, .inl (ka0_1, 900, .inl (fa0_1))), (a0_12, .inl (ka0_12, 8, .inl (v115nfa0_12)))]) hP hD hS hA [0, 2, 3, 1] (by decide +kernel) rfl (fun hPc hDc hFc hCc => ?_)
                  have hKc := hK.sub (tys' := [(ka0_16, .int), (ka0_1, .int), (ka0_12, .int)]) [1, 2, 0] rfl
                  refine va_callv (va_runV (As := []) (rest := []) ⟨hx, hb, hml, hown, hts⟩ (fG_X8_seenLine l dC dI H.size a0 a0g_0 a0g_2 a0g_11 a0g_14 a0g_15 a0g_17 a0g_18 a0g_19 a0g_20 a0g_21 a0g_22 a0g_23 a0g_24 a0g_25 a0g_26 a0g_27 a0g_28 a0g_29 a0g_30 a0g_31 a0g_32 a0g_33 a0g_34 a0g_35 a0g_36 a0g_37 a0g_38 a0g_39 a0_1 a0_3 v115na0_4 v115na0_5 v115na0_6 v115na0_7 v115na0_8 v115na0_9 v115na0_10 a0_12 a0_16 ka0_16 fa0_16 ka0_1 fa0_1 ka0_12 v115nfa0_12 ad ba0_3_l ba0_3_u bv115na0_5.1 bv115na0_5.2 bv115na0_8.1 bv115na0_8.2 bfa0_16 (by have h1 := u107f_x104; rw [ex104] at h1; exact h1)) (cwV 0 hts gX8_readLine_X8_seenLine rfl rfl rfl zd_X8_seenLine ⟨Nat.le_of_ble_eq_true rfl, Nat.le_of_ble_eq_true rfl⟩) ⟨ax_blind (fun _ _ _ _ hq => sxc_T_same _ _ _ _ (hq)), zr_8 hKc hPc (q0 := 0) rfl, ax_preE hPc hKc hDc (fun U hU hW => sxc_T_to hE0 hS.2.1 hFc hU hW)⟩ rfl rfl hl.1 rfl (lv_room (Nat.le_of_ble_eq_true rfl)) dX8_readLine_122 ⟨Nat.le_of_ble_eq_true rfl, Nat.le_of_ble_eq_true rfl⟩) hS (fun q _ h => hFc q h) hFc (fun u t H locs ht hvm hw => zx_10 (fun v122na0_4 v122na0_5 v122na0_6 v122na0_7 v122na0_8 v122na0_9 v122na0_10 v122na0_13 v122nfa0_16 v122nfa0_12 => zy_7 (fun bv122na0_5 bv122na0_8 bv122na0_13 bv122nfa0_16 hraw122_0 hraw122_1 hraw122_2 hB hz1 hk1 hS1 => zo hB ht hS1 (fun hP1 hK1 hD1 hS => ?_))))
                  refine zc_backc (w := [(a0, .inr (8, [a0g_0, Value.ref a0_1, a0g_2, Value.int a0_3, Value.int v122na0_4, Value.int v122na0_5, Value.int v122na0_6, Value.int v122na0_7, Value.int v122na0_8, Value.int v122na0_9, Value.int v122na0_10, a0g_11, Value.ref a0_12, Value.int v122na0_13, a0g_14, a0g_15, Value.ref a0_16, a0g_17, a0g_18, a0g_19, a0g_20, a0g_21, a0g_22, a0g_23, a0g_24, a0g_25, a0g_26, a0g_27, a0g_28, a0g_29, a0g_30, a0g_31, a0g_32, a0g_33, a0g_34, a0g_35, a0g_36, a0g_37, a0g_38, a0g_39])), (a0_12, .inl (ka0_12, 8, .inl (v122nfa0_12))), (a0_16, .inl (ka0_16, 156, .inl (v122nfa0_16))), (a0_1, .inl (ka0_1, 900, .inl (fa0_1)))]) hP hD hCc hk1 hFc hP1 hD1 [.inr 0, .inr 3, .inr 1, .inr 2] (by decide +kernel) rfl (fun hP hD => ?_)
                  have hc122 : FfG_X8_seenLine a0_3.toInt v115na0_4.toInt v115na0_5.toInt v115na0_6.toInt v115na0_7.toInt v115na0_8.toInt v115na0_9.toInt v115na0_10.toInt (fl_A fa0_16) (fl_A fa0_1) (fl_A v115nfa0_12) = (v122na0_4.toInt, v122na0_5.toInt, v122na0_6.toInt, v122na0_7.toInt, v122na0_8.toInt, v122na0_9.toInt, v122na0_10.toInt, v122na0_13.toInt, (fl_A v122nfa0_16), (fl_A v122nfa0_12)) := hraw122_2
                  have hF0 := hF0.trans (fl_c10_eq hc122)
                  rcases hraw122_0 with hf122 | hf122
                  · subst hf122
                    have hF0 := hF0.trans (if_pos (by decide))
                    refine lv_goto (tgt := 137) hx hb dX8_readLine_125 (by decide) ?_
                    have hFe : FX = (v122na0_4.toInt, v122na0_5.toInt, v122na0_6.toInt, v122na0_7.toInt, v122na0_8.toInt, v122na0_9.toInt, v122na0_10.toInt, 1, (fl_A v122nfa0_12), (fl_A v122nfa0_16)) := hF0
                    exact W.vret hx hb hr (fun t ht hW => ⟨⟨(), rfl, trivial, v122na0_4, v122na0_5, v122na0_6, v122na0_7, v122na0_8, v122na0_9, v122na0_10, 1, v122nfa0_12, v122nfa0_16, ⟨bv122na0_5.1, bv122na0_5.2⟩, ⟨bv122na0_8.1, bv122na0_8.2⟩, ⟨Int.le_trans (by decide) zq1, zq0⟩, bv122nfa0_16, (Or.inl rfl), (em_t hraw51_1 (em_t hraw82_1 (em_t hraw115_1 hraw122_1))), hFe, by rw [ht]; exact hP, va_K.moved hW.alike hK, hD⟩, hS.F ht⟩) hS.2.2 dX8_readLine_137
                  · subst hf122
                    have hF0 := hF0.trans (if_neg (by decide))
                    refine lv_goto (tgt := 137) hx hb dX8_readLine_125 (by decide) ?_
                    have hFe : FX = (v122na0_4.toInt, v122na0_5.toInt, v122na0_6.toInt, v122na0_7.toInt, v122na0_8.toInt, v122na0_9.toInt, v122na0_10.toInt, 0, (fl_A v122nfa0_12), (fl_A v122nfa0_16)) := hF0
                    exact W.vret hx hb hr (fun t ht hW => ⟨⟨(), rfl, trivial, v122na0_4, v122na0_5, v122na0_6, v122na0_7, v122na0_8, v122na0_9, v122na0_10, 0, v122nfa0_12, v122nfa0_16, ⟨bv122na0_5.1, bv122na0_5.2⟩, ⟨bv122na0_8.1, bv122na0_8.2⟩, ⟨zq5, Int.le_trans zq6 (by decide)⟩, bv122nfa0_16, (Or.inr rfl), (em_t hraw51_1 (em_t hraw82_1 (em_t hraw115_1 hraw122_1))), hFe, by rw [ht]; exact hP, va_K.moved hW.alike hK, hD⟩, hS.F ht⟩) hS.2.2 dX8_readLine_137
            · obtain ⟨hw, huh82⟩ := hw
              subst hw
              subst huh82
              have hF0 := hF0.trans (if_neg (by decide))
              have hF0 := hF0.trans (if_pos (by decide))
              refine lv_if_eq (tgt := 95) hx hb dX8_readLine_85 (by decide) (fun c85 => absurd c85 (by decide +kernel)) (fun _ => ?_)
              refine lv_aload_n hx hb dX8_readLine_88 rfl (lv_at hl 0 rfl) ?_
              refine va_callv (va_runV (As := []) (rest := []) ⟨hx, hb, hml, hown, hts⟩ (fF_X8_watcherLine l dC dI H.size a0 a0g_0 (Value.ref a0_1) a0g_2 (Value.int a0_3) (Value.int v82na0_4) (Value.int v82na0_5) (Value.int v82na0_6) (Value.int v82na0_7) (Value.int v82na0_8) (Value.int v82na0_9) (Value.int v82na0_10) a0g_11 (Value.ref a0_12) a0g_14 a0g_15 (Value.ref a0_16) a0g_17 a0g_18 a0g_19 a0g_20 a0g_21 a0g_22 a0g_23 a0g_24 a0g_25 a0g_26 a0g_27 a0g_28 a0g_29 a0g_30 a0g_31 a0g_32 a0g_33 a0g_34 a0g_35 a0g_36 a0g_37 a0g_38 a0g_39 ) (cwV 0 hts gX8_readLine_X8_watcherLine rfl rfl rfl zd_X8_watcherLine ⟨Nat.le_of_ble_eq_true rfl, Nat.le_of_ble_eq_true rfl⟩) ⟨ax_blind (fun _ _ _ _ _ => trivial), zr_8 (zp_K hK) (zp_P1 hP) (q0 := 0) rfl, ax_pre (zp_P1 hP) (zp_K hK) (zp_D1 hD) (fun _ _ => trivial)⟩ rfl rfl hl.1 rfl (lv_room (Nat.le_of_ble_eq_true rfl)) dX8_readLine_89 ⟨Nat.le_of_ble_eq_true rfl, Nat.le_of_ble_eq_true rfl⟩) hS (fun q _ h => zp_F1 hD hS hA q h) (zp_F1 hD hS hA) (fun u t H locs ht hvm hw hB hz1 hk1 hS1 => zo1 hB ht hP hD hk1 (zp_F1 hD hS hA) hS1 (fun hP hK1 hD hS => ?_))
              refine lv_goto (tgt := 137) hx hb dX8_readLine_92 (by decide) ?_
              have hFe : FX = (v82na0_4.toInt, v82na0_5.toInt, v82na0_6.toInt, v82na0_7.toInt, v82na0_8.toInt, v82na0_9.toInt, v82na0_10.toInt, 1, (fl_A v82nfa0_12), (fl_A fa0_16)) := hF0
              exact W.vret hx hb hr (fun t ht hW => ⟨⟨(), rfl, trivial, v82na0_4, v82na0_5, v82na0_6, v82na0_7, v82na0_8, v82na0_9, v82na0_10, 1, v82nfa0_12, fa0_16, ⟨bv82na0_5.1, bv82na0_5.2⟩, ⟨bv82na0_8.1, bv82na0_8.2⟩, ⟨Int.le_trans (by decide) zq1, zq0⟩, bfa0_16, (Or.inl rfl), (em_t hraw51_1 hraw82_1), hFe, by rw [ht]; exact hP, va_K.moved hW.alike hK, hD⟩, hS.F ht⟩) hS.2.2 dX8_readLine_137
            · obtain ⟨hw, huh82, h82⟩ := hw
              subst hw
              subst huh82
              have hF0 := hF0.trans (if_neg (by decide))
              have hF0 := hF0.trans (if_neg (by decide))
              refine lv_if_eq (tgt := 95) hx hb dX8_readLine_85 (by decide) (fun c85 => absurd c85 (by decide +kernel)) (fun _ => ?_)
              refine lv_aload_n hx hb dX8_readLine_88 rfl (lv_at hl 0 rfl) ?_
              refine zc_cutc (wc := [(a0, .inr (8, [a0g_0, Value.ref a0_1, a0g_2, Value.int a0_3, Value.int v82na0_4, Value.int v82na0_5, Value.int v82na0_6, Value.int v82na0_7, Value.int v82na0_8, Value.int v82na0_9, Value.int v82na0_10, a0g_11, Value.ref a0_12, Value.int 0, a0g_14, a0g_15, Value.ref a0_16, a0g_17, a0g_18, a0g_19, a0g_20, a0g_21, a0g_22, a0g_23, a0g_24, a0g_25, a0g_26, a0g_27, a0g_28, a0g_29, a0g_30, a0g_31, a0g_32, a0g_33, a0g_34, a0g_35, a0g_36, a0g_37, a0g_38, a0g_39])), (a0_16, .inl (ka0_16, 156, .inl (fa0_16))), (a0_12, .inl (ka0_12, 8, .inl (v82nfa0_12))), (a0_1, .inl (ka0_1, 900, .inl (fa0_1)))]) hP hD hS hA [0, 2, 1, 3] (by decide +kernel) rfl (fun hPc hDc hFc hCc => ?_)
              have hKc := hK.sub (tys' := [(ka0_16, .int), (ka0_12, .int), (ka0_1, .int)]) [1, 0, 2] rfl
              refine va_callv (va_runV (As := []) (rest := []) ⟨hx, hb, hml, hown, hts⟩ (fG_X8_watcherLine l dC dI H.size a0 a0g_0 a0g_2 a0g_11 a0g_14 a0g_15 a0g_17 a0g_18 a0g_19 a0g_20 a0g_21 a0g_22 a0g_23 a0g_24 a0g_25 a0g_26 a0g_27 a0g_28 a0g_29 a0g_30 a0g_31 a0g_32 a0g_33 a0g_34 a0g_35 a0g_36 a0g_37 a0g_38 a0g_39 a0_1 a0_3 v82na0_4 v82na0_5 v82na0_6 v82na0_7 v82na0_8 v82na0_9 v82na0_10 a0_12 a0_16 ka0_16 fa0_16 ka0_12 v82nfa0_12 ka0_1 fa0_1 ad ba0_3_l ba0_3_u bv82na0_5.1 bv82na0_5.2 bv82na0_8.1 bv82na0_8.2 bfa0_16 hraw82_0 (by have h1 := u74f_x72; rw [ex72] at h1; exact h1)) (cwV 0 hts gX8_readLine_X8_watcherLine rfl rfl rfl zd_X8_watcherLine ⟨Nat.le_of_ble_eq_true rfl, Nat.le_of_ble_eq_true rfl⟩) ⟨ax_blind (fun _ _ _ _ hq => sxc_T_same _ _ _ _ (hq)), zr_8 hKc hPc (q0 := 0) rfl, ax_preE hPc hKc hDc (fun U hU hW => sxc_T_to hE0 hS.2.1 hFc hU hW)⟩ rfl rfl hl.1 rfl (lv_room (Nat.le_of_ble_eq_true rfl)) dX8_readLine_89 ⟨Nat.le_of_ble_eq_true rfl, Nat.le_of_ble_eq_true rfl⟩) hS (fun q _ h => hFc q h) hFc (fun u t H locs ht hvm hw => zx_10 (fun v89na0_4 v89na0_5 v89na0_6 v89na0_7 v89na0_8 v89na0_9 v89na0_10 v89na0_13 v89nfa0_16 v89nfa0_12 => zy_7 (fun bv89na0_5 bv89na0_8 bv89na0_13 bv89nfa0_16 hraw89_0 hraw89_1 hraw89_2 hB hz1 hk1 hS1 => zo hB ht hS1 (fun hP1 hK1 hD1 hS => ?_))))
              refine zc_backc (w := [(a0, .inr (8, [a0g_0, Value.ref a0_1, a0g_2, Value.int a0_3, Value.int v89na0_4, Value.int v89na0_5, Value.int v89na0_6, Value.int v89na0_7, Value.int v89na0_8, Value.int v89na0_9, Value.int v89na0_10, a0g_11, Value.ref a0_12, Value.int v89na0_13, a0g_14, a0g_15, Value.ref a0_16, a0g_17, a0g_18, a0g_19, a0g_20, a0g_21, a0g_22, a0g_23, a0g_24, a0g_25, a0g_26, a0g_27, a0g_28, a0g_29, a0g_30, a0g_31, a0g_32, a0g_33, a0g_34, a0g_35, a0g_36, a0g_37, a0g_38, a0g_39])), (a0_12, .inl (ka0_12, 8, .inl (v89nfa0_12))), (a0_16, .inl (ka0_16, 156, .inl (v89nfa0_16))), (a0_1, .inl (ka0_1, 900, .inl (fa0_1)))]) hP hD hCc hk1 hFc hP1 hD1 [.inr 0, .inr 2, .inr 1, .inr 3] (by decide +kernel) rfl (fun hP hD => ?_)
              have hc89 : FfG_X8_watcherLine a0_3.toInt v82na0_4.toInt v82na0_5.toInt v82na0_6.toInt v82na0_7.toInt v82na0_8.toInt v82na0_9.toInt v82na0_10.toInt (fl_A fa0_16) (fl_A v82nfa0_12) (fl_A fa0_1) = (v89na0_4.toInt, v89na0_5.toInt, v89na0_6.toInt, v89na0_7.toInt, v89na0_8.toInt, v89na0_9.toInt, v89na0_10.toInt, v89na0_13.toInt, (fl_A v89nfa0_16), (fl_A v89nfa0_12)) := hraw89_2
              have hF0 := hF0.trans (fl_c10_eq hc89)
              rcases hraw89_0 with hf89 | hf89
              · subst hf89
                have hF0 := hF0.trans (if_pos (by decide))
                refine lv_goto (tgt := 137) hx hb dX8_readLine_92 (by decide) ?_
                have hFe : FX = (v89na0_4.toInt, v89na0_5.toInt, v89na0_6.toInt, v89na0_7.toInt, v89na0_8.toInt, v89na0_9.toInt, v89na0_10.toInt, 1, (fl_A v89nfa0_12), (fl_A v89nfa0_16)) := hF0
                exact W.vret hx hb hr (fun t ht hW => ⟨⟨(), rfl, trivial, v89na0_4, v89na0_5, v89na0_6, v89na0_7, v89na0_8, v89na0_9, v89na0_10, 1, v89nfa0_12, v89nfa0_16, ⟨bv89na0_5.1, bv89na0_5.2⟩, ⟨bv89na0_8.1, bv89na0_8.2⟩, ⟨Int.le_trans (by decide) zq1, zq0⟩, bv89nfa0_16, (Or.inl rfl), (em_t hraw51_1 (em_t hraw82_1 hraw89_1)), hFe, by rw [ht]; exact hP, va_K.moved hW.alike hK, hD⟩, hS.F ht⟩) hS.2.2 dX8_readLine_137
              · subst hf89
                have hF0 := hF0.trans (if_neg (by decide))
                refine lv_goto (tgt := 137) hx hb dX8_readLine_92 (by decide) ?_
                have hFe : FX = (v89na0_4.toInt, v89na0_5.toInt, v89na0_6.toInt, v89na0_7.toInt, v89na0_8.toInt, v89na0_9.toInt, v89na0_10.toInt, 0, (fl_A v89nfa0_12), (fl_A v89nfa0_16)) := hF0
                exact W.vret hx hb hr (fun t ht hW => ⟨⟨(), rfl, trivial, v89na0_4, v89na0_5, v89na0_6, v89na0_7, v89na0_8, v89na0_9, v89na0_10, 0, v89nfa0_12, v89nfa0_16, ⟨bv89na0_5.1, bv89na0_5.2⟩, ⟨bv89na0_8.1, bv89na0_8.2⟩, ⟨zq5, Int.le_trans zq6 (by decide)⟩, bv89nfa0_16, (Or.inr rfl), (em_t hraw51_1 (em_t hraw82_1 hraw89_1)), hFe, by rw [ht]; exact hP, va_K.moved hW.alike hK, hD⟩, hS.F ht⟩) hS.2.2 dX8_readLine_137
        · obtain ⟨hw, huh51⟩ := hw
          subst hw
          subst huh51
          have hF0 := hF0.trans (if_neg (by decide))
          have hF0 := hF0.trans (if_pos (by decide))
          refine lv_if_eq (tgt := 64) hx hb dX8_readLine_54 (by decide) (fun c54 => absurd c54 (by decide +kernel)) (fun _ => ?_)
          refine lv_aload_n hx hb dX8_readLine_57 rfl (lv_at hl 0 rfl) ?_
          refine va_callv (va_runV (As := []) (rest := []) ⟨hx, hb, hml, hown, hts⟩ (fF_X8_figureLine l dC dI H.size a0 a0g_0 (Value.ref a0_1) a0g_2 (Value.int a0_3) (Value.int v51na0_4) (Value.int v51na0_5) (Value.int v51na0_6) (Value.int v51na0_7) (Value.int v51na0_8) (Value.int v51na0_9) (Value.int v51na0_10) a0g_11 (Value.ref a0_12) a0g_14 a0g_15 (Value.ref a0_16) a0g_17 a0g_18 a0g_19 a0g_20 a0g_21 a0g_22 a0g_23 a0g_24 a0g_25 a0g_26 a0g_27 a0g_28 a0g_29 a0g_30 a0g_31 a0g_32 a0g_33 a0g_34 a0g_35 a0g_36 a0g_37 a0g_38 a0g_39 ) (cwV 0 hts gX8_readLine_X8_figureLine rfl rfl rfl zd_X8_figureLine ⟨Nat.le_of_ble_eq_true rfl, Nat.le_of_ble_eq_true rfl⟩) ⟨ax_blind (fun _ _ _ _ _ => trivial), zr_8 (zp_K hK) (zp_P1 hP) (q0 := 0) rfl, ax_pre (zp_P1 hP) (zp_K hK) (zp_D1 hD) (fun _ _ => trivial)⟩ rfl rfl hl.1 rfl (lv_room (Nat.le_of_ble_eq_true rfl)) dX8_readLine_58 ⟨Nat.le_of_ble_eq_true rfl, Nat.le_of_ble_eq_true rfl⟩) hS (fun q _ h => zp_F1 hD hS hA q h) (zp_F1 hD hS hA) (fun u t H locs ht hvm hw hB hz1 hk1 hS1 => zo1 hB ht hP hD hk1 (zp_F1 hD hS hA) hS1 (fun hP hK1 hD hS => ?_))
          refine lv_goto (tgt := 137) hx hb dX8_readLine_61 (by decide) ?_
          have hFe : FX = (v51na0_4.toInt, v51na0_5.toInt, v51na0_6.toInt, v51na0_7.toInt, v51na0_8.toInt, v51na0_9.toInt, v51na0_10.toInt, 1, (fl_A v51nfa0_12), (fl_A fa0_16)) := hF0
          exact W.vret hx hb hr (fun t ht hW => ⟨⟨(), rfl, trivial, v51na0_4, v51na0_5, v51na0_6, v51na0_7, v51na0_8, v51na0_9, v51na0_10, 1, v51nfa0_12, fa0_16, ⟨bv51na0_5.1, bv51na0_5.2⟩, ⟨bv51na0_8.1, bv51na0_8.2⟩, ⟨Int.le_trans (by decide) zq1, zq0⟩, bfa0_16, (Or.inl rfl), hraw51_1, hFe, by rw [ht]; exact hP, va_K.moved hW.alike hK, hD⟩, hS.F ht⟩) hS.2.2 dX8_readLine_137
        · obtain ⟨hw, huh51, h51⟩ := hw
          subst hw
          subst huh51
          have hF0 := hF0.trans (if_neg (by decide))
          have hF0 := hF0.trans (if_neg (by decide))
          refine lv_if_eq (tgt := 64) hx hb dX8_readLine_54 (by decide) (fun c54 => absurd c54 (by decide +kernel)) (fun _ => ?_)
          refine lv_aload_n hx hb dX8_readLine_57 rfl (lv_at hl 0 rfl) ?_
          refine zc_cutc (wc := [(a0, .inr (8, [a0g_0, Value.ref a0_1, a0g_2, Value.int a0_3, Value.int v51na0_4, Value.int v51na0_5, Value.int v51na0_6, Value.int v51na0_7, Value.int v51na0_8, Value.int v51na0_9, Value.int v51na0_10, a0g_11, Value.ref a0_12, Value.int 0, a0g_14, a0g_15, Value.ref a0_16, a0g_17, a0g_18, a0g_19, a0g_20, a0g_21, a0g_22, a0g_23, a0g_24, a0g_25, a0g_26, a0g_27, a0g_28, a0g_29, a0g_30, a0g_31, a0g_32, a0g_33, a0g_34, a0g_35, a0g_36, a0g_37, a0g_38, a0g_39])), (a0_16, .inl (ka0_16, 156, .inl (fa0_16))), (a0_12, .inl (ka0_12, 8, .inl (v51nfa0_12))), (a0_1, .inl (ka0_1, 900, .inl (fa0_1)))]) hP hD hS hA [0, 2, 1, 3] (by decide +kernel) rfl (fun hPc hDc hFc hCc => ?_)
          have hKc := hK.sub (tys' := [(ka0_16, .int), (ka0_12, .int), (ka0_1, .int)]) [1, 0, 2] rfl
          refine va_callv (va_runV (As := []) (rest := []) ⟨hx, hb, hml, hown, hts⟩ (fG_X8_figureLine l dC dI H.size a0 a0g_0 a0g_2 a0g_11 a0g_14 a0g_15 a0g_17 a0g_18 a0g_19 a0g_20 a0g_21 a0g_22 a0g_23 a0g_24 a0g_25 a0g_26 a0g_27 a0g_28 a0g_29 a0g_30 a0g_31 a0g_32 a0g_33 a0g_34 a0g_35 a0g_36 a0g_37 a0g_38 a0g_39 a0_1 a0_3 v51na0_4 v51na0_5 v51na0_6 v51na0_7 v51na0_8 v51na0_9 v51na0_10 a0_12 a0_16 ka0_16 fa0_16 ka0_12 v51nfa0_12 ka0_1 fa0_1 ad ba0_3_l ba0_3_u bv51na0_5.1 bv51na0_5.2 bv51na0_8.1 bv51na0_8.2 bfa0_16 hraw51_0 (by have h1 := u43f_x40; rw [ex40] at h1; exact h1)) (cwV 0 hts gX8_readLine_X8_figureLine rfl rfl rfl zd_X8_figureLine ⟨Nat.le_of_ble_eq_true rfl, Nat.le_of_ble_eq_true rfl⟩) ⟨ax_blind (fun _ _ _ _ hq => sxc_T_same _ _ _ _ (hq)), zr_8 hKc hPc (q0 := 0) rfl, ax_preE hPc hKc hDc (fun U hU hW => sxc_T_to hE0 hS.2.1 hFc hU hW)⟩ rfl rfl hl.1 rfl (lv_room (Nat.le_of_ble_eq_true rfl)) dX8_readLine_58 ⟨Nat.le_of_ble_eq_true rfl, Nat.le_of_ble_eq_true rfl⟩) hS (fun q _ h => hFc q h) hFc (fun u t H locs ht hvm hw => zx_10 (fun v58na0_4 v58na0_5 v58na0_6 v58na0_7 v58na0_8 v58na0_9 v58na0_10 v58na0_13 v58nfa0_16 v58nfa0_12 => zy_7 (fun bv58na0_5 bv58na0_8 bv58na0_13 bv58nfa0_16 hraw58_0 hraw58_1 hraw58_2 hB hz1 hk1 hS1 => zo hB ht hS1 (fun hP1 hK1 hD1 hS => ?_))))
          refine zc_backc (w := [(a0, .inr (8, [a0g_0, Value.ref a0_1, a0g_2, Value.int a0_3, Value.int v58na0_4, Value.int v58na0_5, Value.int v58na0_6, Value.int v58na0_7, Value.int v58na0_8, Value.int v58na0_9, Value.int v58na0_10, a0g_11, Value.ref a0_12, Value.int v58na0_13, a0g_14, a0g_15, Value.ref a0_16, a0g_17, a0g_18, a0g_19, a0g_20, a0g_21, a0g_22, a0g_23, a0g_24, a0g_25, a0g_26, a0g_27, a0g_28, a0g_29, a0g_30, a0g_31, a0g_32, a0g_33, a0g_34, a0g_35, a0g_36, a0g_37, a0g_38, a0g_39])), (a0_12, .inl (ka0_12, 8, .inl (v58nfa0_12))), (a0_16, .inl (ka0_16, 156, .inl (v58nfa0_16))), (a0_1, .inl (ka0_1, 900, .inl (fa0_1)))]) hP hD hCc hk1 hFc hP1 hD1 [.inr 0, .inr 2, .inr 1, .inr 3] (by decide +kernel) rfl (fun hP hD => ?_)
          have hc58 : FfG_X8_figureLine a0_3.toInt v51na0_4.toInt v51na0_5.toInt v51na0_6.toInt v51na0_7.toInt v51na0_8.toInt v51na0_9.toInt v51na0_10.toInt (fl_A fa0_16) (fl_A v51nfa0_12) (fl_A fa0_1) = (v58na0_4.toInt, v58na0_5.toInt, v58na0_6.toInt, v58na0_7.toInt, v58na0_8.toInt, v58na0_9.toInt, v58na0_10.toInt, v58na0_13.toInt, (fl_A v58nfa0_16), (fl_A v58nfa0_12)) := hraw58_2
          have hF0 := hF0.trans (fl_c10_eq hc58)
          rcases hraw58_0 with hf58 | hf58
          · subst hf58
            have hF0 := hF0.trans (if_pos (by decide))
            refine lv_goto (tgt := 137) hx hb dX8_readLine_61 (by decide) ?_
            have hFe : FX = (v58na0_4.toInt, v58na0_5.toInt, v58na0_6.toInt, v58na0_7.toInt, v58na0_8.toInt, v58na0_9.toInt, v58na0_10.toInt, 1, (fl_A v58nfa0_12), (fl_A v58nfa0_16)) := hF0
            exact W.vret hx hb hr (fun t ht hW => ⟨⟨(), rfl, trivial, v58na0_4, v58na0_5, v58na0_6, v58na0_7, v58na0_8, v58na0_9, v58na0_10, 1, v58nfa0_12, v58nfa0_16, ⟨bv58na0_5.1, bv58na0_5.2⟩, ⟨bv58na0_8.1, bv58na0_8.2⟩, ⟨Int.le_trans (by decide) zq1, zq0⟩, bv58nfa0_16, (Or.inl rfl), (em_t hraw51_1 hraw58_1), hFe, by rw [ht]; exact hP, va_K.moved hW.alike hK, hD⟩, hS.F ht⟩) hS.2.2 dX8_readLine_137
          · subst hf58
            have hF0 := hF0.trans (if_neg (by decide))
            refine lv_goto (tgt := 137) hx hb dX8_readLine_61 (by decide) ?_
            have hFe : FX = (v58na0_4.toInt, v58na0_5.toInt, v58na0_6.toInt, v58na0_7.toInt, v58na0_8.toInt, v58na0_9.toInt, v58na0_10.toInt, 0, (fl_A v58nfa0_12), (fl_A v58nfa0_16)) := hF0
            exact W.vret hx hb hr (fun t ht hW => ⟨⟨(), rfl, trivial, v58na0_4, v58na0_5, v58na0_6, v58na0_7, v58na0_8, v58na0_9, v58na0_10, 0, v58nfa0_12, v58nfa0_16, ⟨bv58na0_5.1, bv58na0_5.2⟩, ⟨bv58na0_8.1, bv58na0_8.2⟩, ⟨zq5, Int.le_trans zq6 (by decide)⟩, bv58nfa0_16, (Or.inr rfl), (em_t hraw51_1 hraw58_1), hFe, by rw [ht]; exact hP, va_K.moved hW.alike hK, hD⟩, hS.F ht⟩) hS.2.2 dX8_readLine_137
    · have gc22 := ai_ne c22
      have l22f_r19 : (1 : Int) ≤ r19.toInt := (by first | exact zg_l h19_0 gc22 (by decide) (by decide) | (have h1 := h19_0; have h2 : (0 : Int32).toInt = 0 := (by decide); rw [h2] at gc22; omega))
      have hF0 := hF0.trans (if_neg (show ¬ (r19.toInt = 0) from  gc22))
      refine lv_aload_n hx hb dX8_readLine_25 rfl (lv_at hl 0 rfl) ?_
      refine zc_cutc (wc := [(a0, .inr (8, [a0g_0, Value.ref a0_1, a0g_2, Value.int a0_3, Value.int a0_4, Value.int a0_5, Value.int a0_6, Value.int a0_7, Value.int a0_8, Value.int a0_9, Value.int a0_10, a0g_11, Value.ref a0_12, Value.int 0, a0g_14, a0g_15, Value.ref a0_16, a0g_17, a0g_18, a0g_19, a0g_20, a0g_21, a0g_22, a0g_23, a0g_24, a0g_25, a0g_26, a0g_27, a0g_28, a0g_29, a0g_30, a0g_31, a0g_32, a0g_33, a0g_34, a0g_35, a0g_36, a0g_37, a0g_38, a0g_39])), (a0_16, .inl (ka0_16, 156, .inl (fa0_16))), (a0_1, .inl (ka0_1, 900, .inl (fa0_1))), (a0_12, .inl (ka0_12, 8, .inl (fa0_12)))]) hP hD hS hA [0, 2, 3, 1] (by decide +kernel) rfl (fun hPc hDc hFc hCc => ?_)
      have hKc := hK.sub (tys' := [(ka0_16, .int), (ka0_1, .int), (ka0_12, .int)]) [1, 2, 0] rfl
      refine va_callv (va_runV (As := []) (rest := []) ⟨hx, hb, hml, hown, hts⟩ (fG_X8_lawLine l dC dI H.size a0 a0g_0 a0g_2 a0g_11 a0g_14 a0g_15 a0g_17 a0g_18 a0g_19 a0g_20 a0g_21 a0g_22 a0g_23 a0g_24 a0g_25 a0g_26 a0g_27 a0g_28 a0g_29 a0g_30 a0g_31 a0g_32 a0g_33 a0g_34 a0g_35 a0g_36 a0g_37 a0g_38 a0g_39 a0_1 a0_3 a0_4 a0_5 a0_6 a0_7 a0_8 a0_9 a0_10 a0_12 a0_16 ka0_16 fa0_16 ka0_1 fa0_1 ka0_12 fa0_12 ad ba0_3_l ba0_3_u ba0_5_l ba0_5_u ba0_8_l ba0_8_u bfa0_16) (cwV 0 hts gX8_readLine_X8_lawLine rfl rfl rfl zd_X8_lawLine ⟨Nat.le_of_ble_eq_true rfl, Nat.le_of_ble_eq_true rfl⟩) ⟨ax_blind (fun _ _ _ _ hq => sxc_T_same _ _ _ _ (hq)), zr_8 hKc hPc (q0 := 0) rfl, ax_preE hPc hKc hDc (fun U hU hW => sxc_T_to hE0 hS.2.1 hFc hU hW)⟩ rfl rfl hl.1 rfl (lv_room (Nat.le_of_ble_eq_true rfl)) dX8_readLine_26 ⟨Nat.le_of_ble_eq_true rfl, Nat.le_of_ble_eq_true rfl⟩) hS (fun q _ h => hFc q h) hFc (fun u t H locs ht hvm hw => zx_10 (fun v26na0_4 v26na0_5 v26na0_6 v26na0_7 v26na0_8 v26na0_9 v26na0_10 v26na0_13 v26nfa0_16 v26nfa0_12 => zy_7 (fun bv26na0_5 bv26na0_8 bv26na0_13 bv26nfa0_16 hraw26_0 hraw26_1 hraw26_2 hB hz1 hk1 hS1 => zo hB ht hS1 (fun hP1 hK1 hD1 hS => ?_))))
      refine zc_backc (w := [(a0, .inr (8, [a0g_0, Value.ref a0_1, a0g_2, Value.int a0_3, Value.int v26na0_4, Value.int v26na0_5, Value.int v26na0_6, Value.int v26na0_7, Value.int v26na0_8, Value.int v26na0_9, Value.int v26na0_10, a0g_11, Value.ref a0_12, Value.int v26na0_13, a0g_14, a0g_15, Value.ref a0_16, a0g_17, a0g_18, a0g_19, a0g_20, a0g_21, a0g_22, a0g_23, a0g_24, a0g_25, a0g_26, a0g_27, a0g_28, a0g_29, a0g_30, a0g_31, a0g_32, a0g_33, a0g_34, a0g_35, a0g_36, a0g_37, a0g_38, a0g_39])), (a0_12, .inl (ka0_12, 8, .inl (v26nfa0_12))), (a0_16, .inl (ka0_16, 156, .inl (v26nfa0_16))), (a0_1, .inl (ka0_1, 900, .inl (fa0_1)))]) hP hD hCc hk1 hFc hP1 hD1 [.inr 0, .inr 3, .inr 1, .inr 2] (by decide +kernel) rfl (fun hP hD => ?_)
      have hc26 : FfG_X8_lawLine a0_3.toInt a0_4.toInt a0_5.toInt a0_6.toInt a0_7.toInt a0_8.toInt a0_9.toInt a0_10.toInt (fl_A fa0_16) (fl_A fa0_1) (fl_A fa0_12) = (v26na0_4.toInt, v26na0_5.toInt, v26na0_6.toInt, v26na0_7.toInt, v26na0_8.toInt, v26na0_9.toInt, v26na0_10.toInt, v26na0_13.toInt, (fl_A v26nfa0_16), (fl_A v26nfa0_12)) := hraw26_2
      have hF0 := hF0.trans (fl_c10_eq hc26)
      rcases hraw26_0 with hf26 | hf26
      · subst hf26
        have hF0 := hF0.trans (if_pos (by decide))
        refine lv_goto (tgt := 137) hx hb dX8_readLine_29 (by decide) ?_
        have hFe : FX = (v26na0_4.toInt, v26na0_5.toInt, v26na0_6.toInt, v26na0_7.toInt, v26na0_8.toInt, v26na0_9.toInt, v26na0_10.toInt, 1, (fl_A v26nfa0_12), (fl_A v26nfa0_16)) := hF0
        exact W.vret hx hb hr (fun t ht hW => ⟨⟨(), rfl, trivial, v26na0_4, v26na0_5, v26na0_6, v26na0_7, v26na0_8, v26na0_9, v26na0_10, 1, v26nfa0_12, v26nfa0_16, ⟨bv26na0_5.1, bv26na0_5.2⟩, ⟨bv26na0_8.1, bv26na0_8.2⟩, ⟨Int.le_trans (by decide) zq1, zq0⟩, bv26nfa0_16, (Or.inl rfl), hraw26_1, hFe, by rw [ht]; exact hP, va_K.moved hW.alike hK, hD⟩, hS.F ht⟩) hS.2.2 dX8_readLine_137
      · subst hf26
        have hF0 := hF0.trans (if_neg (by decide))
        refine lv_goto (tgt := 137) hx hb dX8_readLine_29 (by decide) ?_
        have hFe : FX = (v26na0_4.toInt, v26na0_5.toInt, v26na0_6.toInt, v26na0_7.toInt, v26na0_8.toInt, v26na0_9.toInt, v26na0_10.toInt, 0, (fl_A v26nfa0_12), (fl_A v26nfa0_16)) := hF0
        exact W.vret hx hb hr (fun t ht hW => ⟨⟨(), rfl, trivial, v26na0_4, v26na0_5, v26na0_6, v26na0_7, v26na0_8, v26na0_9, v26na0_10, 0, v26nfa0_12, v26nfa0_16, ⟨bv26na0_5.1, bv26na0_5.2⟩, ⟨bv26na0_8.1, bv26na0_8.2⟩, ⟨zq5, Int.le_trans zq6 (by decide)⟩, bv26nfa0_16, (Or.inr rfl), hraw26_1, hFe, by rw [ht]; exact hP, va_K.moved hW.alike hK, hD⟩, hS.F ht⟩) hS.2.2 dX8_readLine_137
  · have gc6 := ai_ne c6
    have l6f_r3 : (1 : Int) ≤ r3.toInt := (by first | exact zg_l h3_0 gc6 (by decide) (by decide) | (have h1 := h3_0; have h2 : (0 : Int32).toInt = 0 := (by decide); rw [h2] at gc6; omega))
    have hF0 := hF0.trans (if_neg (show ¬ (r3.toInt = 0) from  gc6))
    refine lv_aload_n hx hb dX8_readLine_9 rfl (lv_at hl 0 rfl) ?_
    refine zc_cutc (wc := [(a0, .inr (8, [a0g_0, Value.ref a0_1, a0g_2, Value.int a0_3, Value.int a0_4, Value.int a0_5, Value.int a0_6, Value.int a0_7, Value.int a0_8, Value.int a0_9, Value.int a0_10, a0g_11, Value.ref a0_12, Value.int 0, a0g_14, a0g_15, Value.ref a0_16, a0g_17, a0g_18, a0g_19, a0g_20, a0g_21, a0g_22, a0g_23, a0g_24, a0g_25, a0g_26, a0g_27, a0g_28, a0g_29, a0g_30, a0g_31, a0g_32, a0g_33, a0g_34, a0g_35, a0g_36, a0g_37, a0g_38, a0g_39])), (a0_16, .inl (ka0_16, 156, .inl (fa0_16))), (a0_1, .inl (ka0_1, 900, .inl (fa0_1))), (a0_12, .inl (ka0_12, 8, .inl (fa0_12)))]) hP hD hS hA [0, 2, 3, 1] (by decide +kernel) rfl (fun hPc hDc hFc hCc => ?_)
    have hKc := hK.sub (tys' := [(ka0_16, .int), (ka0_1, .int), (ka0_12, .int)]) [1, 2, 0] rfl
    refine va_callv (va_runV (As := []) (rest := []) ⟨hx, hb, hml, hown, hts⟩ (fG_X8_galleryLine l dC dI H.size a0 a0g_0 a0g_2 a0g_11 a0g_14 a0g_15 a0g_17 a0g_18 a0g_19 a0g_20 a0g_21 a0g_22 a0g_23 a0g_24 a0g_25 a0g_26 a0g_27 a0g_28 a0g_29 a0g_30 a0g_31 a0g_32 a0g_33 a0g_34 a0g_35 a0g_36 a0g_37 a0g_38 a0g_39 a0_1 a0_3 a0_4 a0_5 a0_6 a0_7 a0_8 a0_9 a0_10 a0_12 a0_16 ka0_16 fa0_16 ka0_1 fa0_1 ka0_12 fa0_12 ad ba0_3_l ba0_3_u ba0_5_l ba0_5_u ba0_8_l ba0_8_u bfa0_16) (cwV 0 hts gX8_readLine_X8_galleryLine rfl rfl rfl zd_X8_galleryLine ⟨Nat.le_of_ble_eq_true rfl, Nat.le_of_ble_eq_true rfl⟩) ⟨ax_blind (fun _ _ _ _ hq => sxc_T_same _ _ _ _ (hq)), zr_8 hKc hPc (q0 := 0) rfl, ax_preE hPc hKc hDc (fun U hU hW => sxc_T_to hE0 hS.2.1 hFc hU hW)⟩ rfl rfl hl.1 rfl (lv_room (Nat.le_of_ble_eq_true rfl)) dX8_readLine_10 ⟨Nat.le_of_ble_eq_true rfl, Nat.le_of_ble_eq_true rfl⟩) hS (fun q _ h => hFc q h) hFc (fun u t H locs ht hvm hw => zx_10 (fun v10na0_4 v10na0_5 v10na0_6 v10na0_7 v10na0_8 v10na0_9 v10na0_10 v10na0_13 v10nfa0_16 v10nfa0_12 => zy_7 (fun bv10na0_5 bv10na0_8 bv10na0_13 bv10nfa0_16 hraw10_0 hraw10_1 hraw10_2 hB hz1 hk1 hS1 => zo hB ht hS1 (fun hP1 hK1 hD1 hS => ?_))))
    refine zc_backc (w := [(a0, .inr (8, [a0g_0, Value.ref a0_1, a0g_2, Value.int a0_3, Value.int v10na0_4, Value.int v10na0_5, Value.int v10na0_6, Value.int v10na0_7, Value.int v10na0_8, Value.int v10na0_9, Value.int v10na0_10, a0g_11, Value.ref a0_12, Value.int v10na0_13, a0g_14, a0g_15, Value.ref a0_16, a0g_17, a0g_18, a0g_19, a0g_20, a0g_21, a0g_22, a0g_23, a0g_24, a0g_25, a0g_26, a0g_27, a0g_28, a0g_29, a0g_30, a0g_31, a0g_32, a0g_33, a0g_34, a0g_35, a0g_36, a0g_37, a0g_38, a0g_39])), (a0_12, .inl (ka0_12, 8, .inl (v10nfa0_12))), (a0_16, .inl (ka0_16, 156, .inl (v10nfa0_16))), (a0_1, .inl (ka0_1, 900, .inl (fa0_1)))]) hP hD hCc hk1 hFc hP1 hD1 [.inr 0, .inr 3, .inr 1, .inr 2] (by decide +kernel) rfl (fun hP hD => ?_)
    have hc10 : FfG_X8_galleryLine a0_3.toInt a0_4.toInt a0_5.toInt a0_6.toInt a0_7.toInt a0_8.toInt a0_9.toInt a0_10.toInt (fl_A fa0_16) (fl_A fa0_1) (fl_A fa0_12) = (v10na0_4.toInt, v10na0_5.toInt, v10na0_6.toInt, v10na0_7.toInt, v10na0_8.toInt, v10na0_9.toInt, v10na0_10.toInt, v10na0_13.toInt, (fl_A v10nfa0_16), (fl_A v10nfa0_12)) := hraw10_2
    have hF0 := hF0.trans (fl_c10_eq hc10)
    rcases hraw10_0 with hf10 | hf10
    · subst hf10
      have hF0 := hF0.trans (if_pos (by decide))
      refine lv_goto (tgt := 137) hx hb dX8_readLine_13 (by decide) ?_
      have hFe : FX = (v10na0_4.toInt, v10na0_5.toInt, v10na0_6.toInt, v10na0_7.toInt, v10na0_8.toInt, v10na0_9.toInt, v10na0_10.toInt, 1, (fl_A v10nfa0_12), (fl_A v10nfa0_16)) := hF0
      exact W.vret hx hb hr (fun t ht hW => ⟨⟨(), rfl, trivial, v10na0_4, v10na0_5, v10na0_6, v10na0_7, v10na0_8, v10na0_9, v10na0_10, 1, v10nfa0_12, v10nfa0_16, ⟨bv10na0_5.1, bv10na0_5.2⟩, ⟨bv10na0_8.1, bv10na0_8.2⟩, ⟨Int.le_trans (by decide) zq1, zq0⟩, bv10nfa0_16, (Or.inl rfl), hraw10_1, hFe, by rw [ht]; exact hP, va_K.moved hW.alike hK, hD⟩, hS.F ht⟩) hS.2.2 dX8_readLine_137
    · subst hf10
      have hF0 := hF0.trans (if_neg (by decide))
      refine lv_goto (tgt := 137) hx hb dX8_readLine_13 (by decide) ?_
      have hFe : FX = (v10na0_4.toInt, v10na0_5.toInt, v10na0_6.toInt, v10na0_7.toInt, v10na0_8.toInt, v10na0_9.toInt, v10na0_10.toInt, 0, (fl_A v10nfa0_12), (fl_A v10nfa0_16)) := hF0
      exact W.vret hx hb hr (fun t ht hW => ⟨⟨(), rfl, trivial, v10na0_4, v10na0_5, v10na0_6, v10na0_7, v10na0_8, v10na0_9, v10na0_10, 0, v10nfa0_12, v10nfa0_16, ⟨bv10na0_5.1, bv10na0_5.2⟩, ⟨bv10na0_8.1, bv10na0_8.2⟩, ⟨zq5, Int.le_trans zq6 (by decide)⟩, bv10nfa0_16, (Or.inr rfl), hraw10_1, hFe, by rw [ht]; exact hP, va_K.moved hW.alike hK, hD⟩, hS.F ht⟩) hS.2.2 dX8_readLine_137
end P312_09_f
section P312_10_f
set_option maxHeartbeats 4000000 in
set_option maxRecDepth 100000 in
theorem f_X8_gallery (l : Launch) (dC : Nat → ClassId) (dI : Nat → Nat → Nat) (sz : Nat) (a0 : Nat) (a1 : Int32) (a0_0 : Int32) (a0_1 : Nat) (a0_2 : Int32) (a0_3 : Int32) (a0_4 : Int32) (a0_5 : Int32) (a0_6 : Int32) (a0_7 : Int32) (a0_8 : Int32) (a0_9 : Int32) (a0_10 : Int32) (a0_11 : Int32) (a0_12 : Nat) (a0_13 : Int32) (a0_14 : Int32) (a0_15 : Nat) (a0_16 : Nat) (a0_17 : Nat) (a0g_18 a0g_19 a0g_20 a0g_23 a0g_24 a0g_25 a0g_26 a0g_27 a0g_28 a0g_29 a0g_30 a0g_31 a0g_32 a0g_33 a0g_34 a0g_35 a0g_36 a0g_37 a0g_38 a0g_39 : Value) (a0_21 : Int32) (a0_22 : Int32) (ka0_16 : ClassId) (fa0_16 : Nat → Int32) (ka0_1 : ClassId) (fa0_1 : Nat → Int32) (ka0_12 : ClassId) (fa0_12 : Nat → Int32) (ka0_15 : ClassId) (fa0_15 : Nat → Int32) (ka0_17 : ClassId) (fa0_17 : Nat → Int32) (ad : Nat → Nat) (ba0_2_l : (0 : Int) ≤ a0_2.toInt) (ba0_2_u : a0_2.toInt ≤ (900 : Int)) (ba0_3_l : (0 : Int) ≤ a0_3.toInt) (ba0_3_u : a0_3.toInt ≤ (900 : Int)) (ba0_5_l : (0 : Int) ≤ a0_5.toInt) (ba0_5_u : a0_5.toInt ≤ (900 : Int)) (ba0_8_l : (0 : Int) ≤ a0_8.toInt) (ba0_8_u : a0_8.toInt ≤ (900 : Int)) (ba0_13_l : (0 : Int) ≤ a0_13.toInt) (ba0_13_u : a0_13.toInt ≤ (1 : Int)) (ba0_21_l : (0 : Int) ≤ a0_21.toInt) (ba0_21_u : a0_21.toInt ≤ (16 : Int)) (ba0_22_l : (0 : Int) ≤ a0_22.toInt) (ba0_22_u : a0_22.toInt ≤ (3 : Int)) (bfa0_17 : ((∀ k : Nat, 0 ≤ k → k ≤ 8 → (0 : Int) ≤ (fa0_17 k).toInt ∧ (fa0_17 k).toInt ≤ 8) ∧ (∀ k : Nat, 19 ≤ k → k ≤ 19 → (0 : Int) ≤ (fa0_17 k).toInt ∧ (fa0_17 k).toInt ≤ 8) ∧ (∀ k : Nat, 20 ≤ k → k ≤ 20 → (0 : Int) ≤ (fa0_17 k).toInt ∧ (fa0_17 k).toInt ≤ 19))) : zm l yX8_gallery wsX8_gallery ({ frames := 10, cells := 0, slots := 0, locals := 214 }) [.ref a0, .int a1] dC dI sz [(a0, .inr (8, [Value.int a0_0, Value.ref a0_1, Value.int a0_2, Value.int a0_3, Value.int a0_4, Value.int a0_5, Value.int a0_6, Value.int a0_7, Value.int a0_8, Value.int a0_9, Value.int a0_10, Value.int a0_11, Value.ref a0_12, Value.int a0_13, Value.int a0_14, Value.ref a0_15, Value.ref a0_16, Value.ref a0_17, a0g_18, a0g_19, a0g_20, Value.int a0_21, Value.int a0_22, a0g_23, a0g_24, a0g_25, a0g_26, a0g_27, a0g_28, a0g_29, a0g_30, a0g_31, a0g_32, a0g_33, a0g_34, a0g_35, a0g_36, a0g_37, a0g_38, a0g_39])), (a0_16, .inl (ka0_16, 156, .inl (fa0_16))), (a0_1, .inl (ka0_1, 900, .inl (fa0_1))), (a0_12, .inl (ka0_12, 8, .inl (fa0_12))), (a0_15, .inl (ka0_15, 156, .inl (fa0_15))), (a0_17, .inl (ka0_17, 23, .inl (fa0_17)))] [(ka0_16, .int), (ka0_1, .int), (ka0_12, .int), (ka0_15, .int), (ka0_17, .int)] (fun A U => sxc_T ad A U) (fun A => va_Qi (fun (r : Int32) (_ : Unit) => ((-1 : Int) ≤ r.toInt ∧ r.toInt ≤ (9 : Int)) ∧ r.toInt = (Ff_X8_gallery a1.toInt a0_2.toInt a0_3.toInt a0_4.toInt a0_5.toInt a0_6.toInt a0_7.toInt a0_8.toInt a0_9.toInt a0_10.toInt a0_13.toInt a0_14.toInt a0_21.toInt a0_22.toInt (fl_A fa0_16) (fl_A fa0_1) (fl_A fa0_12) (fl_A fa0_15) (fl_A fa0_17)).1) (fun (_ : Unit) (t : State) => ∃ na0_0 : Int32, ∃ na0_2 : Int32, ∃ na0_3 : Int32, ∃ na0_4 : Int32, ∃ na0_5 : Int32, ∃ na0_6 : Int32, ∃ na0_7 : Int32, ∃ na0_8 : Int32, ∃ na0_9 : Int32, ∃ na0_10 : Int32, ∃ na0_11 : Int32, ∃ na0_13 : Int32, ∃ na0_14 : Int32, ∃ na0_21 : Int32, ∃ na0_22 : Int32, ∃ nfa0_16 : Nat → Int32, ∃ nfa0_12 : Nat → Int32, ∃ nfa0_15 : Nat → Int32, ∃ nfa0_17 : Nat → Int32, ((0 : Int) ≤ na0_2.toInt ∧ na0_2.toInt ≤ 900) ∧ ((0 : Int) ≤ na0_3.toInt ∧ na0_3.toInt ≤ 900) ∧ ((0 : Int) ≤ na0_5.toInt ∧ na0_5.toInt ≤ 900) ∧ ((0 : Int) ≤ na0_8.toInt ∧ na0_8.toInt ≤ 900) ∧ ((0 : Int) ≤ na0_13.toInt ∧ na0_13.toInt ≤ 1) ∧ ((0 : Int) ≤ na0_21.toInt ∧ na0_21.toInt ≤ 16) ∧ ((0 : Int) ≤ na0_22.toInt ∧ na0_22.toInt ≤ 3) ∧ ((∀ k : Nat, 0 ≤ k → k ≤ 8 → (0 : Int) ≤ (nfa0_17 k).toInt ∧ (nfa0_17 k).toInt ≤ 8) ∧ (∀ k : Nat, 19 ≤ k → k ≤ 19 → (0 : Int) ≤ (nfa0_17 k).toInt ∧ (nfa0_17 k).toInt ≤ 8) ∧ (∀ k : Nat, 20 ≤ k → k ≤ 20 → (0 : Int) ≤ (nfa0_17 k).toInt ∧ (nfa0_17 k).toInt ≤ 19)) ∧ ((na0_14 = a0_14 ∧ nfa0_15 = fa0_15) ∨ (na0_14 = 1 ∧ ((∀ k : Nat, 0 ≤ k → k ≤ 0 → (2 : Int) ≤ (nfa0_15 k).toInt ∧ (nfa0_15 k).toInt ≤ 9) ∧ (∀ k : Nat, 1 ≤ k → k ≤ 1 → (1 : Int) ≤ (nfa0_15 k).toInt ∧ (nfa0_15 k).toInt ≤ 20) ∧ (∀ k : Nat, 2 ≤ k → k ≤ 2 → (0 : Int) ≤ (nfa0_15 k).toInt ∧ (nfa0_15 k).toInt ≤ 8) ∧ (∀ k : Nat, 3 ≤ k → k ≤ 3 → (0 : Int) ≤ (nfa0_15 k).toInt ∧ (nfa0_15 k).toInt ≤ 100) ∧ (∀ k : Nat, 4 ≤ k → k ≤ 4 → (0 : Int) ≤ (nfa0_15 k).toInt ∧ (nfa0_15 k).toInt ≤ 9) ∧ (∀ k : Nat, 5 ≤ k → k ≤ 5 → (0 : Int) ≤ (nfa0_15 k).toInt ∧ (nfa0_15 k).toInt ≤ 3) ∧ (∀ k : Nat, 6 ≤ k → k ≤ 6 → (0 : Int) ≤ (nfa0_15 k).toInt ∧ (nfa0_15 k).toInt ≤ 6) ∧ (∀ k : Nat, 7 ≤ k → k ≤ 9 → (0 : Int) ≤ (nfa0_15 k).toInt ∧ (nfa0_15 k).toInt ≤ 8) ∧ (∀ k : Nat, 12 ≤ k → k ≤ 29 → (0 : Int) ≤ (nfa0_15 k).toInt ∧ (nfa0_15 k).toInt ≤ 20) ∧ (∀ k : Nat, 30 ≤ k → k ≤ 35 → (0 : Int) ≤ (nfa0_15 k).toInt ∧ (nfa0_15 k).toInt ≤ 8) ∧ (∀ k : Nat, 36 ≤ k → k ≤ 47 → (0 : Int) ≤ (nfa0_15 k).toInt ∧ (nfa0_15 k).toInt ≤ 999)) ∧ (∀ (j i0 i : Int32), (0 : Int) ≤ j.toInt → j.toInt ≤ 8 → i0.toInt = 12 + 2 * j.toInt → i.toInt = 13 + 2 * j.toInt → (nfa0_15 i0.toNatClampNeg).toInt = (1 : Int32).toInt → (1 : Int) ≤ (nfa0_15 i.toNatClampNeg).toInt))) ∧ (((0 : Int) ≤ a1.toInt ∧ a1.toInt ≤ a0_2.toInt → na0_2.toInt = 0) ∧ (a1.toInt < 0 ∨ a0_2.toInt < a1.toInt → na0_2.toInt = a0_2.toInt)) ∧ ((Ff_X8_gallery a1.toInt a0_2.toInt a0_3.toInt a0_4.toInt a0_5.toInt a0_6.toInt a0_7.toInt a0_8.toInt a0_9.toInt a0_10.toInt a0_13.toInt a0_14.toInt a0_21.toInt a0_22.toInt (fl_A fa0_16) (fl_A fa0_1) (fl_A fa0_12) (fl_A fa0_15) (fl_A fa0_17)).2 = (na0_0.toInt, na0_2.toInt, na0_3.toInt, na0_4.toInt, na0_5.toInt, na0_6.toInt, na0_7.toInt, na0_8.toInt, na0_9.toInt, na0_10.toInt, na0_11.toInt, na0_13.toInt, na0_14.toInt, na0_21.toInt, na0_22.toInt, (fl_A nfa0_16), (fl_A nfa0_12), (fl_A nfa0_15), (fl_A nfa0_17))) ∧ ax_B dC dI A [(a0, .inr (8, [Value.int na0_0, Value.ref a0_1, Value.int na0_2, Value.int na0_3, Value.int na0_4, Value.int na0_5, Value.int na0_6, Value.int na0_7, Value.int na0_8, Value.int na0_9, Value.int na0_10, Value.int na0_11, Value.ref a0_12, Value.int na0_13, Value.int na0_14, Value.ref a0_15, Value.ref a0_16, Value.ref a0_17, a0g_18, a0g_19, a0g_20, Value.int na0_21, Value.int na0_22, a0g_23, a0g_24, a0g_25, a0g_26, a0g_27, a0g_28, a0g_29, a0g_30, a0g_31, a0g_32, a0g_33, a0g_34, a0g_35, a0g_36, a0g_37, a0g_38, a0g_39])), (a0_16, .inl (ka0_16, 156, .inl (nfa0_16))), (a0_1, .inl (ka0_1, 900, .inl (fa0_1))), (a0_12, .inl (ka0_12, 8, .inl (nfa0_12))), (a0_15, .inl (ka0_15, 156, .inl (nfa0_15))), (a0_17, .inl (ka0_17, 23, .inl (nfa0_17)))] [(ka0_16, .int), (ka0_1, .int), (ka0_12, .int), (ka0_15, .int), (ka0_17, .int)] t) A) := by
  refine zh (cc := cX8_gallery) (maxL := 3) (ret := (some .int)) zn_RX8 rfl (Nat.le_of_ble_eq_true rfl) (fun p e s m below meth c A ls hx hb hml hr hts (hown : s.vm.findClass RX8 = some m.cls) hlocks hA hS hP hK hD hE (hl : lv_has ls 3 [(0, .ref a0), (1, .int a1)]) => ?_)
  have hE0 := hE
  generalize hFX : Ff_X8_gallery a1.toInt a0_2.toInt a0_3.toInt a0_4.toInt a0_5.toInt a0_6.toInt a0_7.toInt a0_8.toInt a0_9.toInt a0_10.toInt a0_13.toInt a0_14.toInt a0_21.toInt a0_22.toInt (fl_A fa0_16) (fl_A fa0_1) (fl_A fa0_12) (fl_A fa0_15) (fl_A fa0_17) = FX at ⊢
  have hF0 := hFX.symm.trans (Ff_X8_gallery.eq_1 a1.toInt a0_2.toInt a0_3.toInt a0_4.toInt a0_5.toInt a0_6.toInt a0_7.toInt a0_8.toInt a0_9.toInt a0_10.toInt a0_13.toInt a0_14.toInt a0_21.toInt a0_22.toInt (fl_A fa0_16) (fl_A fa0_1) (fl_A fa0_12) (fl_A fa0_15) (fl_A fa0_17))
  refine ai_open (fun K hK0 => ?_)
  refine (hK0 _ _ _).mpr ?_
  refine lv_aload_n hx hb dX8_gallery_0 rfl (lv_at hl 0 rfl) ?_
  refine va_callv (va_runV (As := []) (rest := []) ⟨hx, hb, hml, hown, hts⟩ (f_X8_good l dC dI s.heap.size a0 a0_0 (Value.ref a0_1) (Value.int a0_2) (Value.int a0_3) (Value.int a0_4) (Value.int a0_5) (Value.int a0_6) (Value.int a0_7) (Value.int a0_8) (Value.int a0_9) (Value.int a0_10) (Value.ref a0_12) (Value.int a0_13) (Value.int a0_14) (Value.ref a0_15) (Value.ref a0_16) (Value.ref a0_17) a0g_18 a0g_19 a0g_20 (Value.int a0_21) (Value.int a0_22) a0g_23 a0g_24 a0g_25 a0g_26 a0g_27 a0g_28 a0g_29 a0g_30 a0g_31 a0g_32 a0g_33 a0g_34 a0g_35 a0g_36 a0g_37 a0g_38 a0g_39 a0_11 ) (cwV 0 hts gX8_gallery_X8_good rfl rfl rfl zd_X8_good ⟨Nat.le_of_ble_eq_true rfl, Nat.le_of_ble_eq_true rfl⟩) ⟨ax_blind (fun _ _ _ _ _ => trivial), zr_8 (zp_K hK) (zp_P1 hP) (q0 := 0) rfl, ax_pre (zp_P1 hP) (zp_K hK) (zp_D1 hD) (fun _ _ => trivial)⟩ rfl rfl hl.1 rfl (lv_room (Nat.le_of_ble_eq_true rfl)) dX8_gallery_1 ⟨Nat.le_of_ble_eq_true rfl, Nat.le_of_ble_eq_true rfl⟩) hS (fun q _ h => zp_F1 hD hS hA q h) (zp_F1 hD hS hA) (fun u t H locs ht hvm hw => zx_2 (fun v1na0_0 v1na0_11 => zy_1 (fun hraw1_0 hB hz1 hk1 hS1 => zo1 hB ht hP hD hk1 (zp_F1 hD hS hA) hS1 (fun hP hK1 hD hS => ?_))))
  have hc1 : Ff_X8_good = (v1na0_0.toInt, v1na0_11.toInt) := hraw1_0
  have hF0 := hF0.trans (fl_c2_eq hc1)
  refine lv_iload_n hx hb dX8_gallery_4 rfl (lv_at hl 1 rfl) ?_
  refine lv_iconst (v := 0) hx hb dX8_gallery_5 zk_iconst_0 ?_
  refine lv_aload_n hx hb dX8_gallery_6 rfl (lv_at hl 0 rfl) ?_
  refine va_get (D := (dC, dI)) (ci := 8) (v := .int a0_2) (C := RX8) (T := TX8) (N := 40) hx hb hts zi_X8_gallery_8 hown hK hP 0 rfl rfl 2 (by decide) (hts (.fieldLink RX8 65 "WaxTurnsModel" "taped" "I") (zm_X8_gallery_r1 (List.mem_of_getElem? (i := 0) rfl))) (fun _ h9 => h9) rfl dX8_gallery_7 ?_
  refine va_calli (va_runS (As := [.int a1, .int 0, .int a0_2]) (rest := []) ⟨hx, hb, hml, hown, hts⟩ (f_X8_in l dC dI H.size a1 0 a0_2 ) (va_cwS 3 hts gX8_gallery_X8_in rfl rfl rfl zd_X8_in.2 ⟨Nat.le_of_ble_eq_true rfl, Nat.le_of_ble_eq_true rfl⟩) ⟨ax_blind (fun _ _ _ _ _ => trivial), ax_pre (zp_P0 hP) (zp_K hK) (zp_D0 hD) (fun _ _ => trivial)⟩ rfl rfl hl.1 rfl (lv_room (Nat.le_of_ble_eq_true rfl)) dX8_gallery_10 ⟨Nat.le_of_ble_eq_true rfl, Nat.le_of_ble_eq_true rfl⟩) hS (fun q _ h => zp_F0 hD hS hA q h) (zp_F0 hD hS hA) (fun r10 u t H locs ht hvm hw hB hz1 hk1 hS1 => zo0 hB ht hP hD hk1 (zp_F0 hD hS hA) hS1 (fun hP hK1 hD hS => ?_))
  obtain ⟨hw, hfr10⟩ := hw
  rw [show (0 : Int32).toInt = 0 from by decide] at hfr10
  have hc10 : Ff_X8_in a1.toInt 0 a0_2.toInt = r10.toInt := hfr10.symm
  have hF0 := hF0.trans (fl_lt_eq hc10.symm)
  rcases hw with hw | hw
  · obtain ⟨hw, h10⟩ := hw
    subst hw
    have l10k0_a1 : (0 : Int) ≤ a1.toInt := Int.le_trans zq5 h10.1
    have u10k0_a1 : a1.toInt ≤ (900 : Int) := Int.le_trans h10.2 ba0_2_u
    have l10k0_a0_2 : (0 : Int) ≤ a0_2.toInt := ba0_2_l
    have hF0 := hF0.trans (if_pos (by decide))
    refine lv_if_ne (tgt := 22) hx hb dX8_gallery_13 (by decide) (fun _ => ?_) (fun c13 => absurd c13 (by decide +kernel))
    refine lv_aload_n hx hb dX8_gallery_22 rfl (lv_at hl 0 rfl) ?_
    refine lv_iconst (v := 0) hx hb dX8_gallery_23 zk_iconst_0 ?_
    refine va_put (D := (dC, dI)) (ci := 8) (v := .int 0) (ty := .int) (C := RX8) (T := TX8) (N := 40) hx hb hts zi_X8_gallery_8 tyX8 tyX8_ok nmX8 hown hK hP hD hS 0 rfl rfl 2 (by decide) (hts (.fieldLink RX8 65 "WaxTurnsModel" "taped" "I") (zm_X8_gallery_r1 (List.mem_of_getElem? (i := 0) rfl))) (fun _ h9 => h9) rfl (tyX8_ok 2 (by decide)) rfl rfl (Nat.le_of_ble_eq_true rfl) dX8_gallery_24 (fun H locs hP hD hS => ?_)
    refine zs_0 (y := (a0, .inr (8, [Value.int v1na0_0, Value.ref a0_1, Value.int 0, Value.int a0_3, Value.int a0_4, Value.int a0_5, Value.int a0_6, Value.int a0_7, Value.int a0_8, Value.int a0_9, Value.int a0_10, Value.int v1na0_11, Value.ref a0_12, Value.int a0_13, Value.int a0_14, Value.ref a0_15, Value.ref a0_16, Value.ref a0_17, a0g_18, a0g_19, a0g_20, Value.int a0_21, Value.int a0_22, a0g_23, a0g_24, a0g_25, a0g_26, a0g_27, a0g_28, a0g_29, a0g_30, a0g_31, a0g_32, a0g_33, a0g_34, a0g_35, a0g_36, a0g_37, a0g_38, a0g_39]))) hP hD rfl (fun hP hD => ?_)
    refine lv_aload_n hx hb dX8_gallery_27 rfl (lv_at hl 0 rfl) ?_
    refine lv_iconst (v := 0) hx hb dX8_gallery_28 zk_iconst_0 ?_
    refine va_put (D := (dC, dI)) (ci := 8) (v := .int 0) (ty := .int) (C := RX8) (T := TX8) (N := 40) hx hb hts zi_X8_gallery_8 tyX8 tyX8_ok nmX8 hown hK hP hD hS 0 rfl rfl 9 (by decide) (hts (.fieldLink RX8 101 "WaxTurnsModel" "fault" "I") (zm_X8_gallery_r1 (List.mem_of_getElem? (i := 1) rfl))) (fun _ h9 => h9) rfl (tyX8_ok 9 (by decide)) rfl rfl (Nat.le_of_ble_eq_true rfl) dX8_gallery_29 (fun H locs hP hD hS => ?_)
    refine zs_0 (y := (a0, .inr (8, [Value.int v1na0_0, Value.ref a0_1, Value.int 0, Value.int a0_3, Value.int a0_4, Value.int a0_5, Value.int a0_6, Value.int a0_7, Value.int a0_8, Value.int 0, Value.int a0_10, Value.int v1na0_11, Value.ref a0_12, Value.int a0_13, Value.int a0_14, Value.ref a0_15, Value.ref a0_16, Value.ref a0_17, a0g_18, a0g_19, a0g_20, Value.int a0_21, Value.int a0_22, a0g_23, a0g_24, a0g_25, a0g_26, a0g_27, a0g_28, a0g_29, a0g_30, a0g_31, a0g_32, a0g_33, a0g_34, a0g_35, a0g_36, a0g_37, a0g_38, a0g_39]))) hP hD rfl (fun hP hD => ?_)
    refine lv_aload_n hx hb dX8_gallery_32 rfl (lv_at hl 0 rfl) ?_
    refine lv_iconst (v := 0) hx hb dX8_gallery_33 zk_iconst_0 ?_
    refine va_put (D := (dC, dI)) (ci := 8) (v := .int 0) (ty := .boolean) (C := RX8) (T := TX8) (N := 40) hx hb hts zi_X8_gallery_8 tyX8 tyX8_ok nmX8 hown hK hP hD hS 0 rfl rfl 13 (by decide) (hts (.fieldLink RX8 97 "WaxTurnsModel" "failed" "Z") (zm_X8_gallery_r1 (List.mem_of_getElem? (i := 2) rfl))) (fun _ h9 => h9) rfl (tyX8_ok 13 (by decide)) rfl rfl (Nat.le_of_ble_eq_true rfl) dX8_gallery_34 (fun H locs hP hD hS => ?_)
    refine zs_0 (y := (a0, .inr (8, [Value.int v1na0_0, Value.ref a0_1, Value.int 0, Value.int a0_3, Value.int a0_4, Value.int a0_5, Value.int a0_6, Value.int a0_7, Value.int a0_8, Value.int 0, Value.int a0_10, Value.int v1na0_11, Value.ref a0_12, Value.int 0, Value.int a0_14, Value.ref a0_15, Value.ref a0_16, Value.ref a0_17, a0g_18, a0g_19, a0g_20, Value.int a0_21, Value.int a0_22, a0g_23, a0g_24, a0g_25, a0g_26, a0g_27, a0g_28, a0g_29, a0g_30, a0g_31, a0g_32, a0g_33, a0g_34, a0g_35, a0g_36, a0g_37, a0g_38, a0g_39]))) hP hD rfl (fun hP hD => ?_)
    refine lv_iconst (v := 0) hx hb dX8_gallery_37 zk_iconst_0 ?_
    refine lv_istore_n (lv' := [(2, .int 0), (0, .ref a0), (1, .int a1)]) hx hb dX8_gallery_38 rfl hl (by decide) rfl (fun ls hl => ?_)
    have J39 : ∀ (n : Nat) (j39l2 : Int32) (j39a0_16_a : Nat → Int32) (H : Heap) (locs : List Loc) (ls : Array Slot), (157 : Int) - j39l2.toInt ≤ (n : Int) → (0 : Int) ≤ j39l2.toInt → j39l2.toInt ≤ (156 : Int) → (∀ i : Nat, i < j39l2.toNatClampNeg → j39a0_16_a i = 0) → (FX = fl_wh (fun t9 => Sf_X8_gallery_39_1 a1.toInt a0_10.toInt a0_14.toInt a0_21.toInt a0_22.toInt (fl_A fa0_1) (fl_A fa0_12) (fl_A fa0_15) (fl_A fa0_17) v1na0_0.toInt v1na0_11.toInt t9.1 t9.2) (0, 0, 0, 0, 0, 0, 0, 0, 0, 0, 0, 0, 0, 0, 0, 0, (fun _ => 0), (fun _ => 0), (fun _ => 0), (fun _ => 0)) n (j39l2.toInt, (fl_A j39a0_16_a))) → va_P (dC, dI) vwCl [(a0, .inr (8, [Value.int v1na0_0, Value.ref a0_1, Value.int 0, Value.int a0_3, Value.int a0_4, Value.int a0_5, Value.int a0_6, Value.int a0_7, Value.int a0_8, Value.int 0, Value.int a0_10, Value.int v1na0_11, Value.ref a0_12, Value.int 0, Value.int a0_14, Value.ref a0_15, Value.ref a0_16, Value.ref a0_17, a0g_18, a0g_19, a0g_20, Value.int a0_21, Value.int a0_22, a0g_23, a0g_24, a0g_25, a0g_26, a0g_27, a0g_28, a0g_29, a0g_30, a0g_31, a0g_32, a0g_33, a0g_34, a0g_35, a0g_36, a0g_37, a0g_38, a0g_39])), (a0_16, .inl (ka0_16, 156, .inl (j39a0_16_a))), (a0_1, .inl (ka0_1, 900, .inl (fa0_1))), (a0_12, .inl (ka0_12, 8, .inl (fa0_12))), (a0_15, .inl (ka0_15, 156, .inl (fa0_15))), (a0_17, .inl (ka0_17, 23, .inl (fa0_17)))] H → va_D A [(a0, .inr (8, [Value.int v1na0_0, Value.ref a0_1, Value.int 0, Value.int a0_3, Value.int a0_4, Value.int a0_5, Value.int a0_6, Value.int a0_7, Value.int a0_8, Value.int 0, Value.int a0_10, Value.int v1na0_11, Value.ref a0_12, Value.int 0, Value.int a0_14, Value.ref a0_15, Value.ref a0_16, Value.ref a0_17, a0g_18, a0g_19, a0g_20, Value.int a0_21, Value.int a0_22, a0g_23, a0g_24, a0g_25, a0g_26, a0g_27, a0g_28, a0g_29, a0g_30, a0g_31, a0g_32, a0g_33, a0g_34, a0g_35, a0g_36, a0g_37, a0g_38, a0g_39])), (a0_16, .inl (ka0_16, 156, .inl (j39a0_16_a))), (a0_1, .inl (ka0_1, 900, .inl (fa0_1))), (a0_12, .inl (ka0_12, 8, .inl (fa0_12))), (a0_15, .inl (ka0_15, 156, .inl (fa0_15))), (a0_17, .inl (ka0_17, 23, .inl (fa0_17)))] → va_S A s.heap H locs → lv_has ls 3 [(0, .ref a0), (1, .int a1), (2, .int j39l2)] → K H locs (F0 m 39 ls []) := by
      intro n
      induction n with
      | zero =>
        intro j39l2 j39a0_16_a H locs ls hm bj39l2_l bj39l2_u fz39 hF0 hP hD hS hl
        first | exact zg_0 hm bj39l2_u (by decide) | (have h8 := ai_min j39l2; have h9 := ai_max j39l2; exact absurd hm (by omega))
      | succ n ih39 =>
        intro j39l2 j39a0_16_a H locs ls hm bj39l2_l bj39l2_u fz39 hF0 hP hD hS hl
        refine (hK0 _ _ _).mpr ?_
        have hm39 := hm
        obtain ⟨SX39, hSX39⟩ : ∃ q9, Sf_X8_gallery_39_1 a1.toInt a0_10.toInt a0_14.toInt a0_21.toInt a0_22.toInt (fl_A fa0_1) (fl_A fa0_12) (fl_A fa0_15) (fl_A fa0_17) v1na0_0.toInt v1na0_11.toInt j39l2.toInt (fl_A j39a0_16_a) = q9 := ⟨_, rfl⟩
        have hF1 := hSX39.symm.trans (Sf_X8_gallery_39_1.eq_1 a1.toInt a0_10.toInt a0_14.toInt a0_21.toInt a0_22.toInt (fl_A fa0_1) (fl_A fa0_12) (fl_A fa0_15) (fl_A fa0_17) v1na0_0.toInt v1na0_11.toInt j39l2.toInt (fl_A j39a0_16_a))
        refine lv_iload_n hx hb dX8_gallery_39 rfl (lv_at hl 2 rfl) ?_
        refine lv_sipush (v := 156) hx hb dX8_gallery_40 zk_sipush_156 ?_
        refine lv_icmp_ge (tgt := 59) hx hb dX8_gallery_43 (by decide) (fun c43 => ?_) (fun c43 => ?_)
        · have gc43 := ai_le c43
          have l43t_j39l2 : (156 : Int) ≤ j39l2.toInt := Int.le_trans zq239 gc43
          have hF1 := hF1.trans (if_pos (show 156 ≤ j39l2.toInt from gc43))
          have hF0 := hF0.trans (fl_wh_r (hSX39.trans hF1))
          refine lv_aload_n hx hb dX8_gallery_59 rfl (lv_at hl 0 rfl) ?_
          have hfg59 : ((∀ k : Nat, 0 ≤ k → k ≤ 0 → (0 : Int) ≤ (j39a0_16_a k).toInt ∧ (j39a0_16_a k).toInt ≤ 9) ∧ (∀ k : Nat, 1 ≤ k → k ≤ 1 → (0 : Int) ≤ (j39a0_16_a k).toInt ∧ (j39a0_16_a k).toInt ≤ 20) ∧ (∀ k : Nat, 2 ≤ k → k ≤ 2 → (0 : Int) ≤ (j39a0_16_a k).toInt ∧ (j39a0_16_a k).toInt ≤ 8) ∧ (∀ k : Nat, 3 ≤ k → k ≤ 3 → (0 : Int) ≤ (j39a0_16_a k).toInt ∧ (j39a0_16_a k).toInt ≤ 100) ∧ (∀ k : Nat, 4 ≤ k → k ≤ 4 → (0 : Int) ≤ (j39a0_16_a k).toInt ∧ (j39a0_16_a k).toInt ≤ 9) ∧ (∀ k : Nat, 5 ≤ k → k ≤ 5 → (0 : Int) ≤ (j39a0_16_a k).toInt ∧ (j39a0_16_a k).toInt ≤ 3) ∧ (∀ k : Nat, 6 ≤ k → k ≤ 6 → (0 : Int) ≤ (j39a0_16_a k).toInt ∧ (j39a0_16_a k).toInt ≤ 6) ∧ (∀ k : Nat, 7 ≤ k → k ≤ 9 → (0 : Int) ≤ (j39a0_16_a k).toInt ∧ (j39a0_16_a k).toInt ≤ 8) ∧ (∀ k : Nat, 10 ≤ k → k ≤ 11 → (0 : Int) ≤ (j39a0_16_a k).toInt ∧ (j39a0_16_a k).toInt ≤ 1) ∧ (∀ k : Nat, 12 ≤ k → k ≤ 29 → (0 : Int) ≤ (j39a0_16_a k).toInt ∧ (j39a0_16_a k).toInt ≤ 20) ∧ (∀ k : Nat, 30 ≤ k → k ≤ 35 → (0 : Int) ≤ (j39a0_16_a k).toInt ∧ (j39a0_16_a k).toInt ≤ 8) ∧ (∀ k : Nat, 36 ≤ k → k ≤ 47 → (0 : Int) ≤ (j39a0_16_a k).toInt ∧ (j39a0_16_a k).toInt ≤ 999) ∧ (∀ k : Nat, 48 ≤ k → k ≤ 59 → (0 : Int) ≤ (j39a0_16_a k).toInt ∧ (j39a0_16_a k).toInt ≤ 8) ∧ ((1 : Int) ≤ (j39a0_16_a 11).toInt → (2 : Int) ≤ (j39a0_16_a 0).toInt ∧ (1 : Int) ≤ (j39a0_16_a 1).toInt) ∧ (∀ (j i0 i : Int32), (0 : Int) ≤ j.toInt → j.toInt ≤ 8 → i0.toInt = 12 + 2 * j.toInt → i.toInt = 13 + 2 * j.toInt → (j39a0_16_a i0.toNatClampNeg).toInt = (1 : Int32).toInt → (1 : Int) ≤ (j39a0_16_a i.toNatClampNeg).toInt)) := fg_z (fg_ze fz39 (by omega))
          refine lv_iload_n hx hb dX8_gallery_60 rfl (lv_at hl 1 rfl) ?_
          refine va_put (D := (dC, dI)) (ci := 8) (v := .int a1) (ty := .int) (C := RX8) (T := TX8) (N := 40) hx hb hts zi_X8_gallery_8 tyX8 tyX8_ok nmX8 hown hK hP hD hS 0 rfl rfl 3 (by decide) (hts (.fieldLink RX8 68 "WaxTurnsModel" "size" "I") (zm_X8_gallery_r1 (List.mem_of_getElem? (i := 4) rfl))) (fun _ h9 => h9) rfl (tyX8_ok 3 (by decide)) rfl rfl (Nat.le_of_ble_eq_true rfl) dX8_gallery_61 (fun H locs hP hD hS => ?_)
          refine zs_0 (y := (a0, .inr (8, [Value.int v1na0_0, Value.ref a0_1, Value.int 0, Value.int a1, Value.int a0_4, Value.int a0_5, Value.int a0_6, Value.int a0_7, Value.int a0_8, Value.int 0, Value.int a0_10, Value.int v1na0_11, Value.ref a0_12, Value.int 0, Value.int a0_14, Value.ref a0_15, Value.ref a0_16, Value.ref a0_17, a0g_18, a0g_19, a0g_20, Value.int a0_21, Value.int a0_22, a0g_23, a0g_24, a0g_25, a0g_26, a0g_27, a0g_28, a0g_29, a0g_30, a0g_31, a0g_32, a0g_33, a0g_34, a0g_35, a0g_36, a0g_37, a0g_38, a0g_39]))) hP hD rfl (fun hP hD => ?_)
          refine lv_aload_n hx hb dX8_gallery_64 rfl (lv_at hl 0 rfl) ?_
          refine lv_iconst (v := 0) hx hb dX8_gallery_65 zk_iconst_0 ?_
          refine va_put (D := (dC, dI)) (ci := 8) (v := .int 0) (ty := .int) (C := RX8) (T := TX8) (N := 40) hx hb hts zi_X8_gallery_8 tyX8 tyX8_ok nmX8 hown hK hP hD hS 0 rfl rfl 5 (by decide) (hts (.fieldLink RX8 71 "WaxTurnsModel" "end" "I") (zm_X8_gallery_r1 (List.mem_of_getElem? (i := 5) rfl))) (fun _ h9 => h9) rfl (tyX8_ok 5 (by decide)) rfl rfl (Nat.le_of_ble_eq_true rfl) dX8_gallery_66 (fun H locs hP hD hS => ?_)
          refine zs_0 (y := (a0, .inr (8, [Value.int v1na0_0, Value.ref a0_1, Value.int 0, Value.int a1, Value.int a0_4, Value.int 0, Value.int a0_6, Value.int a0_7, Value.int a0_8, Value.int 0, Value.int a0_10, Value.int v1na0_11, Value.ref a0_12, Value.int 0, Value.int a0_14, Value.ref a0_15, Value.ref a0_16, Value.ref a0_17, a0g_18, a0g_19, a0g_20, Value.int a0_21, Value.int a0_22, a0g_23, a0g_24, a0g_25, a0g_26, a0g_27, a0g_28, a0g_29, a0g_30, a0g_31, a0g_32, a0g_33, a0g_34, a0g_35, a0g_36, a0g_37, a0g_38, a0g_39]))) hP hD rfl (fun hP hD => ?_)
          refine lv_aload_n hx hb dX8_gallery_69 rfl (lv_at hl 0 rfl) ?_
          refine zc_cutc (wc := [(a0, .inr (8, [Value.int v1na0_0, Value.ref a0_1, Value.int 0, Value.int a1, Value.int a0_4, Value.int 0, Value.int a0_6, Value.int a0_7, Value.int a0_8, Value.int 0, Value.int a0_10, Value.int v1na0_11, Value.ref a0_12, Value.int 0, Value.int a0_14, Value.ref a0_15, Value.ref a0_16, Value.ref a0_17, a0g_18, a0g_19, a0g_20, Value.int a0_21, Value.int a0_22, a0g_23, a0g_24, a0g_25, a0g_26, a0g_27, a0g_28, a0g_29, a0g_30, a0g_31, a0g_32, a0g_33, a0g_34, a0g_35, a0g_36, a0g_37, a0g_38, a0g_39])), (a0_1, .inl (ka0_1, 900, .inl (fa0_1))), (a0_12, .inl (ka0_12, 8, .inl (fa0_12)))]) hP hD hS hA [0, 2, 3] (by decide +kernel) rfl (fun hPc hDc hFc hCc => ?_)
          have hKc := hK.sub (tys' := [(ka0_1, .int), (ka0_12, .int)]) [1, 2] rfl
          refine va_callv (va_runV (As := []) (rest := []) ⟨hx, hb, hml, hown, hts⟩ (f_X8_next l dC dI H.size a0 (Value.int v1na0_0) (Value.int 0) (Value.int 0) (Value.int a0_10) (Value.int v1na0_11) (Value.int 0) (Value.int a0_14) (Value.ref a0_15) (Value.ref a0_16) (Value.ref a0_17) a0g_18 a0g_19 a0g_20 (Value.int a0_21) (Value.int a0_22) a0g_23 a0g_24 a0g_25 a0g_26 a0g_27 a0g_28 a0g_29 a0g_30 a0g_31 a0g_32 a0g_33 a0g_34 a0g_35 a0g_36 a0g_37 a0g_38 a0g_39 a0_1 a1 a0_4 0 a0_6 a0_7 a0_8 a0_12 ka0_1 fa0_1 ka0_12 fa0_12 l10k0_a1 u10k0_a1 zq5 (Int.le_trans zq6 zq40) ba0_8_l ba0_8_u) (cwV 0 hts gX8_gallery_X8_next rfl rfl rfl zd_X8_next ⟨Nat.le_of_ble_eq_true rfl, Nat.le_of_ble_eq_true rfl⟩) ⟨ax_blind (fun _ _ _ _ _ => trivial), zr_8 hKc hPc (q0 := 0) rfl, ax_pre hPc hKc hDc (fun _ _ => trivial)⟩ rfl rfl hl.1 rfl (lv_room (Nat.le_of_ble_eq_true rfl)) dX8_gallery_70 ⟨Nat.le_of_ble_eq_true rfl, Nat.le_of_ble_eq_true rfl⟩) hS (fun q _ h => hFc q h) hFc (fun u t H locs ht hvm hw => zx_6 (fun v70na0_4 v70na0_5 v70na0_6 v70na0_7 v70na0_8 v70nfa0_12 => zy_5 (fun bv70na0_5 bv70na0_8 hraw70_0 hraw70_1 hraw70_2 hB hz1 hk1 hS1 => zo hB ht hS1 (fun hP1 hK1 hD1 hS => ?_))))
          refine zc_backc (w := [(a0, .inr (8, [Value.int v1na0_0, Value.ref a0_1, Value.int 0, Value.int a1, Value.int v70na0_4, Value.int v70na0_5, Value.int v70na0_6, Value.int v70na0_7, Value.int v70na0_8, Value.int 0, Value.int a0_10, Value.int v1na0_11, Value.ref a0_12, Value.int 0, Value.int a0_14, Value.ref a0_15, Value.ref a0_16, Value.ref a0_17, a0g_18, a0g_19, a0g_20, Value.int a0_21, Value.int a0_22, a0g_23, a0g_24, a0g_25, a0g_26, a0g_27, a0g_28, a0g_29, a0g_30, a0g_31, a0g_32, a0g_33, a0g_34, a0g_35, a0g_36, a0g_37, a0g_38, a0g_39])), (a0_16, .inl (ka0_16, 156, .inl (j39a0_16_a))), (a0_1, .inl (ka0_1, 900, .inl (fa0_1))), (a0_12, .inl (ka0_12, 8, .inl (v70nfa0_12))), (a0_15, .inl (ka0_15, 156, .inl (fa0_15))), (a0_17, .inl (ka0_17, 23, .inl (fa0_17)))]) hP hD hCc hk1 hFc hP1 hD1 [.inr 0, .inl 1, .inr 1, .inr 2, .inl 4, .inl 5] (by decide +kernel) rfl (fun hP hD => ?_)
          rw [show (0 : Int32).toInt = 0 from by decide] at hraw70_2
          have hc70 : Ff_X8_next a1.toInt 0 (fl_A fa0_1) (fl_A fa0_12) = (v70na0_4.toInt, v70na0_5.toInt, v70na0_6.toInt, v70na0_7.toInt, v70na0_8.toInt, (fl_A v70nfa0_12)) := hraw70_2
          have hF0 := hF0.trans (fl_c6_eq hc70)
          refine lv_aload_n hx hb dX8_gallery_73 rfl (lv_at hl 0 rfl) ?_
          refine zc_cutc (wc := [(a0, .inr (8, [Value.int v1na0_0, Value.ref a0_1, Value.int 0, Value.int a1, Value.int v70na0_4, Value.int v70na0_5, Value.int v70na0_6, Value.int v70na0_7, Value.int v70na0_8, Value.int 0, Value.int a0_10, Value.int v1na0_11, Value.ref a0_12, Value.int 0, Value.int a0_14, Value.ref a0_15, Value.ref a0_16, Value.ref a0_17, a0g_18, a0g_19, a0g_20, Value.int a0_21, Value.int a0_22, a0g_23, a0g_24, a0g_25, a0g_26, a0g_27, a0g_28, a0g_29, a0g_30, a0g_31, a0g_32, a0g_33, a0g_34, a0g_35, a0g_36, a0g_37, a0g_38, a0g_39])), (a0_12, .inl (ka0_12, 8, .inl (v70nfa0_12))), (a0_16, .inl (ka0_16, 156, .inl (j39a0_16_a))), (a0_1, .inl (ka0_1, 900, .inl (fa0_1)))]) hP hD hS hA [0, 3, 1, 2] (by decide +kernel) rfl (fun hPc hDc hFc hCc => ?_)
          have hKc := hK.sub (tys' := [(ka0_12, .int), (ka0_16, .int), (ka0_1, .int)]) [2, 0, 1] rfl
          refine va_callv (va_runV (As := []) (rest := []) ⟨hx, hb, hml, hown, hts⟩ (fG_X8_readLine l dC dI H.size a0 (Value.int v1na0_0) (Value.int 0) (Value.int v1na0_11) (Value.int a0_14) (Value.ref a0_15) (Value.ref a0_17) a0g_18 a0g_19 a0g_20 (Value.int a0_21) (Value.int a0_22) a0g_23 a0g_24 a0g_25 a0g_26 a0g_27 a0g_28 a0g_29 a0g_30 a0g_31 a0g_32 a0g_33 a0g_34 a0g_35 a0g_36 a0g_37 a0g_38 a0g_39 a0_1 a1 v70na0_4 v70na0_5 v70na0_6 v70na0_7 v70na0_8 0 a0_10 a0_12 a0_16 ka0_12 v70nfa0_12 ka0_16 j39a0_16_a ka0_1 fa0_1 ad l10k0_a1 u10k0_a1 bv70na0_5.1 bv70na0_5.2 bv70na0_8.1 bv70na0_8.2 hfg59 hraw70_0) (cwV 0 hts gX8_gallery_X8_readLine rfl rfl rfl zd_X8_readLine ⟨Nat.le_of_ble_eq_true rfl, Nat.le_of_ble_eq_true rfl⟩) ⟨ax_blind (fun _ _ _ _ hq => sxc_T_same _ _ _ _ (hq)), zr_8 hKc hPc (q0 := 0) rfl, ax_preE hPc hKc hDc (fun U hU hW => sxc_T_to hE0 hS.2.1 hFc hU hW)⟩ rfl rfl hl.1 rfl (lv_room (Nat.le_of_ble_eq_true rfl)) dX8_gallery_74 ⟨Nat.le_of_ble_eq_true rfl, Nat.le_of_ble_eq_true rfl⟩) hS (fun q _ h => hFc q h) hFc (fun u t H locs ht hvm hw => zx_10 (fun v74na0_4 v74na0_5 v74na0_6 v74na0_7 v74na0_8 v74na0_9 v74na0_10 v74na0_13 v74nfa0_12 v74nfa0_16 => zy_7 (fun bv74na0_5 bv74na0_8 bv74na0_13 bv74nfa0_16 hraw74_0 hraw74_1 hraw74_2 hB hz1 hk1 hS1 => zo hB ht hS1 (fun hP1 hK1 hD1 hS => ?_))))
          refine zc_backc (w := [(a0, .inr (8, [Value.int v1na0_0, Value.ref a0_1, Value.int 0, Value.int a1, Value.int v74na0_4, Value.int v74na0_5, Value.int v74na0_6, Value.int v74na0_7, Value.int v74na0_8, Value.int v74na0_9, Value.int v74na0_10, Value.int v1na0_11, Value.ref a0_12, Value.int v74na0_13, Value.int a0_14, Value.ref a0_15, Value.ref a0_16, Value.ref a0_17, a0g_18, a0g_19, a0g_20, Value.int a0_21, Value.int a0_22, a0g_23, a0g_24, a0g_25, a0g_26, a0g_27, a0g_28, a0g_29, a0g_30, a0g_31, a0g_32, a0g_33, a0g_34, a0g_35, a0g_36, a0g_37, a0g_38, a0g_39])), (a0_16, .inl (ka0_16, 156, .inl (v74nfa0_16))), (a0_1, .inl (ka0_1, 900, .inl (fa0_1))), (a0_12, .inl (ka0_12, 8, .inl (v74nfa0_12))), (a0_15, .inl (ka0_15, 156, .inl (fa0_15))), (a0_17, .inl (ka0_17, 23, .inl (fa0_17)))]) hP hD hCc hk1 hFc hP1 hD1 [.inr 0, .inr 2, .inr 3, .inr 1, .inl 4, .inl 5] (by decide +kernel) rfl (fun hP hD => ?_)
          rw [show (0 : Int32).toInt = 0 from by decide] at hraw74_2
          have hc74 : FfG_X8_readLine a1.toInt v70na0_4.toInt v70na0_5.toInt v70na0_6.toInt v70na0_7.toInt v70na0_8.toInt 0 a0_10.toInt (fl_A v70nfa0_12) (fl_A j39a0_16_a) (fl_A fa0_1) = (v74na0_4.toInt, v74na0_5.toInt, v74na0_6.toInt, v74na0_7.toInt, v74na0_8.toInt, v74na0_9.toInt, v74na0_10.toInt, v74na0_13.toInt, (fl_A v74nfa0_12), (fl_A v74nfa0_16)) := hraw74_2
          have hF0 := hF0.trans (fl_c10_eq hc74)
          have J77 : ∀ (n : Nat) (j77a0_4 : Int32) (j77a0_5 : Int32) (j77a0_6 : Int32) (j77a0_7 : Int32) (j77a0_8 : Int32) (j77a0_9 : Int32) (j77a0_10 : Int32) (j77a0_16_a : Nat → Int32) (j77a0_12_a : Nat → Int32) (H : Heap) (locs : List Loc) (ls : Array Slot), ((2 * ((901 : Int) - j77a0_5.toInt) ≤ (n : Int)) ∧ (j77a0_6.toInt = 59 → 2 * ((901 : Int) - j77a0_5.toInt) + 1 ≤ (n : Int))) → (0 : Int) ≤ j77a0_5.toInt → j77a0_5.toInt ≤ (900 : Int) → (0 : Int) ≤ j77a0_8.toInt → j77a0_8.toInt ≤ (900 : Int) → (((∀ k : Nat, 0 ≤ k → k ≤ 0 → (0 : Int) ≤ (j77a0_16_a k).toInt ∧ (j77a0_16_a k).toInt ≤ 9) ∧ (∀ k : Nat, 1 ≤ k → k ≤ 1 → (0 : Int) ≤ (j77a0_16_a k).toInt ∧ (j77a0_16_a k).toInt ≤ 20) ∧ (∀ k : Nat, 2 ≤ k → k ≤ 2 → (0 : Int) ≤ (j77a0_16_a k).toInt ∧ (j77a0_16_a k).toInt ≤ 8) ∧ (∀ k : Nat, 3 ≤ k → k ≤ 3 → (0 : Int) ≤ (j77a0_16_a k).toInt ∧ (j77a0_16_a k).toInt ≤ 100) ∧ (∀ k : Nat, 4 ≤ k → k ≤ 4 → (0 : Int) ≤ (j77a0_16_a k).toInt ∧ (j77a0_16_a k).toInt ≤ 9) ∧ (∀ k : Nat, 5 ≤ k → k ≤ 5 → (0 : Int) ≤ (j77a0_16_a k).toInt ∧ (j77a0_16_a k).toInt ≤ 3) ∧ (∀ k : Nat, 6 ≤ k → k ≤ 6 → (0 : Int) ≤ (j77a0_16_a k).toInt ∧ (j77a0_16_a k).toInt ≤ 6) ∧ (∀ k : Nat, 7 ≤ k → k ≤ 9 → (0 : Int) ≤ (j77a0_16_a k).toInt ∧ (j77a0_16_a k).toInt ≤ 8) ∧ (∀ k : Nat, 10 ≤ k → k ≤ 11 → (0 : Int) ≤ (j77a0_16_a k).toInt ∧ (j77a0_16_a k).toInt ≤ 1) ∧ (∀ k : Nat, 12 ≤ k → k ≤ 29 → (0 : Int) ≤ (j77a0_16_a k).toInt ∧ (j77a0_16_a k).toInt ≤ 20) ∧ (∀ k : Nat, 30 ≤ k → k ≤ 35 → (0 : Int) ≤ (j77a0_16_a k).toInt ∧ (j77a0_16_a k).toInt ≤ 8) ∧ (∀ k : Nat, 36 ≤ k → k ≤ 47 → (0 : Int) ≤ (j77a0_16_a k).toInt ∧ (j77a0_16_a k).toInt ≤ 999) ∧ (∀ k : Nat, 48 ≤ k → k ≤ 59 → (0 : Int) ≤ (j77a0_16_a k).toInt ∧ (j77a0_16_a k).toInt ≤ 8) ∧ ((1 : Int) ≤ (j77a0_16_a 11).toInt → (2 : Int) ≤ (j77a0_16_a 0).toInt ∧ (1 : Int) ≤ (j77a0_16_a 1).toInt) ∧ (∀ (j i0 i : Int32), (0 : Int) ≤ j.toInt → j.toInt ≤ 8 → i0.toInt = 12 + 2 * j.toInt → i.toInt = 13 + 2 * j.toInt → (j77a0_16_a i0.toNatClampNeg).toInt = (1 : Int32).toInt → (1 : Int) ≤ (j77a0_16_a i.toNatClampNeg).toInt))) → (FX = fl_wh (fun t9 => Sf_X8_gallery_77_1 a1.toInt a0_14.toInt a0_21.toInt a0_22.toInt (fl_A fa0_1) (fl_A fa0_15) (fl_A fa0_17) v1na0_0.toInt v1na0_11.toInt t9.1 t9.2.1 t9.2.2.1 t9.2.2.2.1 t9.2.2.2.2.1 t9.2.2.2.2.2.1 t9.2.2.2.2.2.2.1 t9.2.2.2.2.2.2.2.1 t9.2.2.2.2.2.2.2.2) (0, 0, 0, 0, 0, 0, 0, 0, 0, 0, 0, 0, 0, 0, 0, 0, (fun _ => 0), (fun _ => 0), (fun _ => 0), (fun _ => 0)) n (j77a0_4.toInt, j77a0_5.toInt, j77a0_6.toInt, j77a0_7.toInt, j77a0_8.toInt, j77a0_9.toInt, j77a0_10.toInt, (fl_A j77a0_16_a), (fl_A j77a0_12_a))) → va_P (dC, dI) vwCl [(a0, .inr (8, [Value.int v1na0_0, Value.ref a0_1, Value.int 0, Value.int a1, Value.int j77a0_4, Value.int j77a0_5, Value.int j77a0_6, Value.int j77a0_7, Value.int j77a0_8, Value.int j77a0_9, Value.int j77a0_10, Value.int v1na0_11, Value.ref a0_12, Value.int 0, Value.int a0_14, Value.ref a0_15, Value.ref a0_16, Value.ref a0_17, a0g_18, a0g_19, a0g_20, Value.int a0_21, Value.int a0_22, a0g_23, a0g_24, a0g_25, a0g_26, a0g_27, a0g_28, a0g_29, a0g_30, a0g_31, a0g_32, a0g_33, a0g_34, a0g_35, a0g_36, a0g_37, a0g_38, a0g_39])), (a0_16, .inl (ka0_16, 156, .inl (j77a0_16_a))), (a0_1, .inl (ka0_1, 900, .inl (fa0_1))), (a0_12, .inl (ka0_12, 8, .inl (j77a0_12_a))), (a0_15, .inl (ka0_15, 156, .inl (fa0_15))), (a0_17, .inl (ka0_17, 23, .inl (fa0_17)))] H → va_D A [(a0, .inr (8, [Value.int v1na0_0, Value.ref a0_1, Value.int 0, Value.int a1, Value.int j77a0_4, Value.int j77a0_5, Value.int j77a0_6, Value.int j77a0_7, Value.int j77a0_8, Value.int j77a0_9, Value.int j77a0_10, Value.int v1na0_11, Value.ref a0_12, Value.int 0, Value.int a0_14, Value.ref a0_15, Value.ref a0_16, Value.ref a0_17, a0g_18, a0g_19, a0g_20, Value.int a0_21, Value.int a0_22, a0g_23, a0g_24, a0g_25, a0g_26, a0g_27, a0g_28, a0g_29, a0g_30, a0g_31, a0g_32, a0g_33, a0g_34, a0g_35, a0g_36, a0g_37, a0g_38, a0g_39])), (a0_16, .inl (ka0_16, 156, .inl (j77a0_16_a))), (a0_1, .inl (ka0_1, 900, .inl (fa0_1))), (a0_12, .inl (ka0_12, 8, .inl (j77a0_12_a))), (a0_15, .inl (ka0_15, 156, .inl (fa0_15))), (a0_17, .inl (ka0_17, 23, .inl (fa0_17)))] → va_S A s.heap H locs → lv_has ls 3 [(0, .ref a0)] → K H locs (F0 m 77 ls []) := by
            intro n
            induction n with
            | zero =>
              intro j77a0_4 j77a0_5 j77a0_6 j77a0_7 j77a0_8 j77a0_9 j77a0_10 j77a0_16_a j77a0_12_a H locs ls hm bj77a0_5_l bj77a0_5_u bj77a0_8_l bj77a0_8_u fgc77 hF0 hP hD hS hl
              exact absurd hm.1 (by omega)
            | succ n ih77 =>
              intro j77a0_4 j77a0_5 j77a0_6 j77a0_7 j77a0_8 j77a0_9 j77a0_10 j77a0_16_a j77a0_12_a H locs ls hm bj77a0_5_l bj77a0_5_u bj77a0_8_l bj77a0_8_u fgc77 hF0 hP hD hS hl
              refine (hK0 _ _ _).mpr ?_
              have hm77 := hm
              obtain ⟨SX77, hSX77⟩ : ∃ q9, Sf_X8_gallery_77_1 a1.toInt a0_14.toInt a0_21.toInt a0_22.toInt (fl_A fa0_1) (fl_A fa0_15) (fl_A fa0_17) v1na0_0.toInt v1na0_11.toInt j77a0_4.toInt j77a0_5.toInt j77a0_6.toInt j77a0_7.toInt j77a0_8.toInt j77a0_9.toInt j77a0_10.toInt (fl_A j77a0_16_a) (fl_A j77a0_12_a) = q9 := ⟨_, rfl⟩
              have hF1 := hSX77.symm.trans (Sf_X8_gallery_77_1.eq_1 a1.toInt a0_14.toInt a0_21.toInt a0_22.toInt (fl_A fa0_1) (fl_A fa0_15) (fl_A fa0_17) v1na0_0.toInt v1na0_11.toInt j77a0_4.toInt j77a0_5.toInt j77a0_6.toInt j77a0_7.toInt j77a0_8.toInt j77a0_9.toInt j77a0_10.toInt (fl_A j77a0_16_a) (fl_A j77a0_12_a))
              refine lv_aload_n hx hb dX8_gallery_77 rfl (lv_at hl 0 rfl) ?_
              refine va_get (D := (dC, dI)) (ci := 8) (v := .int 0) (C := RX8) (T := TX8) (N := 40) hx hb hts zi_X8_gallery_8 hown hK hP 0 rfl rfl 13 (by decide) (hts (.fieldLink RX8 97 "WaxTurnsModel" "failed" "Z") (zm_X8_gallery_r1 (List.mem_of_getElem? (i := 2) rfl))) (fun _ h9 => h9) rfl dX8_gallery_78 ?_
              refine lv_if_ne (tgt := 104) hx hb dX8_gallery_81 (by decide) (fun c81 => absurd (by decide +kernel) c81) (fun _ => ?_)
              refine lv_aload_n hx hb dX8_gallery_84 rfl (lv_at hl 0 rfl) ?_
              refine va_get (D := (dC, dI)) (ci := 8) (v := .int j77a0_6) (C := RX8) (T := TX8) (N := 40) hx hb hts zi_X8_gallery_8 hown hK hP 0 rfl rfl 6 (by decide) (hts (.fieldLink RX8 87 "WaxTurnsModel" "token" "I") (zm_X8_gallery_r1 (List.mem_of_getElem? (i := 6) rfl))) (fun _ h9 => h9) rfl dX8_gallery_85 ?_
              refine lv_bipush (v := 59) hx hb dX8_gallery_88 zk_bipush_59 ?_
              refine lv_icmp_ne (tgt := 104) hx hb dX8_gallery_90 (by decide) (fun c90 => ?_) (fun c90 => ?_)
              · have gc90 := ai_ne c90
                have hF1 := hF1.trans (if_neg (show ¬ (j77a0_6.toInt = 59) from  gc90))
                have hF0 := hF0.trans (fl_wh_r (hSX77.trans hF1))
                refine lv_aload_n hx hb dX8_gallery_104 rfl (lv_at hl 0 rfl) ?_
                refine va_get (D := (dC, dI)) (ci := 8) (v := .int 0) (C := RX8) (T := TX8) (N := 40) hx hb hts zi_X8_gallery_8 hown hK hP 0 rfl rfl 13 (by decide) (hts (.fieldLink RX8 97 "WaxTurnsModel" "failed" "Z") (zm_X8_gallery_r1 (List.mem_of_getElem? (i := 2) rfl))) (fun _ h9 => h9) rfl dX8_gallery_105 ?_
                refine lv_if_ne (tgt := 127) hx hb dX8_gallery_108 (by decide) (fun c108 => absurd (by decide +kernel) c108) (fun _ => ?_)
                refine lv_aload_n hx hb dX8_gallery_111 rfl (lv_at hl 0 rfl) ?_
                refine va_get (D := (dC, dI)) (ci := 8) (v := .int j77a0_6) (C := RX8) (T := TX8) (N := 40) hx hb hts zi_X8_gallery_8 hown hK hP 0 rfl rfl 6 (by decide) (hts (.fieldLink RX8 87 "WaxTurnsModel" "token" "I") (zm_X8_gallery_r1 (List.mem_of_getElem? (i := 6) rfl))) (fun _ h9 => h9) rfl dX8_gallery_112 ?_
                refine lv_if_eq (tgt := 127) hx hb dX8_gallery_115 (by decide) (fun c115 => ?_) (fun c115 => ?_)
                · have gc115 := ai_eq c115
                  have u115t_j77a0_6 : j77a0_6.toInt ≤ (0 : Int) := Int.le_trans (Int.le_of_eq gc115) zq6
                  have l115t_j77a0_6 : (0 : Int) ≤ j77a0_6.toInt := Int.le_trans zq5 (Int.le_of_eq gc115.symm)
                  have hF0 := hF0.trans (if_pos (show j77a0_6.toInt = 0 from gc115))
                  refine lv_aload_n hx hb dX8_gallery_127 rfl (lv_at hl 0 rfl) ?_
                  refine va_get (D := (dC, dI)) (ci := 8) (v := .int 0) (C := RX8) (T := TX8) (N := 40) hx hb hts zi_X8_gallery_8 hown hK hP 0 rfl rfl 13 (by decide) (hts (.fieldLink RX8 97 "WaxTurnsModel" "failed" "Z") (zm_X8_gallery_r1 (List.mem_of_getElem? (i := 2) rfl))) (fun _ h9 => h9) rfl dX8_gallery_128 ?_
                  refine lv_if_ne (tgt := 164) hx hb dX8_gallery_131 (by decide) (fun c131 => absurd (by decide +kernel) c131) (fun _ => ?_)
                  refine lv_aload_n hx hb dX8_gallery_134 rfl (lv_at hl 0 rfl) ?_
                  refine va_get (D := (dC, dI)) (ci := 8) (v := .ref a0_16) (C := RX8) (T := TX8) (N := 40) hx hb hts zi_X8_gallery_8 hown hK hP 0 rfl rfl 16 (by decide) (hts (.fieldLink RX8 23 "WaxTurnsModel" "fresh" "[I") (zm_X8_gallery_r1 (List.mem_of_getElem? (i := 3) rfl))) (fun _ h9 => h9) rfl dX8_gallery_135 ?_
                  refine lv_bipush (v := 11) hx hb dX8_gallery_138 zk_bipush_11 ?_
                  refine va_iald hx hb hK hP 1 0 rfl rfl (by unfold vp_in; decide +kernel) dX8_gallery_140 ?_
                  refine lv_topi (fun x140 ex140 => ?_)
                  have bx140 : (0 : Int) ≤ x140.toInt ∧ x140.toInt ≤ 1 := by rw [ex140]; exact ai_rd fgc77.2.2.2.2.2.2.2.2.1 zq117 zq118 (by decide) (by decide) (by decide)
                  have fqx140 := congrArg Int32.toInt ex140
                  have hF0 := hF0.trans (fl_lt_eq (show x140.toInt = (fl_A j77a0_16_a) (11) from fqx140))
                  have J154 : ∀ (H : Heap) (locs : List Loc) (ls : Array Slot), (FX = Gf_X8_gallery_154_1 a1.toInt a0_14.toInt a0_21.toInt a0_22.toInt (fl_A fa0_15) (fl_A fa0_17) v1na0_0.toInt j77a0_4.toInt j77a0_5.toInt j77a0_6.toInt j77a0_7.toInt j77a0_8.toInt (fl_A j77a0_16_a) (fl_A j77a0_12_a)) → va_P (dC, dI) vwCl [(a0, .inr (8, [Value.int v1na0_0, Value.ref a0_1, Value.int 0, Value.int a1, Value.int j77a0_4, Value.int j77a0_5, Value.int j77a0_6, Value.int j77a0_7, Value.int j77a0_8, Value.int j77a0_9, Value.int j77a0_10, Value.int v1na0_11, Value.ref a0_12, Value.int 0, Value.int a0_14, Value.ref a0_15, Value.ref a0_16, Value.ref a0_17, a0g_18, a0g_19, a0g_20, Value.int a0_21, Value.int a0_22, a0g_23, a0g_24, a0g_25, a0g_26, a0g_27, a0g_28, a0g_29, a0g_30, a0g_31, a0g_32, a0g_33, a0g_34, a0g_35, a0g_36, a0g_37, a0g_38, a0g_39])), (a0_16, .inl (ka0_16, 156, .inl (j77a0_16_a))), (a0_1, .inl (ka0_1, 900, .inl (fa0_1))), (a0_12, .inl (ka0_12, 8, .inl (j77a0_12_a))), (a0_15, .inl (ka0_15, 156, .inl (fa0_15))), (a0_17, .inl (ka0_17, 23, .inl (fa0_17)))] H → va_D A [(a0, .inr (8, [Value.int v1na0_0, Value.ref a0_1, Value.int 0, Value.int a1, Value.int j77a0_4, Value.int j77a0_5, Value.int j77a0_6, Value.int j77a0_7, Value.int j77a0_8, Value.int j77a0_9, Value.int j77a0_10, Value.int v1na0_11, Value.ref a0_12, Value.int 0, Value.int a0_14, Value.ref a0_15, Value.ref a0_16, Value.ref a0_17, a0g_18, a0g_19, a0g_20, Value.int a0_21, Value.int a0_22, a0g_23, a0g_24, a0g_25, a0g_26, a0g_27, a0g_28, a0g_29, a0g_30, a0g_31, a0g_32, a0g_33, a0g_34, a0g_35, a0g_36, a0g_37, a0g_38, a0g_39])), (a0_16, .inl (ka0_16, 156, .inl (j77a0_16_a))), (a0_1, .inl (ka0_1, 900, .inl (fa0_1))), (a0_12, .inl (ka0_12, 8, .inl (j77a0_12_a))), (a0_15, .inl (ka0_15, 156, .inl (fa0_15))), (a0_17, .inl (ka0_17, 23, .inl (fa0_17)))] → va_S A s.heap H locs → lv_has ls 3 [(0, .ref a0)] → K H locs (F0 m 154 ls []) := by
                    intro  H locs ls  hF0 hP hD hS hl
                    refine (hK0 _ _ _).mpr ?_
                    have hF0 := hF0.trans (Gf_X8_gallery_154_1.eq_1 a1.toInt a0_14.toInt a0_21.toInt a0_22.toInt (fl_A fa0_15) (fl_A fa0_17) v1na0_0.toInt j77a0_4.toInt j77a0_5.toInt j77a0_6.toInt j77a0_7.toInt j77a0_8.toInt (fl_A j77a0_16_a) (fl_A j77a0_12_a))
                    refine lv_aload_n hx hb dX8_gallery_154 rfl (lv_at hl 0 rfl) ?_
                    refine lv_bipush (v := 6) hx hb dX8_gallery_155 zk_bipush_6 ?_
                    refine lv_aload_n hx hb dX8_gallery_157 rfl (lv_at hl 0 rfl) ?_
                    refine va_get (D := (dC, dI)) (ci := 8) (v := .int j77a0_4) (C := RX8) (T := TX8) (N := 40) hx hb hts zi_X8_gallery_8 hown hK hP 0 rfl rfl 4 (by decide) (hts (.fieldLink RX8 78 "WaxTurnsModel" "at" "I") (zm_X8_gallery_r1 (List.mem_of_getElem? (i := 7) rfl))) (fun _ h9 => h9) rfl dX8_gallery_158 ?_
                    refine va_callv (va_runV (As := [.int 6, .int j77a0_4]) (rest := []) ⟨hx, hb, hml, hown, hts⟩ (fG_X8_wrong l dC dI H.size a0 6 j77a0_4 (Value.int v1na0_0) (Value.ref a0_1) (Value.int 0) (Value.int a1) (Value.int j77a0_4) (Value.int j77a0_5) (Value.int j77a0_6) (Value.int j77a0_7) (Value.int j77a0_8) (Value.int v1na0_11) (Value.ref a0_12) (Value.int a0_14) (Value.ref a0_15) (Value.ref a0_16) (Value.ref a0_17) a0g_18 a0g_19 a0g_20 (Value.int a0_21) (Value.int a0_22) a0g_23 a0g_24 a0g_25 a0g_26 a0g_27 a0g_28 a0g_29 a0g_30 a0g_31 a0g_32 a0g_33 a0g_34 a0g_35 a0g_36 a0g_37 a0g_38 a0g_39 j77a0_9 j77a0_10 ) (cwV 2 hts gX8_gallery_X8_wrong rfl rfl rfl zd_X8_wrong ⟨Nat.le_of_ble_eq_true rfl, Nat.le_of_ble_eq_true rfl⟩) ⟨ax_blind (fun _ _ _ _ _ => trivial), zr_8 (zp_K hK) (zp_P1 hP) (q0 := 0) rfl, ax_pre (zp_P1 hP) (zp_K hK) (zp_D1 hD) (fun _ _ => trivial)⟩ rfl rfl hl.1 rfl (lv_room (Nat.le_of_ble_eq_true rfl)) dX8_gallery_161 ⟨Nat.le_of_ble_eq_true rfl, Nat.le_of_ble_eq_true rfl⟩) hS (fun q _ h => zp_F1 hD hS hA q h) (zp_F1 hD hS hA) (fun u t H locs ht hvm hw => zx_2 (fun v161na0_9 v161na0_10 => zy_1 (fun hraw161_0 hB hz1 hk1 hS1 => zo1 hB ht hP hD hk1 (zp_F1 hD hS hA) hS1 (fun hP hK1 hD hS => ?_))))
                    rw [show (6 : Int32).toInt = 6 from by decide] at hraw161_0
                    have hc161 : FfG_X8_wrong 6 j77a0_4.toInt = (v161na0_9.toInt, v161na0_10.toInt) := hraw161_0
                    have hF0 := hF0.trans (fl_c2_eq hc161)
                    refine lv_aload_n hx hb dX8_gallery_164 rfl (lv_at hl 0 rfl) ?_
                    refine va_get (D := (dC, dI)) (ci := 8) (v := .int 1) (C := RX8) (T := TX8) (N := 40) hx hb hts zi_X8_gallery_8 hown hK hP 0 rfl rfl 13 (by decide) (hts (.fieldLink RX8 97 "WaxTurnsModel" "failed" "Z") (zm_X8_gallery_r1 (List.mem_of_getElem? (i := 2) rfl))) (fun _ h9 => h9) rfl dX8_gallery_165 ?_
                    refine lv_if_eq (tgt := 177) hx hb dX8_gallery_168 (by decide) (fun c168 => absurd c168 (by decide +kernel)) (fun _ => ?_)
                    refine lv_aload_n hx hb dX8_gallery_171 rfl (lv_at hl 0 rfl) ?_
                    refine lv_iconst (v := 4) hx hb dX8_gallery_172 zk_iconst_4 ?_
                    refine va_calli (va_runV (As := [.int 4]) (rest := []) ⟨hx, hb, hml, hown, hts⟩ (f_X8_no l dC dI H.size a0 4 (Value.int v1na0_0) (Value.ref a0_1) (Value.int 0) (Value.int a1) (Value.int j77a0_4) (Value.int j77a0_5) (Value.int j77a0_6) (Value.int j77a0_7) (Value.int j77a0_8) (Value.int v161na0_9) (Value.int v161na0_10) (Value.ref a0_12) (Value.int 1) (Value.int a0_14) (Value.ref a0_15) (Value.ref a0_16) (Value.ref a0_17) a0g_18 a0g_19 a0g_20 (Value.int a0_21) (Value.int a0_22) a0g_23 a0g_24 a0g_25 a0g_26 a0g_27 a0g_28 a0g_29 a0g_30 a0g_31 a0g_32 a0g_33 a0g_34 a0g_35 a0g_36 a0g_37 a0g_38 a0g_39 v1na0_11 ) (cwV 1 hts gX8_gallery_X8_no rfl rfl rfl zd_X8_no ⟨Nat.le_of_ble_eq_true rfl, Nat.le_of_ble_eq_true rfl⟩) ⟨ax_blind (fun _ _ _ _ _ => trivial), zr_8 (zp_K hK) (zp_P1 hP) (q0 := 0) rfl, ax_pre (zp_P1 hP) (zp_K hK) (zp_D1 hD) (fun _ _ => trivial)⟩ rfl rfl hl.1 rfl (lv_room (Nat.le_of_ble_eq_true rfl)) dX8_gallery_173 ⟨Nat.le_of_ble_eq_true rfl, Nat.le_of_ble_eq_true rfl⟩) hS (fun q _ h => zp_F1 hD hS hA q h) (zp_F1 hD hS hA) (fun r173 u t H locs ht hvm hw => zx_1 (fun v173na0_11 => zy_1 (fun hraw173_0 hB hz1 hk1 hS1 => zo1 hB ht hP hD hk1 (zp_F1 hD hS hA) hS1 (fun hP hK1 hD hS => ?_))))
                    obtain ⟨hw, hfr173⟩ := hw
                    rw [show (4 : Int32).toInt = 4 from by decide] at hfr173 hraw173_0
                    have hc173 : Ff_X8_no 4 = (r173.toInt, v173na0_11.toInt) := Prod.ext hfr173.symm hraw173_0
                    have hF0 := hF0.trans (fl_c2_eq hc173)
                    have hw : r173 = (-1) := hw
                    have hw := hw.symm
                    subst hw
                    have hFe : FX = ((-1), v1na0_0.toInt, 0, a1.toInt, j77a0_4.toInt, j77a0_5.toInt, j77a0_6.toInt, j77a0_7.toInt, j77a0_8.toInt, v161na0_9.toInt, v161na0_10.toInt, v173na0_11.toInt, 1, a0_14.toInt, a0_21.toInt, a0_22.toInt, (fl_A j77a0_16_a), (fl_A j77a0_12_a), (fl_A fa0_15), (fl_A fa0_17)) := hF0
                    exact W.iret (v := (-1)) hx hb hr (fun t ht hW => ⟨⟨(-1), (), rfl, ⟨⟨zq70, (Int.le_trans zq71 zq77)⟩, (congrArg Prod.fst hFe).symm⟩, v1na0_0, 0, a1, j77a0_4, j77a0_5, j77a0_6, j77a0_7, j77a0_8, v161na0_9, v161na0_10, v173na0_11, 1, a0_14, a0_21, a0_22, j77a0_16_a, j77a0_12_a, fa0_15, fa0_17, ⟨zq5, Int.le_trans zq6 (by decide)⟩, ⟨l10k0_a1, u10k0_a1⟩, ⟨bj77a0_5_l, bj77a0_5_u⟩, ⟨bj77a0_8_l, bj77a0_8_u⟩, ⟨Int.le_trans (by decide) zq1, zq0⟩, ⟨ba0_21_l, ba0_21_u⟩, ⟨ba0_22_l, ba0_22_u⟩, bfa0_17, (Or.inl ⟨rfl, rfl⟩), (by have h0 : (0 : Int32).toInt = 0 := (by decide); constructor <;> intro h9 <;> omega), (congrArg Prod.snd hFe), by rw [ht]; exact hP, va_K.moved hW.alike hK, hD⟩, hS.F ht⟩) hS.2.2 dX8_gallery_176
                  refine lv_if_eq (tgt := 154) hx hb dX8_gallery_141 (by decide) (fun c141 => ?_) (fun c141 => ?_)
                  · have gc141 := ai_eq c141
                    have u141t_x140 : x140.toInt ≤ (0 : Int) := Int.le_trans (Int.le_of_eq gc141) zq6
                    have l141t_x140 : (0 : Int) ≤ x140.toInt := bx140.1
                    have hF0 := hF0.trans (if_pos (show x140.toInt = 0 from gc141))
                    exact (hK0 _ _ _).mp (J154  _ _ _   hF0 hP hD hS (lv_sub hl [0] rfl))
                  · have gc141 := ai_ne c141
                    have l141f_x140 : (1 : Int) ≤ x140.toInt := (by first | exact zg_l bx140.1 gc141 (by decide) (by decide) | (have h1 := bx140.1; have h2 : (0 : Int32).toInt = 0 := (by decide); rw [h2] at gc141; omega))
                    have hF0 := hF0.trans (if_neg (show ¬ (x140.toInt = 0) from  gc141))
                    refine lv_aload_n hx hb dX8_gallery_144 rfl (lv_at hl 0 rfl) ?_
                    refine va_get (D := (dC, dI)) (ci := 8) (v := .ref a0_16) (C := RX8) (T := TX8) (N := 40) hx hb hts zi_X8_gallery_8 hown hK hP 0 rfl rfl 16 (by decide) (hts (.fieldLink RX8 23 "WaxTurnsModel" "fresh" "[I") (zm_X8_gallery_r1 (List.mem_of_getElem? (i := 3) rfl))) (fun _ h9 => h9) rfl dX8_gallery_145 ?_
                    refine lv_bipush (v := 10) hx hb dX8_gallery_148 zk_bipush_10 ?_
                    refine va_iald hx hb hK hP 1 0 rfl rfl (by unfold vp_in; decide +kernel) dX8_gallery_150 ?_
                    refine lv_topi (fun x150 ex150 => ?_)
                    have bx150 : (0 : Int) ≤ x150.toInt ∧ x150.toInt ≤ 1 := by rw [ex150]; exact ai_rd fgc77.2.2.2.2.2.2.2.2.1 zq26 zq27 (by decide) (by decide) (by decide)
                    have fqx150 := congrArg Int32.toInt ex150
                    have hF0 := hF0.trans (fl_lt_eq (show x150.toInt = (fl_A j77a0_16_a) (10) from fqx150))
                    refine lv_if_ne (tgt := 164) hx hb dX8_gallery_151 (by decide) (fun c151 => ?_) (fun c151 => ?_)
                    · have gc151 := ai_ne c151
                      have l151t_x150 : (1 : Int) ≤ x150.toInt := (by first | exact zg_l bx150.1 gc151 (by decide) (by decide) | (have h1 := bx150.1; have h2 : (0 : Int32).toInt = 0 := (by decide); rw [h2] at gc151; omega))
                      have hF0 := hF0.trans (if_neg (show ¬ (x150.toInt = 0) from  gc151))
                      refine lv_aload_n hx hb dX8_gallery_164 rfl (lv_at hl 0 rfl) ?_
                      refine va_get (D := (dC, dI)) (ci := 8) (v := .int 0) (C := RX8) (T := TX8) (N := 40) hx hb hts zi_X8_gallery_8 hown hK hP 0 rfl rfl 13 (by decide) (hts (.fieldLink RX8 97 "WaxTurnsModel" "failed" "Z") (zm_X8_gallery_r1 (List.mem_of_getElem? (i := 2) rfl))) (fun _ h9 => h9) rfl dX8_gallery_165 ?_
                      refine lv_if_eq (tgt := 177) hx hb dX8_gallery_168 (by decide) (fun _ => ?_) (fun c168 => absurd (by decide +kernel) c168)
                      refine lv_aload_n hx hb dX8_gallery_177 rfl (lv_at hl 0 rfl) ?_
                      refine va_get (D := (dC, dI)) (ci := 8) (v := .ref a0_16) (C := RX8) (T := TX8) (N := 40) hx hb hts zi_X8_gallery_8 hown hK hP 0 rfl rfl 16 (by decide) (hts (.fieldLink RX8 23 "WaxTurnsModel" "fresh" "[I") (zm_X8_gallery_r1 (List.mem_of_getElem? (i := 3) rfl))) (fun _ h9 => h9) rfl dX8_gallery_178 ?_
                      refine lv_iconst (v := 0) hx hb dX8_gallery_181 zk_iconst_0 ?_
                      refine lv_aload_n hx hb dX8_gallery_182 rfl (lv_at hl 0 rfl) ?_
                      refine va_get (D := (dC, dI)) (ci := 8) (v := .ref a0_15) (C := RX8) (T := TX8) (N := 40) hx hb hts zi_X8_gallery_8 hown hK hP 0 rfl rfl 15 (by decide) (hts (.fieldLink RX8 20 "WaxTurnsModel" "\x72" "[I") (zm_X8_gallery_r1 (List.mem_of_getElem? (i := 8) rfl))) (fun _ h9 => h9) rfl dX8_gallery_183 ?_
                      refine lv_iconst (v := 0) hx hb dX8_gallery_186 zk_iconst_0 ?_
                      refine lv_sipush (v := 156) hx hb dX8_gallery_187 zk_sipush_156 ?_
                      refine zc_cutc (wc := [(a0_16, .inl (ka0_16, 156, .inl (j77a0_16_a))), (a0_15, .inl (ka0_15, 156, .inl (fa0_15)))]) hP hD hS hA [1, 4] (by decide +kernel) rfl (fun hPc hDc hFc hCc => ?_)
                      have hKc := hK.sub (tys' := [(ka0_16, .int), (ka0_15, .int)]) [0, 3] rfl
                      refine va_callv (va_runS (As := [.ref a0_16, .int 0, .ref a0_15, .int 0, .int 156]) (rest := []) ⟨hx, hb, hml, hown, hts⟩ (c_X8_copy_156_156 l dC dI H.size a0_16 0 a0_15 0 156 ka0_16 j77a0_16_a ka0_15 fa0_15 zq5 zq6 zq5 zq6 zq239 zq240) (va_cwS 5 hts gX8_gallery_X8_copy rfl rfl rfl zd_X8_copy.2 ⟨Nat.le_of_ble_eq_true rfl, Nat.le_of_ble_eq_true rfl⟩) ⟨ax_blind (fun _ _ _ _ _ => trivial), ax_pre hPc hKc hDc (fun _ _ => trivial)⟩ rfl rfl hl.1 rfl (lv_room (Nat.le_of_ble_eq_true rfl)) dX8_gallery_190 ⟨Nat.le_of_ble_eq_true rfl, Nat.le_of_ble_eq_true rfl⟩) hS (fun q _ h => hFc q h) hFc (fun u t H locs ht hvm hw => zx_1 (fun v190nfa3 => zy_1 (fun hraw190_0 hB hz1 hk1 hS1 => zo hB ht hS1 (fun hP1 hK1 hD1 hS => ?_))))
                      refine zc_backc (w := [(a0, .inr (8, [Value.int v1na0_0, Value.ref a0_1, Value.int 0, Value.int a1, Value.int j77a0_4, Value.int j77a0_5, Value.int j77a0_6, Value.int j77a0_7, Value.int j77a0_8, Value.int j77a0_9, Value.int j77a0_10, Value.int v1na0_11, Value.ref a0_12, Value.int 0, Value.int a0_14, Value.ref a0_15, Value.ref a0_16, Value.ref a0_17, a0g_18, a0g_19, a0g_20, Value.int a0_21, Value.int a0_22, a0g_23, a0g_24, a0g_25, a0g_26, a0g_27, a0g_28, a0g_29, a0g_30, a0g_31, a0g_32, a0g_33, a0g_34, a0g_35, a0g_36, a0g_37, a0g_38, a0g_39])), (a0_16, .inl (ka0_16, 156, .inl (j77a0_16_a))), (a0_1, .inl (ka0_1, 900, .inl (fa0_1))), (a0_12, .inl (ka0_12, 8, .inl (j77a0_12_a))), (a0_15, .inl (ka0_15, 156, .inl (v190nfa3))), (a0_17, .inl (ka0_17, 23, .inl (fa0_17)))]) hP hD hCc hk1 hFc hP1 hD1 [.inl 0, .inr 0, .inl 2, .inl 3, .inr 1, .inl 5] (by decide +kernel) rfl (fun hP hD => ?_)
                      have hc190 : va_cpy (fl_A j77a0_16_a) (fl_A fa0_15) (0) (0) 156 = (fl_A v190nfa3) := (fl_cpy hraw190_0).symm
                      have hF0 := hF0.trans (fl_lt_eq hc190.symm)
                      have bv190nfa3 : ((∀ k : Nat, 0 ≤ k → k ≤ 0 → (2 : Int) ≤ (v190nfa3 k).toInt ∧ (v190nfa3 k).toInt ≤ 9) ∧ (∀ k : Nat, 1 ≤ k → k ≤ 1 → (1 : Int) ≤ (v190nfa3 k).toInt ∧ (v190nfa3 k).toInt ≤ 20) ∧ (∀ k : Nat, 2 ≤ k → k ≤ 2 → (0 : Int) ≤ (v190nfa3 k).toInt ∧ (v190nfa3 k).toInt ≤ 8) ∧ (∀ k : Nat, 3 ≤ k → k ≤ 3 → (0 : Int) ≤ (v190nfa3 k).toInt ∧ (v190nfa3 k).toInt ≤ 100) ∧ (∀ k : Nat, 4 ≤ k → k ≤ 4 → (0 : Int) ≤ (v190nfa3 k).toInt ∧ (v190nfa3 k).toInt ≤ 9) ∧ (∀ k : Nat, 5 ≤ k → k ≤ 5 → (0 : Int) ≤ (v190nfa3 k).toInt ∧ (v190nfa3 k).toInt ≤ 3) ∧ (∀ k : Nat, 6 ≤ k → k ≤ 6 → (0 : Int) ≤ (v190nfa3 k).toInt ∧ (v190nfa3 k).toInt ≤ 6) ∧ (∀ k : Nat, 7 ≤ k → k ≤ 9 → (0 : Int) ≤ (v190nfa3 k).toInt ∧ (v190nfa3 k).toInt ≤ 8) ∧ (∀ k : Nat, 12 ≤ k → k ≤ 29 → (0 : Int) ≤ (v190nfa3 k).toInt ∧ (v190nfa3 k).toInt ≤ 20) ∧ (∀ k : Nat, 30 ≤ k → k ≤ 35 → (0 : Int) ≤ (v190nfa3 k).toInt ∧ (v190nfa3 k).toInt ≤ 8) ∧ (∀ k : Nat, 36 ≤ k → k ≤ 47 → (0 : Int) ≤ (v190nfa3 k).toInt ∧ (v190nfa3 k).toInt ≤ 999)) := fg_r hraw190_0 (by decide) (by decide) fgc77 (by have h1 := l141f_x140; rw [ex140] at h1; exact h1)
                      have hkv190nfa3 : (∀ (j i0 i : Int32), (0 : Int) ≤ j.toInt → j.toInt ≤ 8 → i0.toInt = 12 + 2 * j.toInt → i.toInt = 13 + 2 * j.toInt → (v190nfa3 i0.toNatClampNeg).toInt = (1 : Int32).toInt → (1 : Int) ≤ (v190nfa3 i.toNatClampNeg).toInt) := fg_rk hraw190_0 (by decide) (by decide) fgc77
                      refine lv_iconst (v := 0) hx hb dX8_gallery_193 zk_iconst_0 ?_
                      refine lv_istore_n (lv' := [(2, .int 0), (0, .ref a0)]) hx hb dX8_gallery_194 rfl hl (by decide) rfl (fun ls hl => ?_)
                      have J195 : ∀ (n : Nat) (j195l2 : Int32) (j195a0_17_a : Nat → Int32) (H : Heap) (locs : List Loc) (ls : Array Slot), (24 : Int) - j195l2.toInt ≤ (n : Int) → (0 : Int) ≤ j195l2.toInt → j195l2.toInt ≤ (23 : Int) → ((∀ k : Nat, 0 ≤ k → k ≤ 8 → (0 : Int) ≤ (j195a0_17_a k).toInt ∧ (j195a0_17_a k).toInt ≤ 8) ∧ (∀ k : Nat, 19 ≤ k → k ≤ 19 → (0 : Int) ≤ (j195a0_17_a k).toInt ∧ (j195a0_17_a k).toInt ≤ 8) ∧ (∀ k : Nat, 20 ≤ k → k ≤ 20 → (0 : Int) ≤ (j195a0_17_a k).toInt ∧ (j195a0_17_a k).toInt ≤ 19)) → (FX = fl_wh (fun t9 => Sf_X8_gallery_195_1 a1.toInt v1na0_0.toInt v1na0_11.toInt j77a0_4.toInt j77a0_5.toInt j77a0_6.toInt j77a0_7.toInt j77a0_8.toInt j77a0_9.toInt j77a0_10.toInt (fl_A j77a0_16_a) (fl_A j77a0_12_a) (fl_A v190nfa3) t9.1 t9.2) (0, 0, 0, 0, 0, 0, 0, 0, 0, 0, 0, 0, 0, 0, 0, 0, (fun _ => 0), (fun _ => 0), (fun _ => 0), (fun _ => 0)) n (j195l2.toInt, (fl_A j195a0_17_a))) → va_P (dC, dI) vwCl [(a0, .inr (8, [Value.int v1na0_0, Value.ref a0_1, Value.int 0, Value.int a1, Value.int j77a0_4, Value.int j77a0_5, Value.int j77a0_6, Value.int j77a0_7, Value.int j77a0_8, Value.int j77a0_9, Value.int j77a0_10, Value.int v1na0_11, Value.ref a0_12, Value.int 0, Value.int a0_14, Value.ref a0_15, Value.ref a0_16, Value.ref a0_17, a0g_18, a0g_19, a0g_20, Value.int a0_21, Value.int a0_22, a0g_23, a0g_24, a0g_25, a0g_26, a0g_27, a0g_28, a0g_29, a0g_30, a0g_31, a0g_32, a0g_33, a0g_34, a0g_35, a0g_36, a0g_37, a0g_38, a0g_39])), (a0_16, .inl (ka0_16, 156, .inl (j77a0_16_a))), (a0_1, .inl (ka0_1, 900, .inl (fa0_1))), (a0_12, .inl (ka0_12, 8, .inl (j77a0_12_a))), (a0_15, .inl (ka0_15, 156, .inl (v190nfa3))), (a0_17, .inl (ka0_17, 23, .inl (j195a0_17_a)))] H → va_D A [(a0, .inr (8, [Value.int v1na0_0, Value.ref a0_1, Value.int 0, Value.int a1, Value.int j77a0_4, Value.int j77a0_5, Value.int j77a0_6, Value.int j77a0_7, Value.int j77a0_8, Value.int j77a0_9, Value.int j77a0_10, Value.int v1na0_11, Value.ref a0_12, Value.int 0, Value.int a0_14, Value.ref a0_15, Value.ref a0_16, Value.ref a0_17, a0g_18, a0g_19, a0g_20, Value.int a0_21, Value.int a0_22, a0g_23, a0g_24, a0g_25, a0g_26, a0g_27, a0g_28, a0g_29, a0g_30, a0g_31, a0g_32, a0g_33, a0g_34, a0g_35, a0g_36, a0g_37, a0g_38, a0g_39])), (a0_16, .inl (ka0_16, 156, .inl (j77a0_16_a))), (a0_1, .inl (ka0_1, 900, .inl (fa0_1))), (a0_12, .inl (ka0_12, 8, .inl (j77a0_12_a))), (a0_15, .inl (ka0_15, 156, .inl (v190nfa3))), (a0_17, .inl (ka0_17, 23, .inl (j195a0_17_a)))] → va_S A s.heap H locs → lv_has ls 3 [(0, .ref a0), (2, .int j195l2)] → K H locs (F0 m 195 ls []) := by
                        intro n
                        induction n with
                        | zero =>
                          intro j195l2 j195a0_17_a H locs ls hm bj195l2_l bj195l2_u bj195a0_17_a hF0 hP hD hS hl
                          first | exact zg_0 hm bj195l2_u (by decide) | (have h8 := ai_min j195l2; have h9 := ai_max j195l2; exact absurd hm (by omega))
                        | succ n ih195 =>
                          intro j195l2 j195a0_17_a H locs ls hm bj195l2_l bj195l2_u bj195a0_17_a hF0 hP hD hS hl
                          refine (hK0 _ _ _).mpr ?_
                          have hm195 := hm
                          obtain ⟨SX195, hSX195⟩ : ∃ q9, Sf_X8_gallery_195_1 a1.toInt v1na0_0.toInt v1na0_11.toInt j77a0_4.toInt j77a0_5.toInt j77a0_6.toInt j77a0_7.toInt j77a0_8.toInt j77a0_9.toInt j77a0_10.toInt (fl_A j77a0_16_a) (fl_A j77a0_12_a) (fl_A v190nfa3) j195l2.toInt (fl_A j195a0_17_a) = q9 := ⟨_, rfl⟩
                          have hF1 := hSX195.symm.trans (Sf_X8_gallery_195_1.eq_1 a1.toInt v1na0_0.toInt v1na0_11.toInt j77a0_4.toInt j77a0_5.toInt j77a0_6.toInt j77a0_7.toInt j77a0_8.toInt j77a0_9.toInt j77a0_10.toInt (fl_A j77a0_16_a) (fl_A j77a0_12_a) (fl_A v190nfa3) j195l2.toInt (fl_A j195a0_17_a))
                          refine lv_iload_n hx hb dX8_gallery_195 rfl (lv_at hl 1 rfl) ?_
                          refine lv_bipush (v := 23) hx hb dX8_gallery_196 zk_bipush_23 ?_
                          refine lv_icmp_ge (tgt := 228) hx hb dX8_gallery_198 (by decide) (fun c198 => ?_) (fun c198 => ?_)
                          · have gc198 := ai_le c198
                            have l198t_j195l2 : (23 : Int) ≤ j195l2.toInt := Int.le_trans zq170 gc198
                            have hF1 := hF1.trans (if_pos (show 23 ≤ j195l2.toInt from gc198))
                            have hF0 := hF0.trans (fl_wh_r (hSX195.trans hF1))
                            refine lv_aload_n hx hb dX8_gallery_228 rfl (lv_at hl 0 rfl) ?_
                            refine va_get (D := (dC, dI)) (ci := 8) (v := .ref a0_15) (C := RX8) (T := TX8) (N := 40) hx hb hts zi_X8_gallery_8 hown hK hP 0 rfl rfl 15 (by decide) (hts (.fieldLink RX8 20 "WaxTurnsModel" "\x72" "[I") (zm_X8_gallery_r1 (List.mem_of_getElem? (i := 8) rfl))) (fun _ h9 => h9) rfl dX8_gallery_229 ?_
                            refine lv_iconst (v := 0) hx hb dX8_gallery_232 zk_iconst_0 ?_
                            refine va_iald hx hb hK hP 4 3 rfl rfl (by unfold vp_in; decide +kernel) dX8_gallery_233 ?_
                            refine lv_topi (fun x233 ex233 => ?_)
                            have bx233 : (2 : Int) ≤ x233.toInt ∧ x233.toInt ≤ 9 := by rw [ex233]; exact ai_rd bv190nfa3.1 zq5 zq6 (by decide) (by decide) (by decide)
                            have fqx233 := congrArg Int32.toInt ex233
                            have hF0 := hF0.trans (fl_lt_eq (show x233.toInt = (fl_A v190nfa3) (0) from fqx233))
                            refine lv_istore_n (lv' := [(2, .int x233), (0, .ref a0)]) hx hb dX8_gallery_234 rfl hl (by decide) rfl (fun ls hl => ?_)
                            have J235 : ∀ (n : Nat) (j235l2 : Int32) (j235a0_17_a : Nat → Int32) (H : Heap) (locs : List Loc) (ls : Array Slot), (24 : Int) - j235l2.toInt ≤ (n : Int) → (2 : Int) ≤ j235l2.toInt → j235l2.toInt ≤ (23 : Int) → ((∀ k : Nat, 0 ≤ k → k ≤ 8 → (0 : Int) ≤ (j235a0_17_a k).toInt ∧ (j235a0_17_a k).toInt ≤ 8) ∧ (∀ k : Nat, 19 ≤ k → k ≤ 19 → (0 : Int) ≤ (j235a0_17_a k).toInt ∧ (j235a0_17_a k).toInt ≤ 8) ∧ (∀ k : Nat, 20 ≤ k → k ≤ 20 → (0 : Int) ≤ (j235a0_17_a k).toInt ∧ (j235a0_17_a k).toInt ≤ 19)) → (FX = fl_wh (fun t9 => Sf_X8_gallery_235_1 a1.toInt v1na0_0.toInt v1na0_11.toInt j77a0_4.toInt j77a0_5.toInt j77a0_6.toInt j77a0_7.toInt j77a0_8.toInt j77a0_9.toInt j77a0_10.toInt (fl_A j77a0_16_a) (fl_A j77a0_12_a) (fl_A v190nfa3) t9.1 t9.2) (0, 0, 0, 0, 0, 0, 0, 0, 0, 0, 0, 0, 0, 0, 0, 0, (fun _ => 0), (fun _ => 0), (fun _ => 0), (fun _ => 0)) n (j235l2.toInt, (fl_A j235a0_17_a))) → va_P (dC, dI) vwCl [(a0, .inr (8, [Value.int v1na0_0, Value.ref a0_1, Value.int 0, Value.int a1, Value.int j77a0_4, Value.int j77a0_5, Value.int j77a0_6, Value.int j77a0_7, Value.int j77a0_8, Value.int j77a0_9, Value.int j77a0_10, Value.int v1na0_11, Value.ref a0_12, Value.int 0, Value.int a0_14, Value.ref a0_15, Value.ref a0_16, Value.ref a0_17, a0g_18, a0g_19, a0g_20, Value.int a0_21, Value.int a0_22, a0g_23, a0g_24, a0g_25, a0g_26, a0g_27, a0g_28, a0g_29, a0g_30, a0g_31, a0g_32, a0g_33, a0g_34, a0g_35, a0g_36, a0g_37, a0g_38, a0g_39])), (a0_16, .inl (ka0_16, 156, .inl (j77a0_16_a))), (a0_1, .inl (ka0_1, 900, .inl (fa0_1))), (a0_12, .inl (ka0_12, 8, .inl (j77a0_12_a))), (a0_15, .inl (ka0_15, 156, .inl (v190nfa3))), (a0_17, .inl (ka0_17, 23, .inl (j235a0_17_a)))] H → va_D A [(a0, .inr (8, [Value.int v1na0_0, Value.ref a0_1, Value.int 0, Value.int a1, Value.int j77a0_4, Value.int j77a0_5, Value.int j77a0_6, Value.int j77a0_7, Value.int j77a0_8, Value.int j77a0_9, Value.int j77a0_10, Value.int v1na0_11, Value.ref a0_12, Value.int 0, Value.int a0_14, Value.ref a0_15, Value.ref a0_16, Value.ref a0_17, a0g_18, a0g_19, a0g_20, Value.int a0_21, Value.int a0_22, a0g_23, a0g_24, a0g_25, a0g_26, a0g_27, a0g_28, a0g_29, a0g_30, a0g_31, a0g_32, a0g_33, a0g_34, a0g_35, a0g_36, a0g_37, a0g_38, a0g_39])), (a0_16, .inl (ka0_16, 156, .inl (j77a0_16_a))), (a0_1, .inl (ka0_1, 900, .inl (fa0_1))), (a0_12, .inl (ka0_12, 8, .inl (j77a0_12_a))), (a0_15, .inl (ka0_15, 156, .inl (v190nfa3))), (a0_17, .inl (ka0_17, 23, .inl (j235a0_17_a)))] → va_S A s.heap H locs → lv_has ls 3 [(0, .ref a0), (2, .int j235l2)] → K H locs (F0 m 235 ls []) := by
                              intro n
                              induction n with
                              | zero =>
                                intro j235l2 j235a0_17_a H locs ls hm bj235l2_l bj235l2_u bj235a0_17_a hF0 hP hD hS hl
                                first | exact zg_0 hm bj235l2_u (by decide) | (have h8 := ai_min j235l2; have h9 := ai_max j235l2; exact absurd hm (by omega))
                              | succ n ih235 =>
                                intro j235l2 j235a0_17_a H locs ls hm bj235l2_l bj235l2_u bj235a0_17_a hF0 hP hD hS hl
                                refine (hK0 _ _ _).mpr ?_
                                have hm235 := hm
                                obtain ⟨SX235, hSX235⟩ : ∃ q9, Sf_X8_gallery_235_1 a1.toInt v1na0_0.toInt v1na0_11.toInt j77a0_4.toInt j77a0_5.toInt j77a0_6.toInt j77a0_7.toInt j77a0_8.toInt j77a0_9.toInt j77a0_10.toInt (fl_A j77a0_16_a) (fl_A j77a0_12_a) (fl_A v190nfa3) j235l2.toInt (fl_A j235a0_17_a) = q9 := ⟨_, rfl⟩
                                have hF1 := hSX235.symm.trans (Sf_X8_gallery_235_1.eq_1 a1.toInt v1na0_0.toInt v1na0_11.toInt j77a0_4.toInt j77a0_5.toInt j77a0_6.toInt j77a0_7.toInt j77a0_8.toInt j77a0_9.toInt j77a0_10.toInt (fl_A j77a0_16_a) (fl_A j77a0_12_a) (fl_A v190nfa3) j235l2.toInt (fl_A j235a0_17_a))
                                refine lv_iload_n hx hb dX8_gallery_235 rfl (lv_at hl 1 rfl) ?_
                                refine lv_bipush (v := 23) hx hb dX8_gallery_236 zk_bipush_23 ?_
                                refine lv_icmp_ge (tgt := 254) hx hb dX8_gallery_238 (by decide) (fun c238 => ?_) (fun c238 => ?_)
                                · have gc238 := ai_le c238
                                  have l238t_j235l2 : (23 : Int) ≤ j235l2.toInt := Int.le_trans zq170 gc238
                                  have hF1 := hF1.trans (if_pos (show 23 ≤ j235l2.toInt from gc238))
                                  have hF0 := hF0.trans (fl_wh_r (hSX235.trans hF1))
                                  refine lv_aload_n hx hb dX8_gallery_254 rfl (lv_at hl 0 rfl) ?_
                                  refine va_get (D := (dC, dI)) (ci := 8) (v := .ref a0_17) (C := RX8) (T := TX8) (N := 40) hx hb hts zi_X8_gallery_8 hown hK hP 0 rfl rfl 17 (by decide) (hts (.fieldLink RX8 26 "WaxTurnsModel" "st" "[I") (zm_X8_gallery_r1 (List.mem_of_getElem? (i := 9) rfl))) (fun _ h9 => h9) rfl dX8_gallery_255 ?_
                                  refine lv_bipush (v := 19) hx hb dX8_gallery_258 zk_bipush_19 ?_
                                  refine lv_aload_n hx hb dX8_gallery_260 rfl (lv_at hl 0 rfl) ?_
                                  refine va_get (D := (dC, dI)) (ci := 8) (v := .ref a0_15) (C := RX8) (T := TX8) (N := 40) hx hb hts zi_X8_gallery_8 hown hK hP 0 rfl rfl 15 (by decide) (hts (.fieldLink RX8 20 "WaxTurnsModel" "\x72" "[I") (zm_X8_gallery_r1 (List.mem_of_getElem? (i := 8) rfl))) (fun _ h9 => h9) rfl dX8_gallery_261 ?_
                                  refine lv_bipush (v := 9) hx hb dX8_gallery_264 zk_bipush_9 ?_
                                  refine va_iald hx hb hK hP 4 3 rfl rfl (by unfold vp_in; decide +kernel) dX8_gallery_266 ?_
                                  refine lv_topi (fun x266 ex266 => ?_)
                                  have bx266 : (0 : Int) ≤ x266.toInt ∧ x266.toInt ≤ 8 := by rw [ex266]; exact ai_rd bv190nfa3.2.2.2.2.2.2.2.1 zq2 zq3 (by decide) (by decide) (by decide)
                                  have fqx266 := congrArg Int32.toInt ex266
                                  have hF0 := hF0.trans (fl_lt_eq (show x266.toInt = (fl_A v190nfa3) (9) from fqx266))
                                  refine va_iast hx hb hK hP hD hS 5 4 rfl rfl (by unfold vp_in; decide +kernel) dX8_gallery_267 (fun H locs hP hD hS => ?_)
                                  obtain ⟨f267, ef267⟩ : ∃ g9 : Nat → Int32, g9 = upd j235a0_17_a (19 : Int32).toNatClampNeg x266 := ⟨_, rfl⟩
                                  refine zs_5 (y := (a0_17, .inl (ka0_17, 23, .inl (f267)))) hP hD (by rw [ef267]) (fun hP hD => ?_)
                                  have bf267 : ((∀ k : Nat, 0 ≤ k → k ≤ 8 → (0 : Int) ≤ (f267 k).toInt ∧ (f267 k).toInt ≤ 8) ∧ (∀ k : Nat, 19 ≤ k → k ≤ 19 → (0 : Int) ≤ (f267 k).toInt ∧ (f267 k).toInt ≤ 8) ∧ (∀ k : Nat, 20 ≤ k → k ≤ 20 → (0 : Int) ≤ (f267 k).toInt ∧ (f267 k).toInt ≤ 19)) := by rw [ef267]; exact ⟨ai_updO bj235a0_17_a.1 _ (Or.inr (ai_ngt_of zq160 (by decide) (by decide))), ai_updS bj235a0_17_a.2.1 _ ⟨bx266.1, bx266.2⟩, ai_updO bj235a0_17_a.2.2 _ (Or.inl (ai_nlt_of zq160 zq161 (by decide) (by decide)))⟩
                                  have kf267_19 : f267 19 = x266 := by rw [ef267]; exact ai_k1 (by decide +kernel)
                                  have fqf267 := fl_up_eq ef267
                                  have hF0 := hF0.trans (fl_lt_eq (show (fl_A f267) = fl_up (fl_A j235a0_17_a) (19) x266.toInt from fqf267))
                                  refine lv_aload_n hx hb dX8_gallery_268 rfl (lv_at hl 0 rfl) ?_
                                  refine lv_iconst (v := 1) hx hb dX8_gallery_269 zk_iconst_1 ?_
                                  refine va_put (D := (dC, dI)) (ci := 8) (v := .int 1) (ty := .boolean) (C := RX8) (T := TX8) (N := 40) hx hb hts zi_X8_gallery_8 tyX8 tyX8_ok nmX8 hown hK hP hD hS 0 rfl rfl 14 (by decide) (hts (.fieldLink RX8 173 "WaxTurnsModel" "hasGallery" "Z") (zm_X8_gallery_r1 (List.mem_of_getElem? (i := 10) rfl))) (fun _ h9 => h9) rfl (tyX8_ok 14 (by decide)) rfl rfl (Nat.le_of_ble_eq_true rfl) dX8_gallery_270 (fun H locs hP hD hS => ?_)
                                  refine zs_0 (y := (a0, .inr (8, [Value.int v1na0_0, Value.ref a0_1, Value.int 0, Value.int a1, Value.int j77a0_4, Value.int j77a0_5, Value.int j77a0_6, Value.int j77a0_7, Value.int j77a0_8, Value.int j77a0_9, Value.int j77a0_10, Value.int v1na0_11, Value.ref a0_12, Value.int 0, Value.int 1, Value.ref a0_15, Value.ref a0_16, Value.ref a0_17, a0g_18, a0g_19, a0g_20, Value.int a0_21, Value.int a0_22, a0g_23, a0g_24, a0g_25, a0g_26, a0g_27, a0g_28, a0g_29, a0g_30, a0g_31, a0g_32, a0g_33, a0g_34, a0g_35, a0g_36, a0g_37, a0g_38, a0g_39]))) hP hD rfl (fun hP hD => ?_)
                                  refine lv_aload_n hx hb dX8_gallery_273 rfl (lv_at hl 0 rfl) ?_
                                  refine lv_iconst (v := 0) hx hb dX8_gallery_274 zk_iconst_0 ?_
                                  refine va_put (D := (dC, dI)) (ci := 8) (v := .int 0) (ty := .int) (C := RX8) (T := TX8) (N := 40) hx hb hts zi_X8_gallery_8 tyX8 tyX8_ok nmX8 hown hK hP hD hS 0 rfl rfl 21 (by decide) (hts (.fieldLink RX8 176 "WaxTurnsModel" "undos" "I") (zm_X8_gallery_r1 (List.mem_of_getElem? (i := 11) rfl))) (fun _ h9 => h9) rfl (tyX8_ok 21 (by decide)) rfl rfl (Nat.le_of_ble_eq_true rfl) dX8_gallery_275 (fun H locs hP hD hS => ?_)
                                  refine zs_0 (y := (a0, .inr (8, [Value.int v1na0_0, Value.ref a0_1, Value.int 0, Value.int a1, Value.int j77a0_4, Value.int j77a0_5, Value.int j77a0_6, Value.int j77a0_7, Value.int j77a0_8, Value.int j77a0_9, Value.int j77a0_10, Value.int v1na0_11, Value.ref a0_12, Value.int 0, Value.int 1, Value.ref a0_15, Value.ref a0_16, Value.ref a0_17, a0g_18, a0g_19, a0g_20, Value.int 0, Value.int a0_22, a0g_23, a0g_24, a0g_25, a0g_26, a0g_27, a0g_28, a0g_29, a0g_30, a0g_31, a0g_32, a0g_33, a0g_34, a0g_35, a0g_36, a0g_37, a0g_38, a0g_39]))) hP hD rfl (fun hP hD => ?_)
                                  refine lv_aload_n hx hb dX8_gallery_278 rfl (lv_at hl 0 rfl) ?_
                                  refine lv_iconst (v := 0) hx hb dX8_gallery_279 zk_iconst_0 ?_
                                  refine va_put (D := (dC, dI)) (ci := 8) (v := .int 0) (ty := .int) (C := RX8) (T := TX8) (N := 40) hx hb hts zi_X8_gallery_8 tyX8 tyX8_ok nmX8 hown hK hP hD hS 0 rfl rfl 22 (by decide) (hts (.fieldLink RX8 179 "WaxTurnsModel" "images" "I") (zm_X8_gallery_r1 (List.mem_of_getElem? (i := 12) rfl))) (fun _ h9 => h9) rfl (tyX8_ok 22 (by decide)) rfl rfl (Nat.le_of_ble_eq_true rfl) dX8_gallery_280 (fun H locs hP hD hS => ?_)
                                  refine zs_0 (y := (a0, .inr (8, [Value.int v1na0_0, Value.ref a0_1, Value.int 0, Value.int a1, Value.int j77a0_4, Value.int j77a0_5, Value.int j77a0_6, Value.int j77a0_7, Value.int j77a0_8, Value.int j77a0_9, Value.int j77a0_10, Value.int v1na0_11, Value.ref a0_12, Value.int 0, Value.int 1, Value.ref a0_15, Value.ref a0_16, Value.ref a0_17, a0g_18, a0g_19, a0g_20, Value.int 0, Value.int 0, a0g_23, a0g_24, a0g_25, a0g_26, a0g_27, a0g_28, a0g_29, a0g_30, a0g_31, a0g_32, a0g_33, a0g_34, a0g_35, a0g_36, a0g_37, a0g_38, a0g_39]))) hP hD rfl (fun hP hD => ?_)
                                  refine lv_aload_n hx hb dX8_gallery_283 rfl (lv_at hl 0 rfl) ?_
                                  refine va_get (D := (dC, dI)) (ci := 8) (v := .ref a0_15) (C := RX8) (T := TX8) (N := 40) hx hb hts zi_X8_gallery_8 hown hK hP 0 rfl rfl 15 (by decide) (hts (.fieldLink RX8 20 "WaxTurnsModel" "\x72" "[I") (zm_X8_gallery_r1 (List.mem_of_getElem? (i := 8) rfl))) (fun _ h9 => h9) rfl dX8_gallery_284 ?_
                                  refine lv_iconst (v := 0) hx hb dX8_gallery_287 zk_iconst_0 ?_
                                  refine va_iald hx hb hK hP 4 3 rfl rfl (by unfold vp_in; decide +kernel) dX8_gallery_288 ?_
                                  refine lv_topi (fun x288 ex288 => ?_)
                                  have bx288 : (2 : Int) ≤ x288.toInt ∧ x288.toInt ≤ 9 := by rw [ex288]; exact ai_rd bv190nfa3.1 zq5 zq6 (by decide) (by decide) (by decide)
                                  have fqx288 := congrArg Int32.toInt ex288
                                  have hF0 := hF0.trans (fl_lt_eq (show x288.toInt = (fl_A v190nfa3) (0) from fqx288))
                                  have hFe : FX = (x288.toInt, v1na0_0.toInt, 0, a1.toInt, j77a0_4.toInt, j77a0_5.toInt, j77a0_6.toInt, j77a0_7.toInt, j77a0_8.toInt, j77a0_9.toInt, j77a0_10.toInt, v1na0_11.toInt, 0, 1, 0, 0, (fl_A j77a0_16_a), (fl_A j77a0_12_a), (fl_A v190nfa3), (fl_A f267)) := hF0
                                  exact W.iret (v := x288) hx hb hr (fun t ht hW => ⟨⟨x288, (), rfl, ⟨⟨(Int.le_trans zq217 bx288.1), bx288.2⟩, (congrArg Prod.fst hFe).symm⟩, v1na0_0, 0, a1, j77a0_4, j77a0_5, j77a0_6, j77a0_7, j77a0_8, j77a0_9, j77a0_10, v1na0_11, 0, 1, 0, 0, j77a0_16_a, j77a0_12_a, v190nfa3, f267, ⟨zq5, Int.le_trans zq6 (by decide)⟩, ⟨l10k0_a1, u10k0_a1⟩, ⟨bj77a0_5_l, bj77a0_5_u⟩, ⟨bj77a0_8_l, bj77a0_8_u⟩, ⟨zq5, Int.le_trans zq6 (by decide)⟩, ⟨zq5, Int.le_trans zq6 (by decide)⟩, ⟨zq5, Int.le_trans zq6 (by decide)⟩, bf267, (Or.inr ⟨rfl, bv190nfa3, hkv190nfa3⟩), (by have h0 : (0 : Int32).toInt = 0 := (by decide); constructor <;> intro h9 <;> omega), (congrArg Prod.snd hFe), by rw [ht]; exact hP, va_K.moved hW.alike hK, hD⟩, hS.F ht⟩) hS.2.2 dX8_gallery_289
                                · have gc238 := ai_nle c238
                                  have u238f_j235l2 : j235l2.toInt ≤ (22 : Int) := ai_lthi gc238 zq171
                                  have hF1 := hF1.trans (if_neg (show ¬ (23 ≤ j235l2.toInt) from Int.not_le.mpr gc238))
                                  refine lv_aload_n hx hb dX8_gallery_241 rfl (lv_at hl 0 rfl) ?_
                                  refine va_get (D := (dC, dI)) (ci := 8) (v := .ref a0_17) (C := RX8) (T := TX8) (N := 40) hx hb hts zi_X8_gallery_8 hown hK hP 0 rfl rfl 17 (by decide) (hts (.fieldLink RX8 26 "WaxTurnsModel" "st" "[I") (zm_X8_gallery_r1 (List.mem_of_getElem? (i := 9) rfl))) (fun _ h9 => h9) rfl dX8_gallery_242 ?_
                                  refine lv_iload_n hx hb dX8_gallery_245 rfl (lv_at hl 1 rfl) ?_
                                  refine lv_iconst (v := 0) hx hb dX8_gallery_246 zk_iconst_0 ?_
                                  refine va_iast hx hb hK hP hD hS 5 4 rfl rfl (ai_in bj235l2_l u238f_j235l2 (by decide) (by decide)) dX8_gallery_247 (fun H locs hP hD hS => ?_)
                                  obtain ⟨f247, ef247⟩ : ∃ g9 : Nat → Int32, g9 = upd j235a0_17_a (j235l2 : Int32).toNatClampNeg (0 : Int32) := ⟨_, rfl⟩
                                  refine zs_5 (y := (a0_17, .inl (ka0_17, 23, .inl (f247)))) hP hD (by rw [ef247]) (fun hP hD => ?_)
                                  have bf247 : ((∀ k : Nat, 0 ≤ k → k ≤ 8 → (0 : Int) ≤ (f247 k).toInt ∧ (f247 k).toInt ≤ 8) ∧ (∀ k : Nat, 19 ≤ k → k ≤ 19 → (0 : Int) ≤ (f247 k).toInt ∧ (f247 k).toInt ≤ 8) ∧ (∀ k : Nat, 20 ≤ k → k ≤ 20 → (0 : Int) ≤ (f247 k).toInt ∧ (f247 k).toInt ≤ 19)) := by rw [ef247]; exact ⟨ai_updS bj235a0_17_a.1 _ ⟨zq5, (Int.le_trans zq6 zq20)⟩, ai_updS bj235a0_17_a.2.1 _ ⟨zq5, (Int.le_trans zq6 zq20)⟩, ai_updS bj235a0_17_a.2.2 _ ⟨zq5, (Int.le_trans zq6 zq163)⟩⟩
                                  have fqf247 := fl_up_eq ef247
                                  have hF1 := hF1.trans (fl_lt_eq (show (fl_A f247) = fl_up (fl_A j235a0_17_a) (j235l2.toInt.toNat) 0 from fqf247))
                                  obtain ⟨x248, ex248⟩ : ∃ y : Int32, y = j235l2 + Int32.ofInt 1 := ⟨_, rfl⟩
                                  have qx248 : x248.toInt = j235l2.toInt + 1 := ai_inc ex248 (by decide) (by decide) u238f_j235l2 (by decide)
                                  have bx248 : (3 : Int) ≤ x248.toInt ∧ x248.toInt ≤ 23 := ⟨by rw [qx248]; exact Int.add_le_add bj235l2_l (Int.le_refl _), by rw [qx248]; exact Int.add_le_add u238f_j235l2 (Int.le_refl _)⟩
                                  refine lv_iinc (v := x248) (lv' := [(2, .int x248), (0, .ref a0)]) hx hb dX8_gallery_248 hl (k := 1) rfl ex248.symm (by decide) rfl (fun ls hl => ?_)
                                  have hF1 := hF1.trans (fl_lt_eq (show x248.toInt = j235l2.toInt + 1 from qx248))
                                  refine lv_goto (tgt := 235) hx hb dX8_gallery_251 (by decide) ?_
                                  exact (hK0 _ _ _).mp (ih235 x248 f247 _ _ _ (by first | exact zg_s hm235 qx248 | (have h0 := qx248; omega)) (Int.le_trans zq130 bx248.1) bx248.2 bf247 (hF0.trans (fl_wh_l (hSX235.trans hF1))) hP hD hS (lv_sub hl [1, 0] rfl))
                            exact (hK0 _ _ _).mp (J235 22 x233 j195a0_17_a _ _ _ (by have h1 : (2 : Int) ≤ x233.toInt := bx233.1; have h2 : x233.toInt ≤ (9 : Int) := bx233.2; omega) bx233.1 (Int.le_trans bx233.2 zq241) bj195a0_17_a hF0 hP hD hS (lv_sub hl [1, 0] rfl))
                          · have gc198 := ai_nle c198
                            have u198f_j195l2 : j195l2.toInt ≤ (22 : Int) := ai_lthi gc198 zq171
                            have hF1 := hF1.trans (if_neg (show ¬ (23 ≤ j195l2.toInt) from Int.not_le.mpr gc198))
                            refine lv_aload_n hx hb dX8_gallery_201 rfl (lv_at hl 0 rfl) ?_
                            refine va_get (D := (dC, dI)) (ci := 8) (v := .ref a0_17) (C := RX8) (T := TX8) (N := 40) hx hb hts zi_X8_gallery_8 hown hK hP 0 rfl rfl 17 (by decide) (hts (.fieldLink RX8 26 "WaxTurnsModel" "st" "[I") (zm_X8_gallery_r1 (List.mem_of_getElem? (i := 9) rfl))) (fun _ h9 => h9) rfl dX8_gallery_202 ?_
                            refine lv_iload_n hx hb dX8_gallery_205 rfl (lv_at hl 1 rfl) ?_
                            refine lv_iload_n hx hb dX8_gallery_206 rfl (lv_at hl 1 rfl) ?_
                            refine lv_aload_n hx hb dX8_gallery_207 rfl (lv_at hl 0 rfl) ?_
                            refine va_get (D := (dC, dI)) (ci := 8) (v := .ref a0_15) (C := RX8) (T := TX8) (N := 40) hx hb hts zi_X8_gallery_8 hown hK hP 0 rfl rfl 15 (by decide) (hts (.fieldLink RX8 20 "WaxTurnsModel" "\x72" "[I") (zm_X8_gallery_r1 (List.mem_of_getElem? (i := 8) rfl))) (fun _ h9 => h9) rfl dX8_gallery_208 ?_
                            refine lv_iconst (v := 0) hx hb dX8_gallery_211 zk_iconst_0 ?_
                            refine va_iald hx hb hK hP 4 3 rfl rfl (by unfold vp_in; decide +kernel) dX8_gallery_212 ?_
                            refine lv_topi (fun x212 ex212 => ?_)
                            have bx212 : (2 : Int) ≤ x212.toInt ∧ x212.toInt ≤ 9 := by rw [ex212]; exact ai_rd bv190nfa3.1 zq5 zq6 (by decide) (by decide) (by decide)
                            have fqx212 := congrArg Int32.toInt ex212
                            have hF1 := hF1.trans (fl_lt_eq (show x212.toInt = (fl_A v190nfa3) (0) from fqx212))
                            have J221 : ∀ (j221s0 : Int32) (H : Heap) (locs : List Loc) (ls : Array Slot), (0 : Int) ≤ j221s0.toInt → j221s0.toInt ≤ (8 : Int) → (SX195 = Gf_X8_gallery_221_1 j195l2.toInt (fl_A j195a0_17_a) j221s0.toInt) → va_P (dC, dI) vwCl [(a0, .inr (8, [Value.int v1na0_0, Value.ref a0_1, Value.int 0, Value.int a1, Value.int j77a0_4, Value.int j77a0_5, Value.int j77a0_6, Value.int j77a0_7, Value.int j77a0_8, Value.int j77a0_9, Value.int j77a0_10, Value.int v1na0_11, Value.ref a0_12, Value.int 0, Value.int a0_14, Value.ref a0_15, Value.ref a0_16, Value.ref a0_17, a0g_18, a0g_19, a0g_20, Value.int a0_21, Value.int a0_22, a0g_23, a0g_24, a0g_25, a0g_26, a0g_27, a0g_28, a0g_29, a0g_30, a0g_31, a0g_32, a0g_33, a0g_34, a0g_35, a0g_36, a0g_37, a0g_38, a0g_39])), (a0_16, .inl (ka0_16, 156, .inl (j77a0_16_a))), (a0_1, .inl (ka0_1, 900, .inl (fa0_1))), (a0_12, .inl (ka0_12, 8, .inl (j77a0_12_a))), (a0_15, .inl (ka0_15, 156, .inl (v190nfa3))), (a0_17, .inl (ka0_17, 23, .inl (j195a0_17_a)))] H → va_D A [(a0, .inr (8, [Value.int v1na0_0, Value.ref a0_1, Value.int 0, Value.int a1, Value.int j77a0_4, Value.int j77a0_5, Value.int j77a0_6, Value.int j77a0_7, Value.int j77a0_8, Value.int j77a0_9, Value.int j77a0_10, Value.int v1na0_11, Value.ref a0_12, Value.int 0, Value.int a0_14, Value.ref a0_15, Value.ref a0_16, Value.ref a0_17, a0g_18, a0g_19, a0g_20, Value.int a0_21, Value.int a0_22, a0g_23, a0g_24, a0g_25, a0g_26, a0g_27, a0g_28, a0g_29, a0g_30, a0g_31, a0g_32, a0g_33, a0g_34, a0g_35, a0g_36, a0g_37, a0g_38, a0g_39])), (a0_16, .inl (ka0_16, 156, .inl (j77a0_16_a))), (a0_1, .inl (ka0_1, 900, .inl (fa0_1))), (a0_12, .inl (ka0_12, 8, .inl (j77a0_12_a))), (a0_15, .inl (ka0_15, 156, .inl (v190nfa3))), (a0_17, .inl (ka0_17, 23, .inl (j195a0_17_a)))] → va_S A s.heap H locs → lv_has ls 3 [(0, .ref a0), (2, .int j195l2)] → K H locs (F0 m 221 ls [.int j221s0, .int j195l2, .ref a0_17]) := by
                              intro j221s0 H locs ls  bj221s0_l bj221s0_u hF1 hP hD hS hl
                              refine (hK0 _ _ _).mpr ?_
                              have hF1 := hF1.trans (Gf_X8_gallery_221_1.eq_1 j195l2.toInt (fl_A j195a0_17_a) j221s0.toInt)
                              refine va_iast hx hb hK hP hD hS 5 4 rfl rfl (ai_in bj195l2_l u198f_j195l2 (by decide) (by decide)) dX8_gallery_221 (fun H locs hP hD hS => ?_)
                              obtain ⟨f221, ef221⟩ : ∃ g9 : Nat → Int32, g9 = upd j195a0_17_a (j195l2 : Int32).toNatClampNeg j221s0 := ⟨_, rfl⟩
                              refine zs_5 (y := (a0_17, .inl (ka0_17, 23, .inl (f221)))) hP hD (by rw [ef221]) (fun hP hD => ?_)
                              have bf221 : ((∀ k : Nat, 0 ≤ k → k ≤ 8 → (0 : Int) ≤ (f221 k).toInt ∧ (f221 k).toInt ≤ 8) ∧ (∀ k : Nat, 19 ≤ k → k ≤ 19 → (0 : Int) ≤ (f221 k).toInt ∧ (f221 k).toInt ≤ 8) ∧ (∀ k : Nat, 20 ≤ k → k ≤ 20 → (0 : Int) ≤ (f221 k).toInt ∧ (f221 k).toInt ≤ 19)) := by rw [ef221]; exact ⟨ai_updS bj195a0_17_a.1 _ ⟨bj221s0_l, bj221s0_u⟩, ai_updS bj195a0_17_a.2.1 _ ⟨bj221s0_l, bj221s0_u⟩, ai_updS bj195a0_17_a.2.2 _ ⟨bj221s0_l, (Int.le_trans bj221s0_u zq242)⟩⟩
                              have fqf221 := fl_up_eq ef221
                              have hF1 := hF1.trans (fl_lt_eq (show (fl_A f221) = fl_up (fl_A j195a0_17_a) (j195l2.toInt.toNat) j221s0.toInt from fqf221))
                              obtain ⟨x222, ex222⟩ : ∃ y : Int32, y = j195l2 + Int32.ofInt 1 := ⟨_, rfl⟩
                              have qx222 : x222.toInt = j195l2.toInt + 1 := ai_inc ex222 (by decide) (by decide) u198f_j195l2 (by decide)
                              have bx222 : (1 : Int) ≤ x222.toInt ∧ x222.toInt ≤ 23 := ⟨by rw [qx222]; exact Int.add_le_add bj195l2_l (Int.le_refl _), by rw [qx222]; exact Int.add_le_add u198f_j195l2 (Int.le_refl _)⟩
                              refine lv_iinc (v := x222) (lv' := [(2, .int x222), (0, .ref a0)]) hx hb dX8_gallery_222 hl (k := 1) rfl ex222.symm (by decide) rfl (fun ls hl => ?_)
                              have hF1 := hF1.trans (fl_lt_eq (show x222.toInt = j195l2.toInt + 1 from qx222))
                              refine lv_goto (tgt := 195) hx hb dX8_gallery_225 (by decide) ?_
                              exact (hK0 _ _ _).mp (ih195 x222 f221 _ _ _ (by first | exact zg_s hm195 qx222 | (have h0 := qx222; omega)) (Int.le_trans zq4 bx222.1) bx222.2 bf221 (hF0.trans (fl_wh_l (hSX195.trans hF1))) hP hD hS (lv_sub hl [1, 0] rfl))
                            refine lv_icmp_ge (tgt := 220) hx hb dX8_gallery_213 (by decide) (fun c213 => ?_) (fun c213 => ?_)
                            · have gc213 := ai_le c213
                              have u213t_x212 : x212.toInt ≤ (9 : Int) := bx212.2
                              have l213t_j195l2 : (2 : Int) ≤ j195l2.toInt := Int.le_trans bx212.1 gc213
                              have hF1 := hF1.trans (if_pos (show x212.toInt ≤ j195l2.toInt from gc213))
                              refine lv_iconst (v := 0) hx hb dX8_gallery_220 zk_iconst_0 ?_
                              exact (hK0 _ _ _).mp (J221 0 _ _ _  zq5 (Int.le_trans zq6 zq20) (by rw [show (0 : Int32).toInt = 0 from by decide]; exact hF1) hP hD hS (lv_sub hl [0, 1] rfl))
                            · have gc213 := ai_nle c213
                              have u213f_j195l2 : j195l2.toInt ≤ (8 : Int) := ai_lthi gc213 bx212.2
                              have l213f_x212 : (2 : Int) ≤ x212.toInt := bx212.1
                              have hF1 := hF1.trans (if_neg (show ¬ (x212.toInt ≤ j195l2.toInt) from Int.not_le.mpr gc213))
                              refine lv_iload_n hx hb dX8_gallery_216 rfl (lv_at hl 1 rfl) ?_
                              refine lv_goto (tgt := 221) hx hb dX8_gallery_217 (by decide) ?_
                              exact (hK0 _ _ _).mp (J221 j195l2 _ _ _  bj195l2_l u213f_j195l2 hF1 hP hD hS (lv_sub hl [0, 1] rfl))
                      exact (hK0 _ _ _).mp (J195 24 0 fa0_17 _ _ _ (by first | decide +kernel | (have h1 : (0 : Int) ≤ (0 : Int32).toInt := zq5; have h2 : (0 : Int32).toInt ≤ (0 : Int) := zq6; omega)) zq5 (Int.le_trans zq6 zq164) bfa0_17 (by rw [show (0 : Int32).toInt = 0 from by decide]; exact hF0) hP hD hS (lv_sub hl [1, 0] rfl))
                    · have gc151 := ai_eq c151
                      have u151f_x150 : x150.toInt ≤ (0 : Int) := Int.le_trans (Int.le_of_eq gc151) zq6
                      have l151f_x150 : (0 : Int) ≤ x150.toInt := bx150.1
                      have hF0 := hF0.trans (if_pos (show x150.toInt = 0 from gc151))
                      exact (hK0 _ _ _).mp (J154  _ _ _   hF0 hP hD hS (lv_sub hl [0] rfl))
                · have gc115 := ai_ne c115
                  have hF0 := hF0.trans (if_neg (show ¬ (j77a0_6.toInt = 0) from  gc115))
                  refine lv_aload_n hx hb dX8_gallery_118 rfl (lv_at hl 0 rfl) ?_
                  refine lv_iconst (v := 1) hx hb dX8_gallery_119 zk_iconst_1 ?_
                  refine lv_aload_n hx hb dX8_gallery_120 rfl (lv_at hl 0 rfl) ?_
                  refine va_get (D := (dC, dI)) (ci := 8) (v := .int j77a0_4) (C := RX8) (T := TX8) (N := 40) hx hb hts zi_X8_gallery_8 hown hK hP 0 rfl rfl 4 (by decide) (hts (.fieldLink RX8 78 "WaxTurnsModel" "at" "I") (zm_X8_gallery_r1 (List.mem_of_getElem? (i := 7) rfl))) (fun _ h9 => h9) rfl dX8_gallery_121 ?_
                  refine va_callv (va_runV (As := [.int 1, .int j77a0_4]) (rest := []) ⟨hx, hb, hml, hown, hts⟩ (fG_X8_wrong l dC dI H.size a0 1 j77a0_4 (Value.int v1na0_0) (Value.ref a0_1) (Value.int 0) (Value.int a1) (Value.int j77a0_4) (Value.int j77a0_5) (Value.int j77a0_6) (Value.int j77a0_7) (Value.int j77a0_8) (Value.int v1na0_11) (Value.ref a0_12) (Value.int a0_14) (Value.ref a0_15) (Value.ref a0_16) (Value.ref a0_17) a0g_18 a0g_19 a0g_20 (Value.int a0_21) (Value.int a0_22) a0g_23 a0g_24 a0g_25 a0g_26 a0g_27 a0g_28 a0g_29 a0g_30 a0g_31 a0g_32 a0g_33 a0g_34 a0g_35 a0g_36 a0g_37 a0g_38 a0g_39 j77a0_9 j77a0_10 ) (cwV 2 hts gX8_gallery_X8_wrong rfl rfl rfl zd_X8_wrong ⟨Nat.le_of_ble_eq_true rfl, Nat.le_of_ble_eq_true rfl⟩) ⟨ax_blind (fun _ _ _ _ _ => trivial), zr_8 (zp_K hK) (zp_P1 hP) (q0 := 0) rfl, ax_pre (zp_P1 hP) (zp_K hK) (zp_D1 hD) (fun _ _ => trivial)⟩ rfl rfl hl.1 rfl (lv_room (Nat.le_of_ble_eq_true rfl)) dX8_gallery_124 ⟨Nat.le_of_ble_eq_true rfl, Nat.le_of_ble_eq_true rfl⟩) hS (fun q _ h => zp_F1 hD hS hA q h) (zp_F1 hD hS hA) (fun u t H locs ht hvm hw => zx_2 (fun v124na0_9 v124na0_10 => zy_1 (fun hraw124_0 hB hz1 hk1 hS1 => zo1 hB ht hP hD hk1 (zp_F1 hD hS hA) hS1 (fun hP hK1 hD hS => ?_))))
                  rw [show (1 : Int32).toInt = 1 from by decide] at hraw124_0
                  have hc124 : FfG_X8_wrong 1 j77a0_4.toInt = (v124na0_9.toInt, v124na0_10.toInt) := hraw124_0
                  have hF0 := hF0.trans (fl_c2_eq hc124)
                  refine lv_aload_n hx hb dX8_gallery_127 rfl (lv_at hl 0 rfl) ?_
                  refine va_get (D := (dC, dI)) (ci := 8) (v := .int 1) (C := RX8) (T := TX8) (N := 40) hx hb hts zi_X8_gallery_8 hown hK hP 0 rfl rfl 13 (by decide) (hts (.fieldLink RX8 97 "WaxTurnsModel" "failed" "Z") (zm_X8_gallery_r1 (List.mem_of_getElem? (i := 2) rfl))) (fun _ h9 => h9) rfl dX8_gallery_128 ?_
                  refine lv_if_ne (tgt := 164) hx hb dX8_gallery_131 (by decide) (fun _ => ?_) (fun c131 => absurd c131 (by decide +kernel))
                  refine lv_aload_n hx hb dX8_gallery_164 rfl (lv_at hl 0 rfl) ?_
                  refine va_get (D := (dC, dI)) (ci := 8) (v := .int 1) (C := RX8) (T := TX8) (N := 40) hx hb hts zi_X8_gallery_8 hown hK hP 0 rfl rfl 13 (by decide) (hts (.fieldLink RX8 97 "WaxTurnsModel" "failed" "Z") (zm_X8_gallery_r1 (List.mem_of_getElem? (i := 2) rfl))) (fun _ h9 => h9) rfl dX8_gallery_165 ?_
                  refine lv_if_eq (tgt := 177) hx hb dX8_gallery_168 (by decide) (fun c168 => absurd c168 (by decide +kernel)) (fun _ => ?_)
                  refine lv_aload_n hx hb dX8_gallery_171 rfl (lv_at hl 0 rfl) ?_
                  refine lv_iconst (v := 4) hx hb dX8_gallery_172 zk_iconst_4 ?_
                  refine va_calli (va_runV (As := [.int 4]) (rest := []) ⟨hx, hb, hml, hown, hts⟩ (f_X8_no l dC dI H.size a0 4 (Value.int v1na0_0) (Value.ref a0_1) (Value.int 0) (Value.int a1) (Value.int j77a0_4) (Value.int j77a0_5) (Value.int j77a0_6) (Value.int j77a0_7) (Value.int j77a0_8) (Value.int v124na0_9) (Value.int v124na0_10) (Value.ref a0_12) (Value.int 1) (Value.int a0_14) (Value.ref a0_15) (Value.ref a0_16) (Value.ref a0_17) a0g_18 a0g_19 a0g_20 (Value.int a0_21) (Value.int a0_22) a0g_23 a0g_24 a0g_25 a0g_26 a0g_27 a0g_28 a0g_29 a0g_30 a0g_31 a0g_32 a0g_33 a0g_34 a0g_35 a0g_36 a0g_37 a0g_38 a0g_39 v1na0_11 ) (cwV 1 hts gX8_gallery_X8_no rfl rfl rfl zd_X8_no ⟨Nat.le_of_ble_eq_true rfl, Nat.le_of_ble_eq_true rfl⟩) ⟨ax_blind (fun _ _ _ _ _ => trivial), zr_8 (zp_K hK) (zp_P1 hP) (q0 := 0) rfl, ax_pre (zp_P1 hP) (zp_K hK) (zp_D1 hD) (fun _ _ => trivial)⟩ rfl rfl hl.1 rfl (lv_room (Nat.le_of_ble_eq_true rfl)) dX8_gallery_173 ⟨Nat.le_of_ble_eq_true rfl, Nat.le_of_ble_eq_true rfl⟩) hS (fun q _ h => zp_F1 hD hS hA q h) (zp_F1 hD hS hA) (fun r173 u t H locs ht hvm hw => zx_1 (fun v173na0_11 => zy_1 (fun hraw173_0 hB hz1 hk1 hS1 => zo1 hB ht hP hD hk1 (zp_F1 hD hS hA) hS1 (fun hP hK1 hD hS => ?_))))
                  obtain ⟨hw, hfr173⟩ := hw
                  rw [show (4 : Int32).toInt = 4 from by decide] at hfr173 hraw173_0
                  have hc173 : Ff_X8_no 4 = (r173.toInt, v173na0_11.toInt) := Prod.ext hfr173.symm hraw173_0
                  have hF0 := hF0.trans (fl_c2_eq hc173)
                  have hw : r173 = (-1) := hw
                  have hw := hw.symm
                  subst hw
                  have hFe : FX = ((-1), v1na0_0.toInt, 0, a1.toInt, j77a0_4.toInt, j77a0_5.toInt, j77a0_6.toInt, j77a0_7.toInt, j77a0_8.toInt, v124na0_9.toInt, v124na0_10.toInt, v173na0_11.toInt, 1, a0_14.toInt, a0_21.toInt, a0_22.toInt, (fl_A j77a0_16_a), (fl_A j77a0_12_a), (fl_A fa0_15), (fl_A fa0_17)) := hF0
                  exact W.iret (v := (-1)) hx hb hr (fun t ht hW => ⟨⟨(-1), (), rfl, ⟨⟨zq70, (Int.le_trans zq71 zq77)⟩, (congrArg Prod.fst hFe).symm⟩, v1na0_0, 0, a1, j77a0_4, j77a0_5, j77a0_6, j77a0_7, j77a0_8, v124na0_9, v124na0_10, v173na0_11, 1, a0_14, a0_21, a0_22, j77a0_16_a, j77a0_12_a, fa0_15, fa0_17, ⟨zq5, Int.le_trans zq6 (by decide)⟩, ⟨l10k0_a1, u10k0_a1⟩, ⟨bj77a0_5_l, bj77a0_5_u⟩, ⟨bj77a0_8_l, bj77a0_8_u⟩, ⟨Int.le_trans (by decide) zq1, zq0⟩, ⟨ba0_21_l, ba0_21_u⟩, ⟨ba0_22_l, ba0_22_u⟩, bfa0_17, (Or.inl ⟨rfl, rfl⟩), (by have h0 : (0 : Int32).toInt = 0 := (by decide); constructor <;> intro h9 <;> omega), (congrArg Prod.snd hFe), by rw [ht]; exact hP, va_K.moved hW.alike hK, hD⟩, hS.F ht⟩) hS.2.2 dX8_gallery_176
              · have gc90 := ai_eq c90
                have u90f_j77a0_6 : j77a0_6.toInt ≤ (59 : Int) := Int.le_trans (Int.le_of_eq gc90) zq146
                have l90f_j77a0_6 : (59 : Int) ≤ j77a0_6.toInt := Int.le_trans zq147 (Int.le_of_eq gc90.symm)
                have hF1 := hF1.trans (if_pos (show j77a0_6.toInt = 59 from gc90))
                refine lv_aload_n hx hb dX8_gallery_93 rfl (lv_at hl 0 rfl) ?_
                refine zc_cutc (wc := [(a0, .inr (8, [Value.int v1na0_0, Value.ref a0_1, Value.int 0, Value.int a1, Value.int j77a0_4, Value.int j77a0_5, Value.int j77a0_6, Value.int j77a0_7, Value.int j77a0_8, Value.int j77a0_9, Value.int j77a0_10, Value.int v1na0_11, Value.ref a0_12, Value.int 0, Value.int a0_14, Value.ref a0_15, Value.ref a0_16, Value.ref a0_17, a0g_18, a0g_19, a0g_20, Value.int a0_21, Value.int a0_22, a0g_23, a0g_24, a0g_25, a0g_26, a0g_27, a0g_28, a0g_29, a0g_30, a0g_31, a0g_32, a0g_33, a0g_34, a0g_35, a0g_36, a0g_37, a0g_38, a0g_39])), (a0_1, .inl (ka0_1, 900, .inl (fa0_1))), (a0_12, .inl (ka0_12, 8, .inl (j77a0_12_a)))]) hP hD hS hA [0, 2, 3] (by decide +kernel) rfl (fun hPc hDc hFc hCc => ?_)
                have hKc := hK.sub (tys' := [(ka0_1, .int), (ka0_12, .int)]) [1, 2] rfl
                refine va_callv (va_runV (As := []) (rest := []) ⟨hx, hb, hml, hown, hts⟩ (f_X8_next l dC dI H.size a0 (Value.int v1na0_0) (Value.int 0) (Value.int j77a0_9) (Value.int j77a0_10) (Value.int v1na0_11) (Value.int 0) (Value.int a0_14) (Value.ref a0_15) (Value.ref a0_16) (Value.ref a0_17) a0g_18 a0g_19 a0g_20 (Value.int a0_21) (Value.int a0_22) a0g_23 a0g_24 a0g_25 a0g_26 a0g_27 a0g_28 a0g_29 a0g_30 a0g_31 a0g_32 a0g_33 a0g_34 a0g_35 a0g_36 a0g_37 a0g_38 a0g_39 a0_1 a1 j77a0_4 j77a0_5 j77a0_6 j77a0_7 j77a0_8 a0_12 ka0_1 fa0_1 ka0_12 j77a0_12_a l10k0_a1 u10k0_a1 bj77a0_5_l bj77a0_5_u bj77a0_8_l bj77a0_8_u) (cwV 0 hts gX8_gallery_X8_next rfl rfl rfl zd_X8_next ⟨Nat.le_of_ble_eq_true rfl, Nat.le_of_ble_eq_true rfl⟩) ⟨ax_blind (fun _ _ _ _ _ => trivial), zr_8 hKc hPc (q0 := 0) rfl, ax_pre hPc hKc hDc (fun _ _ => trivial)⟩ rfl rfl hl.1 rfl (lv_room (Nat.le_of_ble_eq_true rfl)) dX8_gallery_94 ⟨Nat.le_of_ble_eq_true rfl, Nat.le_of_ble_eq_true rfl⟩) hS (fun q _ h => hFc q h) hFc (fun u t H locs ht hvm hw => zx_6 (fun v94na0_4 v94na0_5 v94na0_6 v94na0_7 v94na0_8 v94nfa0_12 => zy_5 (fun bv94na0_5 bv94na0_8 hraw94_0 hraw94_1 hraw94_2 hB hz1 hk1 hS1 => zo hB ht hS1 (fun hP1 hK1 hD1 hS => ?_))))
                refine zc_backc (w := [(a0, .inr (8, [Value.int v1na0_0, Value.ref a0_1, Value.int 0, Value.int a1, Value.int v94na0_4, Value.int v94na0_5, Value.int v94na0_6, Value.int v94na0_7, Value.int v94na0_8, Value.int j77a0_9, Value.int j77a0_10, Value.int v1na0_11, Value.ref a0_12, Value.int 0, Value.int a0_14, Value.ref a0_15, Value.ref a0_16, Value.ref a0_17, a0g_18, a0g_19, a0g_20, Value.int a0_21, Value.int a0_22, a0g_23, a0g_24, a0g_25, a0g_26, a0g_27, a0g_28, a0g_29, a0g_30, a0g_31, a0g_32, a0g_33, a0g_34, a0g_35, a0g_36, a0g_37, a0g_38, a0g_39])), (a0_16, .inl (ka0_16, 156, .inl (j77a0_16_a))), (a0_1, .inl (ka0_1, 900, .inl (fa0_1))), (a0_12, .inl (ka0_12, 8, .inl (v94nfa0_12))), (a0_15, .inl (ka0_15, 156, .inl (fa0_15))), (a0_17, .inl (ka0_17, 23, .inl (fa0_17)))]) hP hD hCc hk1 hFc hP1 hD1 [.inr 0, .inl 1, .inr 1, .inr 2, .inl 4, .inl 5] (by decide +kernel) rfl (fun hP hD => ?_)
                have hc94 : Ff_X8_next a1.toInt j77a0_5.toInt (fl_A fa0_1) (fl_A j77a0_12_a) = (v94na0_4.toInt, v94na0_5.toInt, v94na0_6.toInt, v94na0_7.toInt, v94na0_8.toInt, (fl_A v94nfa0_12)) := hraw94_2
                have hF1 := hF1.trans (fl_c6_eq hc94)
                refine lv_aload_n hx hb dX8_gallery_97 rfl (lv_at hl 0 rfl) ?_
                refine zc_cutc (wc := [(a0, .inr (8, [Value.int v1na0_0, Value.ref a0_1, Value.int 0, Value.int a1, Value.int v94na0_4, Value.int v94na0_5, Value.int v94na0_6, Value.int v94na0_7, Value.int v94na0_8, Value.int j77a0_9, Value.int j77a0_10, Value.int v1na0_11, Value.ref a0_12, Value.int 0, Value.int a0_14, Value.ref a0_15, Value.ref a0_16, Value.ref a0_17, a0g_18, a0g_19, a0g_20, Value.int a0_21, Value.int a0_22, a0g_23, a0g_24, a0g_25, a0g_26, a0g_27, a0g_28, a0g_29, a0g_30, a0g_31, a0g_32, a0g_33, a0g_34, a0g_35, a0g_36, a0g_37, a0g_38, a0g_39])), (a0_12, .inl (ka0_12, 8, .inl (v94nfa0_12))), (a0_16, .inl (ka0_16, 156, .inl (j77a0_16_a))), (a0_1, .inl (ka0_1, 900, .inl (fa0_1)))]) hP hD hS hA [0, 3, 1, 2] (by decide +kernel) rfl (fun hPc hDc hFc hCc => ?_)
                have hKc := hK.sub (tys' := [(ka0_12, .int), (ka0_16, .int), (ka0_1, .int)]) [2, 0, 1] rfl
                refine va_callv (va_runV (As := []) (rest := []) ⟨hx, hb, hml, hown, hts⟩ (fG_X8_readLine l dC dI H.size a0 (Value.int v1na0_0) (Value.int 0) (Value.int v1na0_11) (Value.int a0_14) (Value.ref a0_15) (Value.ref a0_17) a0g_18 a0g_19 a0g_20 (Value.int a0_21) (Value.int a0_22) a0g_23 a0g_24 a0g_25 a0g_26 a0g_27 a0g_28 a0g_29 a0g_30 a0g_31 a0g_32 a0g_33 a0g_34 a0g_35 a0g_36 a0g_37 a0g_38 a0g_39 a0_1 a1 v94na0_4 v94na0_5 v94na0_6 v94na0_7 v94na0_8 j77a0_9 j77a0_10 a0_12 a0_16 ka0_12 v94nfa0_12 ka0_16 j77a0_16_a ka0_1 fa0_1 ad l10k0_a1 u10k0_a1 bv94na0_5.1 bv94na0_5.2 bv94na0_8.1 bv94na0_8.2 fgc77 hraw94_0) (cwV 0 hts gX8_gallery_X8_readLine rfl rfl rfl zd_X8_readLine ⟨Nat.le_of_ble_eq_true rfl, Nat.le_of_ble_eq_true rfl⟩) ⟨ax_blind (fun _ _ _ _ hq => sxc_T_same _ _ _ _ (hq)), zr_8 hKc hPc (q0 := 0) rfl, ax_preE hPc hKc hDc (fun U hU hW => sxc_T_to hE0 hS.2.1 hFc hU hW)⟩ rfl rfl hl.1 rfl (lv_room (Nat.le_of_ble_eq_true rfl)) dX8_gallery_98 ⟨Nat.le_of_ble_eq_true rfl, Nat.le_of_ble_eq_true rfl⟩) hS (fun q _ h => hFc q h) hFc (fun u t H locs ht hvm hw => zx_10 (fun v98na0_4 v98na0_5 v98na0_6 v98na0_7 v98na0_8 v98na0_9 v98na0_10 v98na0_13 v98nfa0_12 v98nfa0_16 => zy_7 (fun bv98na0_5 bv98na0_8 bv98na0_13 bv98nfa0_16 hraw98_0 hraw98_1 hraw98_2 hB hz1 hk1 hS1 => zo hB ht hS1 (fun hP1 hK1 hD1 hS => ?_))))
                refine zc_backc (w := [(a0, .inr (8, [Value.int v1na0_0, Value.ref a0_1, Value.int 0, Value.int a1, Value.int v98na0_4, Value.int v98na0_5, Value.int v98na0_6, Value.int v98na0_7, Value.int v98na0_8, Value.int v98na0_9, Value.int v98na0_10, Value.int v1na0_11, Value.ref a0_12, Value.int v98na0_13, Value.int a0_14, Value.ref a0_15, Value.ref a0_16, Value.ref a0_17, a0g_18, a0g_19, a0g_20, Value.int a0_21, Value.int a0_22, a0g_23, a0g_24, a0g_25, a0g_26, a0g_27, a0g_28, a0g_29, a0g_30, a0g_31, a0g_32, a0g_33, a0g_34, a0g_35, a0g_36, a0g_37, a0g_38, a0g_39])), (a0_16, .inl (ka0_16, 156, .inl (v98nfa0_16))), (a0_1, .inl (ka0_1, 900, .inl (fa0_1))), (a0_12, .inl (ka0_12, 8, .inl (v98nfa0_12))), (a0_15, .inl (ka0_15, 156, .inl (fa0_15))), (a0_17, .inl (ka0_17, 23, .inl (fa0_17)))]) hP hD hCc hk1 hFc hP1 hD1 [.inr 0, .inr 2, .inr 3, .inr 1, .inl 4, .inl 5] (by decide +kernel) rfl (fun hP hD => ?_)
                have hc98 : FfG_X8_readLine a1.toInt v94na0_4.toInt v94na0_5.toInt v94na0_6.toInt v94na0_7.toInt v94na0_8.toInt j77a0_9.toInt j77a0_10.toInt (fl_A v94nfa0_12) (fl_A j77a0_16_a) (fl_A fa0_1) = (v98na0_4.toInt, v98na0_5.toInt, v98na0_6.toInt, v98na0_7.toInt, v98na0_8.toInt, v98na0_9.toInt, v98na0_10.toInt, v98na0_13.toInt, (fl_A v98nfa0_12), (fl_A v98nfa0_16)) := hraw98_2
                have hF1 := hF1.trans (fl_c10_eq hc98)
                rcases hraw98_0 with hf98 | hf98
                · subst hf98
                  have hF1 := hF1.trans (if_pos (by decide))
                  refine lv_goto (tgt := 77) hx hb dX8_gallery_101 (by decide) ?_
                  refine lv_aload_n hx hb dX8_gallery_77 rfl (lv_at hl 0 rfl) ?_
                  refine va_get (D := (dC, dI)) (ci := 8) (v := .int 1) (C := RX8) (T := TX8) (N := 40) hx hb hts zi_X8_gallery_8 hown hK hP 0 rfl rfl 13 (by decide) (hts (.fieldLink RX8 97 "WaxTurnsModel" "failed" "Z") (zm_X8_gallery_r1 (List.mem_of_getElem? (i := 2) rfl))) (fun _ h9 => h9) rfl dX8_gallery_78 ?_
                  refine lv_if_ne (tgt := 104) hx hb dX8_gallery_81 (by decide) (fun _ => ?_) (fun c81 => absurd c81 (by decide +kernel))
                  have hF0 := hF0.trans (fl_wh_r (hSX77.trans hF1))
                  refine lv_aload_n hx hb dX8_gallery_104 rfl (lv_at hl 0 rfl) ?_
                  refine va_get (D := (dC, dI)) (ci := 8) (v := .int 1) (C := RX8) (T := TX8) (N := 40) hx hb hts zi_X8_gallery_8 hown hK hP 0 rfl rfl 13 (by decide) (hts (.fieldLink RX8 97 "WaxTurnsModel" "failed" "Z") (zm_X8_gallery_r1 (List.mem_of_getElem? (i := 2) rfl))) (fun _ h9 => h9) rfl dX8_gallery_105 ?_
                  refine lv_if_ne (tgt := 127) hx hb dX8_gallery_108 (by decide) (fun _ => ?_) (fun c108 => absurd c108 (by decide +kernel))
                  refine lv_aload_n hx hb dX8_gallery_127 rfl (lv_at hl 0 rfl) ?_
                  refine va_get (D := (dC, dI)) (ci := 8) (v := .int 1) (C := RX8) (T := TX8) (N := 40) hx hb hts zi_X8_gallery_8 hown hK hP 0 rfl rfl 13 (by decide) (hts (.fieldLink RX8 97 "WaxTurnsModel" "failed" "Z") (zm_X8_gallery_r1 (List.mem_of_getElem? (i := 2) rfl))) (fun _ h9 => h9) rfl dX8_gallery_128 ?_
                  refine lv_if_ne (tgt := 164) hx hb dX8_gallery_131 (by decide) (fun _ => ?_) (fun c131 => absurd c131 (by decide +kernel))
                  refine lv_aload_n hx hb dX8_gallery_164 rfl (lv_at hl 0 rfl) ?_
                  refine va_get (D := (dC, dI)) (ci := 8) (v := .int 1) (C := RX8) (T := TX8) (N := 40) hx hb hts zi_X8_gallery_8 hown hK hP 0 rfl rfl 13 (by decide) (hts (.fieldLink RX8 97 "WaxTurnsModel" "failed" "Z") (zm_X8_gallery_r1 (List.mem_of_getElem? (i := 2) rfl))) (fun _ h9 => h9) rfl dX8_gallery_165 ?_
                  refine lv_if_eq (tgt := 177) hx hb dX8_gallery_168 (by decide) (fun c168 => absurd c168 (by decide +kernel)) (fun _ => ?_)
                  refine lv_aload_n hx hb dX8_gallery_171 rfl (lv_at hl 0 rfl) ?_
                  refine lv_iconst (v := 4) hx hb dX8_gallery_172 zk_iconst_4 ?_
                  refine va_calli (va_runV (As := [.int 4]) (rest := []) ⟨hx, hb, hml, hown, hts⟩ (f_X8_no l dC dI H.size a0 4 (Value.int v1na0_0) (Value.ref a0_1) (Value.int 0) (Value.int a1) (Value.int v98na0_4) (Value.int v98na0_5) (Value.int v98na0_6) (Value.int v98na0_7) (Value.int v98na0_8) (Value.int v98na0_9) (Value.int v98na0_10) (Value.ref a0_12) (Value.int 1) (Value.int a0_14) (Value.ref a0_15) (Value.ref a0_16) (Value.ref a0_17) a0g_18 a0g_19 a0g_20 (Value.int a0_21) (Value.int a0_22) a0g_23 a0g_24 a0g_25 a0g_26 a0g_27 a0g_28 a0g_29 a0g_30 a0g_31 a0g_32 a0g_33 a0g_34 a0g_35 a0g_36 a0g_37 a0g_38 a0g_39 v1na0_11 ) (cwV 1 hts gX8_gallery_X8_no rfl rfl rfl zd_X8_no ⟨Nat.le_of_ble_eq_true rfl, Nat.le_of_ble_eq_true rfl⟩) ⟨ax_blind (fun _ _ _ _ _ => trivial), zr_8 (zp_K hK) (zp_P1 hP) (q0 := 0) rfl, ax_pre (zp_P1 hP) (zp_K hK) (zp_D1 hD) (fun _ _ => trivial)⟩ rfl rfl hl.1 rfl (lv_room (Nat.le_of_ble_eq_true rfl)) dX8_gallery_173 ⟨Nat.le_of_ble_eq_true rfl, Nat.le_of_ble_eq_true rfl⟩) hS (fun q _ h => zp_F1 hD hS hA q h) (zp_F1 hD hS hA) (fun r173 u t H locs ht hvm hw => zx_1 (fun v173na0_11 => zy_1 (fun hraw173_0 hB hz1 hk1 hS1 => zo1 hB ht hP hD hk1 (zp_F1 hD hS hA) hS1 (fun hP hK1 hD hS => ?_))))
                  obtain ⟨hw, hfr173⟩ := hw
                  rw [show (4 : Int32).toInt = 4 from by decide] at hfr173 hraw173_0
                  have hc173 : Ff_X8_no 4 = (r173.toInt, v173na0_11.toInt) := Prod.ext hfr173.symm hraw173_0
                  have hF0 := hF0.trans (fl_c2_eq hc173)
                  have hw : r173 = (-1) := hw
                  have hw := hw.symm
                  subst hw
                  have hFe : FX = ((-1), v1na0_0.toInt, 0, a1.toInt, v98na0_4.toInt, v98na0_5.toInt, v98na0_6.toInt, v98na0_7.toInt, v98na0_8.toInt, v98na0_9.toInt, v98na0_10.toInt, v173na0_11.toInt, 1, a0_14.toInt, a0_21.toInt, a0_22.toInt, (fl_A v98nfa0_16), (fl_A v98nfa0_12), (fl_A fa0_15), (fl_A fa0_17)) := hF0
                  exact W.iret (v := (-1)) hx hb hr (fun t ht hW => ⟨⟨(-1), (), rfl, ⟨⟨zq70, (Int.le_trans zq71 zq77)⟩, (congrArg Prod.fst hFe).symm⟩, v1na0_0, 0, a1, v98na0_4, v98na0_5, v98na0_6, v98na0_7, v98na0_8, v98na0_9, v98na0_10, v173na0_11, 1, a0_14, a0_21, a0_22, v98nfa0_16, v98nfa0_12, fa0_15, fa0_17, ⟨zq5, Int.le_trans zq6 (by decide)⟩, ⟨l10k0_a1, u10k0_a1⟩, ⟨bv98na0_5.1, bv98na0_5.2⟩, ⟨bv98na0_8.1, bv98na0_8.2⟩, ⟨Int.le_trans (by decide) zq1, zq0⟩, ⟨ba0_21_l, ba0_21_u⟩, ⟨ba0_22_l, ba0_22_u⟩, bfa0_17, (Or.inl ⟨rfl, rfl⟩), (by have h0 : (0 : Int32).toInt = 0 := (by decide); constructor <;> intro h9 <;> omega), (congrArg Prod.snd hFe), by rw [ht]; exact hP, va_K.moved hW.alike hK, hD⟩, hS.F ht⟩) hS.2.2 dX8_gallery_176
                · subst hf98
                  have hF1 := hF1.trans (if_neg (by decide))
                  refine lv_goto (tgt := 77) hx hb dX8_gallery_101 (by decide) ?_
                  exact (hK0 _ _ _).mp (ih77 v98na0_4 v98na0_5 v98na0_6 v98na0_7 v98na0_8 v98na0_9 v98na0_10 v98nfa0_16 v98nfa0_12 _ _ _ ⟨by omega, fun h59 => by omega⟩ bv98na0_5.1 bv98na0_5.2 bv98na0_8.1 bv98na0_8.2 bv98nfa0_16 (hF0.trans (fl_wh_l (hSX77.trans hF1))) hP hD hS (lv_sub hl [0] rfl))
          rcases hraw74_0 with hf74 | hf74
          · subst hf74
            have hF0 := hF0.trans (if_pos (by decide))
            refine lv_aload_n hx hb dX8_gallery_77 rfl (lv_at hl 0 rfl) ?_
            refine va_get (D := (dC, dI)) (ci := 8) (v := .int 1) (C := RX8) (T := TX8) (N := 40) hx hb hts zi_X8_gallery_8 hown hK hP 0 rfl rfl 13 (by decide) (hts (.fieldLink RX8 97 "WaxTurnsModel" "failed" "Z") (zm_X8_gallery_r1 (List.mem_of_getElem? (i := 2) rfl))) (fun _ h9 => h9) rfl dX8_gallery_78 ?_
            refine lv_if_ne (tgt := 104) hx hb dX8_gallery_81 (by decide) (fun _ => ?_) (fun c81 => absurd c81 (by decide +kernel))
            refine lv_aload_n hx hb dX8_gallery_104 rfl (lv_at hl 0 rfl) ?_
            refine va_get (D := (dC, dI)) (ci := 8) (v := .int 1) (C := RX8) (T := TX8) (N := 40) hx hb hts zi_X8_gallery_8 hown hK hP 0 rfl rfl 13 (by decide) (hts (.fieldLink RX8 97 "WaxTurnsModel" "failed" "Z") (zm_X8_gallery_r1 (List.mem_of_getElem? (i := 2) rfl))) (fun _ h9 => h9) rfl dX8_gallery_105 ?_
            refine lv_if_ne (tgt := 127) hx hb dX8_gallery_108 (by decide) (fun _ => ?_) (fun c108 => absurd c108 (by decide +kernel))
            refine lv_aload_n hx hb dX8_gallery_127 rfl (lv_at hl 0 rfl) ?_
            refine va_get (D := (dC, dI)) (ci := 8) (v := .int 1) (C := RX8) (T := TX8) (N := 40) hx hb hts zi_X8_gallery_8 hown hK hP 0 rfl rfl 13 (by decide) (hts (.fieldLink RX8 97 "WaxTurnsModel" "failed" "Z") (zm_X8_gallery_r1 (List.mem_of_getElem? (i := 2) rfl))) (fun _ h9 => h9) rfl dX8_gallery_128 ?_
            refine lv_if_ne (tgt := 164) hx hb dX8_gallery_131 (by decide) (fun _ => ?_) (fun c131 => absurd c131 (by decide +kernel))
            refine lv_aload_n hx hb dX8_gallery_164 rfl (lv_at hl 0 rfl) ?_
            refine va_get (D := (dC, dI)) (ci := 8) (v := .int 1) (C := RX8) (T := TX8) (N := 40) hx hb hts zi_X8_gallery_8 hown hK hP 0 rfl rfl 13 (by decide) (hts (.fieldLink RX8 97 "WaxTurnsModel" "failed" "Z") (zm_X8_gallery_r1 (List.mem_of_getElem? (i := 2) rfl))) (fun _ h9 => h9) rfl dX8_gallery_165 ?_
            refine lv_if_eq (tgt := 177) hx hb dX8_gallery_168 (by decide) (fun c168 => absurd c168 (by decide +kernel)) (fun _ => ?_)
            refine lv_aload_n hx hb dX8_gallery_171 rfl (lv_at hl 0 rfl) ?_
            refine lv_iconst (v := 4) hx hb dX8_gallery_172 zk_iconst_4 ?_
            refine va_calli (va_runV (As := [.int 4]) (rest := []) ⟨hx, hb, hml, hown, hts⟩ (f_X8_no l dC dI H.size a0 4 (Value.int v1na0_0) (Value.ref a0_1) (Value.int 0) (Value.int a1) (Value.int v74na0_4) (Value.int v74na0_5) (Value.int v74na0_6) (Value.int v74na0_7) (Value.int v74na0_8) (Value.int v74na0_9) (Value.int v74na0_10) (Value.ref a0_12) (Value.int 1) (Value.int a0_14) (Value.ref a0_15) (Value.ref a0_16) (Value.ref a0_17) a0g_18 a0g_19 a0g_20 (Value.int a0_21) (Value.int a0_22) a0g_23 a0g_24 a0g_25 a0g_26 a0g_27 a0g_28 a0g_29 a0g_30 a0g_31 a0g_32 a0g_33 a0g_34 a0g_35 a0g_36 a0g_37 a0g_38 a0g_39 v1na0_11 ) (cwV 1 hts gX8_gallery_X8_no rfl rfl rfl zd_X8_no ⟨Nat.le_of_ble_eq_true rfl, Nat.le_of_ble_eq_true rfl⟩) ⟨ax_blind (fun _ _ _ _ _ => trivial), zr_8 (zp_K hK) (zp_P1 hP) (q0 := 0) rfl, ax_pre (zp_P1 hP) (zp_K hK) (zp_D1 hD) (fun _ _ => trivial)⟩ rfl rfl hl.1 rfl (lv_room (Nat.le_of_ble_eq_true rfl)) dX8_gallery_173 ⟨Nat.le_of_ble_eq_true rfl, Nat.le_of_ble_eq_true rfl⟩) hS (fun q _ h => zp_F1 hD hS hA q h) (zp_F1 hD hS hA) (fun r173 u t H locs ht hvm hw => zx_1 (fun v173na0_11 => zy_1 (fun hraw173_0 hB hz1 hk1 hS1 => zo1 hB ht hP hD hk1 (zp_F1 hD hS hA) hS1 (fun hP hK1 hD hS => ?_))))
            obtain ⟨hw, hfr173⟩ := hw
            rw [show (4 : Int32).toInt = 4 from by decide] at hfr173 hraw173_0
            have hc173 : Ff_X8_no 4 = (r173.toInt, v173na0_11.toInt) := Prod.ext hfr173.symm hraw173_0
            have hF0 := hF0.trans (fl_c2_eq hc173)
            have hw : r173 = (-1) := hw
            have hw := hw.symm
            subst hw
            have hFe : FX = ((-1), v1na0_0.toInt, 0, a1.toInt, v74na0_4.toInt, v74na0_5.toInt, v74na0_6.toInt, v74na0_7.toInt, v74na0_8.toInt, v74na0_9.toInt, v74na0_10.toInt, v173na0_11.toInt, 1, a0_14.toInt, a0_21.toInt, a0_22.toInt, (fl_A v74nfa0_16), (fl_A v74nfa0_12), (fl_A fa0_15), (fl_A fa0_17)) := hF0
            exact W.iret (v := (-1)) hx hb hr (fun t ht hW => ⟨⟨(-1), (), rfl, ⟨⟨zq70, (Int.le_trans zq71 zq77)⟩, (congrArg Prod.fst hFe).symm⟩, v1na0_0, 0, a1, v74na0_4, v74na0_5, v74na0_6, v74na0_7, v74na0_8, v74na0_9, v74na0_10, v173na0_11, 1, a0_14, a0_21, a0_22, v74nfa0_16, v74nfa0_12, fa0_15, fa0_17, ⟨zq5, Int.le_trans zq6 (by decide)⟩, ⟨l10k0_a1, u10k0_a1⟩, ⟨bv74na0_5.1, bv74na0_5.2⟩, ⟨bv74na0_8.1, bv74na0_8.2⟩, ⟨Int.le_trans (by decide) zq1, zq0⟩, ⟨ba0_21_l, ba0_21_u⟩, ⟨ba0_22_l, ba0_22_u⟩, bfa0_17, (Or.inl ⟨rfl, rfl⟩), (by have h0 : (0 : Int32).toInt = 0 := (by decide); constructor <;> intro h9 <;> omega), (congrArg Prod.snd hFe), by rw [ht]; exact hP, va_K.moved hW.alike hK, hD⟩, hS.F ht⟩) hS.2.2 dX8_gallery_176
          · subst hf74
            have hF0 := hF0.trans (if_neg (by decide))
            exact (hK0 _ _ _).mp (J77 1804 v74na0_4 v74na0_5 v74na0_6 v74na0_7 v74na0_8 v74na0_9 v74na0_10 v74nfa0_16 v74nfa0_12 _ _ _ ⟨by omega, fun h59 => by omega⟩ bv74na0_5.1 bv74na0_5.2 bv74na0_8.1 bv74na0_8.2 bv74nfa0_16 hF0 hP hD hS (lv_sub hl [0] rfl))
        · have gc43 := ai_nle c43
          have u43f_j39l2 : j39l2.toInt ≤ (155 : Int) := ai_lthi gc43 zq240
          have hF1 := hF1.trans (if_neg (show ¬ (156 ≤ j39l2.toInt) from Int.not_le.mpr gc43))
          refine lv_aload_n hx hb dX8_gallery_46 rfl (lv_at hl 0 rfl) ?_
          refine va_get (D := (dC, dI)) (ci := 8) (v := .ref a0_16) (C := RX8) (T := TX8) (N := 40) hx hb hts zi_X8_gallery_8 hown hK hP 0 rfl rfl 16 (by decide) (hts (.fieldLink RX8 23 "WaxTurnsModel" "fresh" "[I") (zm_X8_gallery_r1 (List.mem_of_getElem? (i := 3) rfl))) (fun _ h9 => h9) rfl dX8_gallery_47 ?_
          refine lv_iload_n hx hb dX8_gallery_50 rfl (lv_at hl 2 rfl) ?_
          refine lv_iconst (v := 0) hx hb dX8_gallery_51 zk_iconst_0 ?_
          refine va_iast hx hb hK hP hD hS 1 0 rfl rfl (ai_in bj39l2_l u43f_j39l2 (by decide) (by decide)) dX8_gallery_52 (fun H locs hP hD hS => ?_)
          obtain ⟨f52, ef52⟩ : ∃ g9 : Nat → Int32, g9 = upd j39a0_16_a (j39l2 : Int32).toNatClampNeg (0 : Int32) := ⟨_, rfl⟩
          refine zs_1 (y := (a0_16, .inl (ka0_16, 156, .inl (f52)))) hP hD (by rw [ef52]) (fun hP hD => ?_)
          have fqf52 := fl_up_eq ef52
          have hF1 := hF1.trans (fl_lt_eq (show (fl_A f52) = fl_up (fl_A j39a0_16_a) (j39l2.toInt.toNat) 0 from fqf52))
          obtain ⟨x53, ex53⟩ : ∃ y : Int32, y = j39l2 + Int32.ofInt 1 := ⟨_, rfl⟩
          have qx53 : x53.toInt = j39l2.toInt + 1 := ai_inc ex53 (by decide) (by decide) u43f_j39l2 (by decide)
          have bx53 : (1 : Int) ≤ x53.toInt ∧ x53.toInt ≤ 156 := ⟨by rw [qx53]; exact Int.add_le_add bj39l2_l (Int.le_refl _), by rw [qx53]; exact Int.add_le_add u43f_j39l2 (Int.le_refl _)⟩
          refine lv_iinc (v := x53) (lv' := [(2, .int x53), (0, .ref a0), (1, .int a1)]) hx hb dX8_gallery_53 hl (k := 2) rfl ex53.symm (by decide) rfl (fun ls hl => ?_)
          have hF1 := hF1.trans (fl_lt_eq (show x53.toInt = j39l2.toInt + 1 from qx53))
          refine lv_goto (tgt := 39) hx hb dX8_gallery_56 (by decide) ?_
          exact (hK0 _ _ _).mp (ih39 x53 f52 _ _ _ (by first | exact zg_s hm39 qx53 | (have h0 := qx53; omega)) (Int.le_trans zq4 bx53.1) bx53.2 (fg_zs fz39 ef52 qx53 bj39l2_l) (hF0.trans (fl_wh_l (hSX39.trans hF1))) hP hD hS (lv_sub hl [1, 2, 0] rfl))
    exact (hK0 _ _ _).mp (J39 157 0 fa0_16 _ _ _ (by first | decide +kernel | (have h1 : (0 : Int) ≤ (0 : Int32).toInt := zq5; have h2 : (0 : Int32).toInt ≤ (0 : Int) := zq6; omega)) zq5 (Int.le_trans zq6 zq167) (fg_z0 (by decide)) (by rw [show (0 : Int32).toInt = 0 from by decide]; exact hF0) hP hD hS (lv_sub hl [1, 2, 0] rfl))
  · obtain ⟨hw, h10⟩ := hw
    subst hw
    have hF0 := hF0.trans (if_neg (by decide))
    refine lv_if_ne (tgt := 22) hx hb dX8_gallery_13 (by decide) (fun c13 => absurd (by decide +kernel) c13) (fun _ => ?_)
    refine lv_aload_n hx hb dX8_gallery_16 rfl (lv_at hl 0 rfl) ?_
    refine lv_iconst (v := 2) hx hb dX8_gallery_17 zk_iconst_2 ?_
    refine va_calli (va_runV (As := [.int 2]) (rest := []) ⟨hx, hb, hml, hown, hts⟩ (f_X8_no l dC dI H.size a0 2 (Value.int v1na0_0) (Value.ref a0_1) (Value.int a0_2) (Value.int a0_3) (Value.int a0_4) (Value.int a0_5) (Value.int a0_6) (Value.int a0_7) (Value.int a0_8) (Value.int a0_9) (Value.int a0_10) (Value.ref a0_12) (Value.int a0_13) (Value.int a0_14) (Value.ref a0_15) (Value.ref a0_16) (Value.ref a0_17) a0g_18 a0g_19 a0g_20 (Value.int a0_21) (Value.int a0_22) a0g_23 a0g_24 a0g_25 a0g_26 a0g_27 a0g_28 a0g_29 a0g_30 a0g_31 a0g_32 a0g_33 a0g_34 a0g_35 a0g_36 a0g_37 a0g_38 a0g_39 v1na0_11 ) (cwV 1 hts gX8_gallery_X8_no rfl rfl rfl zd_X8_no ⟨Nat.le_of_ble_eq_true rfl, Nat.le_of_ble_eq_true rfl⟩) ⟨ax_blind (fun _ _ _ _ _ => trivial), zr_8 (zp_K hK) (zp_P1 hP) (q0 := 0) rfl, ax_pre (zp_P1 hP) (zp_K hK) (zp_D1 hD) (fun _ _ => trivial)⟩ rfl rfl hl.1 rfl (lv_room (Nat.le_of_ble_eq_true rfl)) dX8_gallery_18 ⟨Nat.le_of_ble_eq_true rfl, Nat.le_of_ble_eq_true rfl⟩) hS (fun q _ h => zp_F1 hD hS hA q h) (zp_F1 hD hS hA) (fun r18 u t H locs ht hvm hw => zx_1 (fun v18na0_11 => zy_1 (fun hraw18_0 hB hz1 hk1 hS1 => zo1 hB ht hP hD hk1 (zp_F1 hD hS hA) hS1 (fun hP hK1 hD hS => ?_))))
    obtain ⟨hw, hfr18⟩ := hw
    rw [show (2 : Int32).toInt = 2 from by decide] at hfr18 hraw18_0
    have hc18 : Ff_X8_no 2 = (r18.toInt, v18na0_11.toInt) := Prod.ext hfr18.symm hraw18_0
    have hF0 := hF0.trans (fl_c2_eq hc18)
    have hw : r18 = (-1) := hw
    have hw := hw.symm
    subst hw
    have hFe : FX = ((-1), v1na0_0.toInt, a0_2.toInt, a0_3.toInt, a0_4.toInt, a0_5.toInt, a0_6.toInt, a0_7.toInt, a0_8.toInt, a0_9.toInt, a0_10.toInt, v18na0_11.toInt, a0_13.toInt, a0_14.toInt, a0_21.toInt, a0_22.toInt, (fl_A fa0_16), (fl_A fa0_12), (fl_A fa0_15), (fl_A fa0_17)) := hF0
    exact W.iret (v := (-1)) hx hb hr (fun t ht hW => ⟨⟨(-1), (), rfl, ⟨⟨zq70, (Int.le_trans zq71 zq77)⟩, (congrArg Prod.fst hFe).symm⟩, v1na0_0, a0_2, a0_3, a0_4, a0_5, a0_6, a0_7, a0_8, a0_9, a0_10, v18na0_11, a0_13, a0_14, a0_21, a0_22, fa0_16, fa0_12, fa0_15, fa0_17, ⟨ba0_2_l, ba0_2_u⟩, ⟨ba0_3_l, ba0_3_u⟩, ⟨ba0_5_l, ba0_5_u⟩, ⟨ba0_8_l, ba0_8_u⟩, ⟨ba0_13_l, ba0_13_u⟩, ⟨ba0_21_l, ba0_21_u⟩, ⟨ba0_22_l, ba0_22_u⟩, bfa0_17, (Or.inl ⟨rfl, rfl⟩), (by have h0 : (0 : Int32).toInt = 0 := (by decide); constructor <;> intro h9 <;> omega), (congrArg Prod.snd hFe), by rw [ht]; exact hP, va_K.moved hW.alike hK, hD⟩, hS.F ht⟩) hS.2.2 dX8_gallery_21
end P312_10_f
section P313_00_f
set_option maxHeartbeats 4000000 in
set_option maxRecDepth 100000 in
theorem f_X7_answered (l : Launch) (dC : Nat → ClassId) (dI : Nat → Nat → Nat) (sz : Nat) (a0 : Nat) (a1 : Int32) (a0g_0 a0g_1 a0g_2 a0g_3 a0g_4 a0g_5 a0g_6 a0g_7 a0g_9 a0g_10 : Value) (a0_8 : Int32)  : zm l yX7_answered wsX7_answered ({ frames := 0, cells := 0, slots := 0, locals := 0 }) [.ref a0, .int a1] dC dI sz [(a0, .inr (7, [a0g_0, a0g_1, a0g_2, a0g_3, a0g_4, a0g_5, a0g_6, a0g_7, .int a0_8, a0g_9, a0g_10]))] [] (fun A _ => True) (fun A => va_Qi (fun (r : Int32) (_ : Unit) => (r = a1) ∧ r.toInt = (Ff_X7_answered a1.toInt).1) (fun (_ : Unit) (t : State) => ∃ na0_8 : Int32, ((Ff_X7_answered a1.toInt).2 = na0_8.toInt) ∧ ax_B dC dI A [(a0, .inr (7, [a0g_0, a0g_1, a0g_2, a0g_3, a0g_4, a0g_5, a0g_6, a0g_7, .int na0_8, a0g_9, a0g_10]))] [] t) A) := by
  refine zh (cc := cX7_answered) (maxL := 2) (ret := (some .int)) zn_RX7 rfl (Nat.le_of_ble_eq_true rfl) (fun p e s m below meth c A ls hx hb hml hr hts (hown : s.vm.findClass RX7 = some m.cls) hlocks hA hS hP hK hD hE (hl : lv_has ls 2 [(0, .ref a0), (1, .int a1)]) => ?_)
  generalize hFX : Ff_X7_answered a1.toInt = FX at ⊢
  have hF0 := hFX.symm.trans (Ff_X7_answered.eq_1 a1.toInt)
  refine lv_aload_n hx hb dX7_answered_0 rfl (lv_at hl 0 rfl) ?_
  refine lv_iconst (v := 0) hx hb dX7_answered_1 zk_iconst_0 ?_
  refine va_put (D := (dC, dI)) (ci := 7) (v := .int 0) (ty := .int) (C := RX7) (T := TX7) (N := 11) hx hb hts zi_X7_answered_7 tyX7 tyX7_ok nmX7 hown hK hP hD hS 0 rfl rfl 8 (by decide) (hts (.fieldLink RX7 61 "WaxTurns" "latestTrouble" "I") (List.mem_cons_of_mem _ (List.mem_append_left _ (List.mem_of_getElem? (i := 0) rfl)))) (fun _ h9 => h9) rfl (tyX7_ok 8 (by decide)) rfl rfl (Nat.le_of_ble_eq_true rfl) dX7_answered_2 (fun H locs hP hD hS => ?_)
  refine zs_0 (y := (a0, .inr (7, [a0g_0, a0g_1, a0g_2, a0g_3, a0g_4, a0g_5, a0g_6, a0g_7, .int 0, a0g_9, a0g_10]))) hP hD rfl (fun hP hD => ?_)
  refine lv_iload_n hx hb dX7_answered_5 rfl (lv_at hl 1 rfl) ?_
  have hFe : FX = (a1.toInt, 0) := hF0
  exact W.iret (v := a1) hx hb hr (fun t ht hW => ⟨⟨a1, (), rfl, ⟨rfl, (congrArg Prod.fst hFe).symm⟩, 0, (congrArg Prod.snd hFe), by rw [ht]; exact hP, va_K.moved hW.alike hK, hD⟩, hS.F ht⟩) hS.2.2 dX7_answered_6

set_option maxHeartbeats 4000000 in
set_option maxRecDepth 100000 in
theorem f_X7_refused (l : Launch) (dC : Nat → ClassId) (dI : Nat → Nat → Nat) (sz : Nat) (a0 : Nat) (a1 : Int32) (a0g_0 a0g_1 a0g_2 a0g_3 a0g_4 a0g_5 a0g_6 a0g_7 a0g_9 a0g_10 : Value) (a0_8 : Int32)  : zm l yX7_refused wsX7_refused ({ frames := 0, cells := 0, slots := 0, locals := 0 }) [.ref a0, .int a1] dC dI sz [(a0, .inr (7, [a0g_0, a0g_1, a0g_2, a0g_3, a0g_4, a0g_5, a0g_6, a0g_7, .int a0_8, a0g_9, a0g_10]))] [] (fun A _ => True) (fun A => va_Qi (fun (r : Int32) (_ : Unit) => (r = (-1)) ∧ r.toInt = (Ff_X7_refused a1.toInt).1) (fun (_ : Unit) (t : State) => ∃ na0_8 : Int32, ((Ff_X7_refused a1.toInt).2 = na0_8.toInt) ∧ ax_B dC dI A [(a0, .inr (7, [a0g_0, a0g_1, a0g_2, a0g_3, a0g_4, a0g_5, a0g_6, a0g_7, .int na0_8, a0g_9, a0g_10]))] [] t) A) := by
  refine zh (cc := cX7_refused) (maxL := 2) (ret := (some .int)) zn_RX7 rfl (Nat.le_of_ble_eq_true rfl) (fun p e s m below meth c A ls hx hb hml hr hts (hown : s.vm.findClass RX7 = some m.cls) hlocks hA hS hP hK hD hE (hl : lv_has ls 2 [(0, .ref a0), (1, .int a1)]) => ?_)
  generalize hFX : Ff_X7_refused a1.toInt = FX at ⊢
  have hF0 := hFX.symm.trans (Ff_X7_refused.eq_1 a1.toInt)
  refine lv_aload_n hx hb dX7_refused_0 rfl (lv_at hl 0 rfl) ?_
  refine lv_iload_n hx hb dX7_refused_1 rfl (lv_at hl 1 rfl) ?_
  refine va_put (D := (dC, dI)) (ci := 7) (v := .int a1) (ty := .int) (C := RX7) (T := TX7) (N := 11) hx hb hts zi_X7_refused_7 tyX7 tyX7_ok nmX7 hown hK hP hD hS 0 rfl rfl 8 (by decide) (hts (.fieldLink RX7 61 "WaxTurns" "latestTrouble" "I") (List.mem_cons_of_mem _ (List.mem_append_left _ (List.mem_of_getElem? (i := 0) rfl)))) (fun _ h9 => h9) rfl (tyX7_ok 8 (by decide)) rfl rfl (Nat.le_of_ble_eq_true rfl) dX7_refused_2 (fun H locs hP hD hS => ?_)
  refine zs_0 (y := (a0, .inr (7, [a0g_0, a0g_1, a0g_2, a0g_3, a0g_4, a0g_5, a0g_6, a0g_7, .int a1, a0g_9, a0g_10]))) hP hD rfl (fun hP hD => ?_)
  refine lv_iconst (v := (-1)) hx hb dX7_refused_5 zk_iconst_n1 ?_
  have hFe : FX = ((-1), a1.toInt) := hF0
  exact W.iret (v := (-1)) hx hb hr (fun t ht hW => ⟨⟨(-1), (), rfl, ⟨rfl, (congrArg Prod.fst hFe).symm⟩, a1, (congrArg Prod.snd hFe), by rw [ht]; exact hP, va_K.moved hW.alike hK, hD⟩, hS.F ht⟩) hS.2.2 dX7_refused_6

set_option maxHeartbeats 4000000 in
set_option maxRecDepth 100000 in
theorem f_X5_startTurn (l : Launch) (dC : Nat → ClassId) (dI : Nat → Nat → Nat) (sz : Nat) (a0 : Nat) (a1 : Int32) (a0g_0 a0g_3 a0g_4 a0g_5 a0g_6 : Value) (a0_1 : Int32) (a0_2 : Int32) (ba1_l : (0 : Int) ≤ a1.toInt) (ba1_u : a1.toInt ≤ (8 : Int)) (ba0_1_l : (0 : Int) ≤ a0_1.toInt) (ba0_1_u : a0_1.toInt ≤ (8 : Int)) : zm l yX5_startTurn wsX5_startTurn ({ frames := 0, cells := 0, slots := 0, locals := 0 }) [.ref a0, .int a1] dC dI sz [(a0, .inr (5, [a0g_0, .int a0_1, .int a0_2, a0g_3, a0g_4, a0g_5, a0g_6]))] [] (fun A _ => True) (fun A => va_Qv (fun (_ : Unit) => True) (fun (_ : Unit) (t : State) => ∃ na0_1 : Int32, ∃ na0_2 : Int32, ((0 : Int) ≤ na0_1.toInt ∧ na0_1.toInt ≤ 8) ∧ (Ff_X5_startTurn a1.toInt = (na0_1.toInt, na0_2.toInt)) ∧ ax_B dC dI A [(a0, .inr (5, [a0g_0, .int na0_1, .int na0_2, a0g_3, a0g_4, a0g_5, a0g_6]))] [] t) A) := by
  refine zh (cc := cX5_startTurn) (maxL := 2) (ret := none) zn_RX5 rfl (Nat.le_of_ble_eq_true rfl) (fun p e s m below meth c A ls hx hb hml hr hts (hown : s.vm.findClass RX5 = some m.cls) hlocks hA hS hP hK hD hE (hl : lv_has ls 2 [(0, .ref a0), (1, .int a1)]) => ?_)
  generalize hFX : Ff_X5_startTurn a1.toInt = FX at ⊢
  have hF0 := hFX.symm.trans (Ff_X5_startTurn.eq_1 a1.toInt)
  refine lv_aload_n hx hb dX5_startTurn_0 rfl (lv_at hl 0 rfl) ?_
  refine lv_iload_n hx hb dX5_startTurn_1 rfl (lv_at hl 1 rfl) ?_
  refine va_put (D := (dC, dI)) (ci := 5) (v := .int a1) (ty := .int) (C := RX5) (T := TX5) (N := 7) hx hb hts zi_X5_startTurn_5 tyX5 tyX5_ok nmX5 hown hK hP hD hS 0 rfl rfl 1 (by decide) (hts (.fieldLink RX5 32 "WaxTurns$Scene" "turn" "I") (List.mem_cons_of_mem _ (List.mem_append_left _ (List.mem_of_getElem? (i := 0) rfl)))) (fun _ h9 => h9) rfl (tyX5_ok 1 (by decide)) rfl rfl (Nat.le_of_ble_eq_true rfl) dX5_startTurn_2 (fun H locs hP hD hS => ?_)
  refine zs_0 (y := (a0, .inr (5, [a0g_0, .int a1, .int a0_2, a0g_3, a0g_4, a0g_5, a0g_6]))) hP hD rfl (fun hP hD => ?_)
  refine lv_aload_n hx hb dX5_startTurn_5 rfl (lv_at hl 0 rfl) ?_
  refine lv_iconst (v := 0) hx hb dX5_startTurn_6 zk_iconst_0 ?_
  refine va_put (D := (dC, dI)) (ci := 5) (v := .int 0) (ty := .int) (C := RX5) (T := TX5) (N := 7) hx hb hts zi_X5_startTurn_5 tyX5 tyX5_ok nmX5 hown hK hP hD hS 0 rfl rfl 2 (by decide) (hts (.fieldLink RX5 35 "WaxTurns$Scene" "spent" "I") (List.mem_cons_of_mem _ (List.mem_append_left _ (List.mem_of_getElem? (i := 1) rfl)))) (fun _ h9 => h9) rfl (tyX5_ok 2 (by decide)) rfl rfl (Nat.le_of_ble_eq_true rfl) dX5_startTurn_7 (fun H locs hP hD hS => ?_)
  refine zs_0 (y := (a0, .inr (5, [a0g_0, .int a1, .int 0, a0g_3, a0g_4, a0g_5, a0g_6]))) hP hD rfl (fun hP hD => ?_)
  have hFe : FX = (a1.toInt, 0) := hF0
  exact W.vret hx hb hr (fun t ht hW => ⟨⟨(), rfl, trivial, a1, 0, ⟨ba1_l, ba1_u⟩, hFe, by rw [ht]; exact hP, va_K.moved hW.alike hK, hD⟩, hS.F ht⟩) hS.2.2 dX5_startTurn_10

set_option maxHeartbeats 4000000 in
set_option maxRecDepth 100000 in
theorem f_X5_begin (l : Launch) (dC : Nat → ClassId) (dI : Nat → Nat → Nat) (sz : Nat) (a0 : Nat) (a1 : Int32) (a0_0 : Int32) (a0_1 : Int32) (a0_2 : Int32) (a0_3 : Int32) (a0_4 : Int32) (a0_5 : Nat) (a0_6 : Nat) (ka0_5 : ClassId) (fa0_5 : Nat → Int32) (ka0_6 : ClassId) (fa0_6 : Nat → Int32) (ba1_l : (0 : Int) ≤ a1.toInt) (ba1_u : a1.toInt ≤ (8 : Int)) (ba0_1_l : (0 : Int) ≤ a0_1.toInt) (ba0_1_u : a0_1.toInt ≤ (8 : Int)) : zm l yX5_begin wsX5_begin ({ frames := 1, cells := 0, slots := 0, locals := 21 }) [.ref a0, .int a1] dC dI sz [(a0, .inr (5, [.int a0_0, .int a0_1, .int a0_2, .int a0_3, .int a0_4, .ref a0_5, .ref a0_6])), (a0_5, .inl (ka0_5, 9, .inl (fa0_5))), (a0_6, .inl (ka0_6, 9, .inl (fa0_6)))] [(ka0_5, .int), (ka0_6, .int)] (fun A _ => True) (fun A => va_Qv (fun (_ : Unit) => True) (fun (_ : Unit) (t : State) => ∃ na0_0 : Int32, ∃ na0_1 : Int32, ∃ na0_2 : Int32, ∃ na0_3 : Int32, ∃ na0_4 : Int32, ∃ nfa0_5 : Nat → Int32, ∃ nfa0_6 : Nat → Int32, ((0 : Int) ≤ na0_1.toInt ∧ na0_1.toInt ≤ 8) ∧ (Ff_X5_begin a1.toInt (fl_A fa0_5) (fl_A fa0_6) = (na0_0.toInt, na0_1.toInt, na0_2.toInt, na0_3.toInt, na0_4.toInt, (fl_A nfa0_5), (fl_A nfa0_6))) ∧ ax_B dC dI A [(a0, .inr (5, [.int na0_0, .int na0_1, .int na0_2, .int na0_3, .int na0_4, .ref a0_5, .ref a0_6])), (a0_5, .inl (ka0_5, 9, .inl (nfa0_5))), (a0_6, .inl (ka0_6, 9, .inl (nfa0_6)))] [(ka0_5, .int), (ka0_6, .int)] t) A) := by
  refine zh (cc := cX5_begin) (maxL := 3) (ret := none) zn_RX5 rfl (Nat.le_of_ble_eq_true rfl) (fun p e s m below meth c A ls hx hb hml hr hts (hown : s.vm.findClass RX5 = some m.cls) hlocks hA hS hP hK hD hE (hl : lv_has ls 3 [(0, .ref a0), (1, .int a1)]) => ?_)
  generalize hFX : Ff_X5_begin a1.toInt (fl_A fa0_5) (fl_A fa0_6) = FX at ⊢
  have hF0 := hFX.symm.trans (Ff_X5_begin.eq_1 a1.toInt (fl_A fa0_5) (fl_A fa0_6))
  refine ai_open (fun K hK0 => ?_)
  refine (hK0 _ _ _).mpr ?_
  refine lv_aload_n hx hb dX5_begin_0 rfl (lv_at hl 0 rfl) ?_
  refine lv_iconst (v := 0) hx hb dX5_begin_1 zk_iconst_0 ?_
  refine va_put (D := (dC, dI)) (ci := 5) (v := .int 0) (ty := .int) (C := RX5) (T := TX5) (N := 7) hx hb hts zi_X5_begin_5 tyX5 tyX5_ok nmX5 hown hK hP hD hS 0 rfl rfl 0 (by decide) (hts (.fieldLink RX5 18 "WaxTurns$Scene" "minute" "I") (List.mem_cons_of_mem _ (List.mem_append_left _ (List.mem_of_getElem? (i := 0) rfl)))) (fun _ h9 => h9) rfl (tyX5_ok 0 (by decide)) rfl rfl (Nat.le_of_ble_eq_true rfl) dX5_begin_2 (fun H locs hP hD hS => ?_)
  refine zs_0 (y := (a0, .inr (5, [.int 0, .int a0_1, .int a0_2, .int a0_3, .int a0_4, .ref a0_5, .ref a0_6]))) hP hD rfl (fun hP hD => ?_)
  refine lv_aload_n hx hb dX5_begin_5 rfl (lv_at hl 0 rfl) ?_
  refine lv_iconst (v := 0) hx hb dX5_begin_6 zk_iconst_0 ?_
  refine va_put (D := (dC, dI)) (ci := 5) (v := .int 0) (ty := .int) (C := RX5) (T := TX5) (N := 7) hx hb hts zi_X5_begin_5 tyX5 tyX5_ok nmX5 hown hK hP hD hS 0 rfl rfl 3 (by decide) (hts (.fieldLink RX5 22 "WaxTurns$Scene" "goneBits" "I") (List.mem_cons_of_mem _ (List.mem_append_left _ (List.mem_of_getElem? (i := 1) rfl)))) (fun _ h9 => h9) rfl (tyX5_ok 3 (by decide)) rfl rfl (Nat.le_of_ble_eq_true rfl) dX5_begin_7 (fun H locs hP hD hS => ?_)
  refine zs_0 (y := (a0, .inr (5, [.int 0, .int a0_1, .int a0_2, .int 0, .int a0_4, .ref a0_5, .ref a0_6]))) hP hD rfl (fun hP hD => ?_)
  refine lv_aload_n hx hb dX5_begin_10 rfl (lv_at hl 0 rfl) ?_
  refine lv_iconst (v := 0) hx hb dX5_begin_11 zk_iconst_0 ?_
  refine va_put (D := (dC, dI)) (ci := 5) (v := .int 0) (ty := .int) (C := RX5) (T := TX5) (N := 7) hx hb hts zi_X5_begin_5 tyX5 tyX5_ok nmX5 hown hK hP hD hS 0 rfl rfl 4 (by decide) (hts (.fieldLink RX5 25 "WaxTurns$Scene" "catchCount" "I") (List.mem_cons_of_mem _ (List.mem_append_left _ (List.mem_of_getElem? (i := 2) rfl)))) (fun _ h9 => h9) rfl (tyX5_ok 4 (by decide)) rfl rfl (Nat.le_of_ble_eq_true rfl) dX5_begin_12 (fun H locs hP hD hS => ?_)
  refine zs_0 (y := (a0, .inr (5, [.int 0, .int a0_1, .int a0_2, .int 0, .int 0, .ref a0_5, .ref a0_6]))) hP hD rfl (fun hP hD => ?_)
  refine lv_iconst (v := 0) hx hb dX5_begin_15 zk_iconst_0 ?_
  refine lv_istore_n (lv' := [(2, .int 0), (0, .ref a0), (1, .int a1)]) hx hb dX5_begin_16 rfl hl (by decide) rfl (fun ls hl => ?_)
  have J17 : ∀ (n : Nat) (j17l2 : Int32) (j17a0_5_a : Nat → Int32) (j17a0_6_a : Nat → Int32) (H : Heap) (locs : List Loc) (ls : Array Slot), (10 : Int) - j17l2.toInt ≤ (n : Int) → (0 : Int) ≤ j17l2.toInt → j17l2.toInt ≤ (9 : Int) → (FX = fl_wh (fun t9 => Sf_X5_begin_17_1 a1.toInt t9.1 t9.2.1 t9.2.2) (0, 0, 0, 0, 0, (fun _ => 0), (fun _ => 0)) n (j17l2.toInt, (fl_A j17a0_5_a), (fl_A j17a0_6_a))) → va_P (dC, dI) vwCl [(a0, .inr (5, [.int 0, .int a0_1, .int a0_2, .int 0, .int 0, .ref a0_5, .ref a0_6])), (a0_5, .inl (ka0_5, 9, .inl (j17a0_5_a))), (a0_6, .inl (ka0_6, 9, .inl (j17a0_6_a)))] H → va_D A [(a0, .inr (5, [.int 0, .int a0_1, .int a0_2, .int 0, .int 0, .ref a0_5, .ref a0_6])), (a0_5, .inl (ka0_5, 9, .inl (j17a0_5_a))), (a0_6, .inl (ka0_6, 9, .inl (j17a0_6_a)))] → va_S A s.heap H locs → lv_has ls 3 [(0, .ref a0), (1, .int a1), (2, .int j17l2)] → K H locs (F0 m 17 ls []) := by
    intro n
    induction n with
    | zero =>
      intro j17l2 j17a0_5_a j17a0_6_a H locs ls hm bj17l2_l bj17l2_u hF0 hP hD hS hl
      first | exact zg_0 hm bj17l2_u (by decide) | (have h8 := ai_min j17l2; have h9 := ai_max j17l2; exact absurd hm (by omega))
    | succ n ih17 =>
      intro j17l2 j17a0_5_a j17a0_6_a H locs ls hm bj17l2_l bj17l2_u hF0 hP hD hS hl
      refine (hK0 _ _ _).mpr ?_
      have hm17 := hm
      obtain ⟨SX17, hSX17⟩ : ∃ q9, Sf_X5_begin_17_1 a1.toInt j17l2.toInt (fl_A j17a0_5_a) (fl_A j17a0_6_a) = q9 := ⟨_, rfl⟩
      have hF1 := hSX17.symm.trans (Sf_X5_begin_17_1.eq_1 a1.toInt j17l2.toInt (fl_A j17a0_5_a) (fl_A j17a0_6_a))
      refine lv_iload_n hx hb dX5_begin_17 rfl (lv_at hl 2 rfl) ?_
      refine lv_bipush (v := 9) hx hb dX5_begin_18 zk_bipush_9 ?_
      refine lv_icmp_ge (tgt := 43) hx hb dX5_begin_20 (by decide) (fun c20 => ?_) (fun c20 => ?_)
      · have gc20 := ai_le c20
        have l20t_j17l2 : (9 : Int) ≤ j17l2.toInt := Int.le_trans zq2 gc20
        have hF1 := hF1.trans (if_pos (show 9 ≤ j17l2.toInt from gc20))
        have hF0 := hF0.trans (fl_wh_r (hSX17.trans hF1))
        refine lv_aload_n hx hb dX5_begin_43 rfl (lv_at hl 0 rfl) ?_
        refine lv_iload_n hx hb dX5_begin_44 rfl (lv_at hl 1 rfl) ?_
        refine va_callv (va_runV (As := [.int a1]) (rest := []) ⟨hx, hb, hml, hown, hts⟩ (f_X5_startTurn l dC dI H.size a0 a1 (.int 0) (.int 0) (.int 0) (.ref a0_5) (.ref a0_6) a0_1 a0_2 ba1_l ba1_u ba0_1_l ba0_1_u) (cwV 1 hts gX5_begin_X5_startTurn rfl rfl rfl zd_X5_startTurn ⟨Nat.le_of_ble_eq_true rfl, Nat.le_of_ble_eq_true rfl⟩) ⟨ax_blind (fun _ _ _ _ _ => trivial), zr_5 (zp_K hK) (zp_P1 hP) (q0 := 0) rfl, ax_pre (zp_P1 hP) (zp_K hK) (zp_D1 hD) (fun _ _ => trivial)⟩ rfl rfl hl.1 rfl (lv_room (Nat.le_of_ble_eq_true rfl)) dX5_begin_45 ⟨Nat.le_of_ble_eq_true rfl, Nat.le_of_ble_eq_true rfl⟩) hS (fun q _ h => zp_F1 hD hS hA q h) (zp_F1 hD hS hA) (fun u t H locs ht hvm hw => zx_2 (fun v45na0_1 v45na0_2 => zy_2 (fun bv45na0_1 hraw45_0 hB hz1 hk1 hS1 => zo1 hB ht hP hD hk1 (zp_F1 hD hS hA) hS1 (fun hP hK1 hD hS => ?_))))
        have hc45 : Ff_X5_startTurn a1.toInt = (v45na0_1.toInt, v45na0_2.toInt) := hraw45_0
        have hF0 := hF0.trans (fl_c2_eq hc45)
        have hFe : FX = (0, v45na0_1.toInt, v45na0_2.toInt, 0, 0, (fl_A j17a0_5_a), (fl_A j17a0_6_a)) := hF0
        exact W.vret hx hb hr (fun t ht hW => ⟨⟨(), rfl, trivial, 0, v45na0_1, v45na0_2, 0, 0, j17a0_5_a, j17a0_6_a, ⟨bv45na0_1.1, bv45na0_1.2⟩, hFe, by rw [ht]; exact hP, va_K.moved hW.alike hK, hD⟩, hS.F ht⟩) hS.2.2 dX5_begin_48
      · have gc20 := ai_nle c20
        have u20f_j17l2 : j17l2.toInt ≤ (8 : Int) := ai_lthi gc20 zq3
        have hF1 := hF1.trans (if_neg (show ¬ (9 ≤ j17l2.toInt) from Int.not_le.mpr gc20))
        refine lv_aload_n hx hb dX5_begin_23 rfl (lv_at hl 0 rfl) ?_
        refine va_get (D := (dC, dI)) (ci := 5) (v := .ref a0_5) (C := RX5) (T := TX5) (N := 7) hx hb hts zi_X5_begin_5 hown hK hP 0 rfl rfl 5 (by decide) (hts (.fieldLink RX5 9 "WaxTurns$Scene" "places" "[I") (List.mem_cons_of_mem _ (List.mem_append_left _ (List.mem_of_getElem? (i := 3) rfl)))) (fun _ h9 => h9) rfl dX5_begin_24 ?_
        refine lv_iload_n hx hb dX5_begin_27 rfl (lv_at hl 2 rfl) ?_
        refine lv_iload_n hx hb dX5_begin_28 rfl (lv_at hl 2 rfl) ?_
        refine va_iast hx hb hK hP hD hS 1 0 rfl rfl (ai_in bj17l2_l u20f_j17l2 (by decide) (by decide)) dX5_begin_29 (fun H locs hP hD hS => ?_)
        obtain ⟨f29, ef29⟩ : ∃ g9 : Nat → Int32, g9 = upd j17a0_5_a (j17l2 : Int32).toNatClampNeg j17l2 := ⟨_, rfl⟩
        refine zs_1 (y := (a0_5, .inl (ka0_5, 9, .inl (f29)))) hP hD (by rw [ef29]) (fun hP hD => ?_)
        have fqf29 := fl_up_eq ef29
        have hF1 := hF1.trans (fl_lt_eq (show (fl_A f29) = fl_up (fl_A j17a0_5_a) (j17l2.toInt.toNat) j17l2.toInt from fqf29))
        refine lv_aload_n hx hb dX5_begin_30 rfl (lv_at hl 0 rfl) ?_
        refine va_get (D := (dC, dI)) (ci := 5) (v := .ref a0_6) (C := RX5) (T := TX5) (N := 7) hx hb hts zi_X5_begin_5 hown hK hP 0 rfl rfl 6 (by decide) (hts (.fieldLink RX5 15 "WaxTurns$Scene" "heardBits" "[I") (List.mem_cons_of_mem _ (List.mem_append_left _ (List.mem_of_getElem? (i := 4) rfl)))) (fun _ h9 => h9) rfl dX5_begin_31 ?_
        refine lv_iload_n hx hb dX5_begin_34 rfl (lv_at hl 2 rfl) ?_
        refine lv_iconst (v := 0) hx hb dX5_begin_35 zk_iconst_0 ?_
        refine va_iast hx hb hK hP hD hS 2 1 rfl rfl (ai_in bj17l2_l u20f_j17l2 (by decide) (by decide)) dX5_begin_36 (fun H locs hP hD hS => ?_)
        obtain ⟨f36, ef36⟩ : ∃ g9 : Nat → Int32, g9 = upd j17a0_6_a (j17l2 : Int32).toNatClampNeg (0 : Int32) := ⟨_, rfl⟩
        refine zs_2 (y := (a0_6, .inl (ka0_6, 9, .inl (f36)))) hP hD (by rw [ef36]) (fun hP hD => ?_)
        have fqf36 := fl_up_eq ef36
        have hF1 := hF1.trans (fl_lt_eq (show (fl_A f36) = fl_up (fl_A j17a0_6_a) (j17l2.toInt.toNat) 0 from fqf36))
        obtain ⟨x37, ex37⟩ : ∃ y : Int32, y = j17l2 + Int32.ofInt 1 := ⟨_, rfl⟩
        have qx37 : x37.toInt = j17l2.toInt + 1 := ai_inc ex37 (by decide) (by decide) u20f_j17l2 (by decide)
        have bx37 : (1 : Int) ≤ x37.toInt ∧ x37.toInt ≤ 9 := ⟨by rw [qx37]; exact Int.add_le_add bj17l2_l (Int.le_refl _), by rw [qx37]; exact Int.add_le_add u20f_j17l2 (Int.le_refl _)⟩
        refine lv_iinc (v := x37) (lv' := [(2, .int x37), (0, .ref a0), (1, .int a1)]) hx hb dX5_begin_37 hl (k := 2) rfl ex37.symm (by decide) rfl (fun ls hl => ?_)
        have hF1 := hF1.trans (fl_lt_eq (show x37.toInt = j17l2.toInt + 1 from qx37))
        refine lv_goto (tgt := 17) hx hb dX5_begin_40 (by decide) ?_
        exact (hK0 _ _ _).mp (ih17 x37 f29 f36 _ _ _ (by first | exact zg_s hm17 qx37 | (have h0 := qx37; omega)) (Int.le_trans zq4 bx37.1) bx37.2 (hF0.trans (fl_wh_l (hSX17.trans hF1))) hP hD hS (lv_sub hl [1, 2, 0] rfl))
  exact (hK0 _ _ _).mp (J17 10 0 fa0_5 fa0_6 _ _ _ (by first | decide +kernel | (have h1 : (0 : Int) ≤ (0 : Int32).toInt := zq5; have h2 : (0 : Int32).toInt ≤ (0 : Int) := zq6; omega)) zq5 (Int.le_trans zq6 zq7) (by rw [show (0 : Int32).toInt = 0 from by decide]; exact hF0) hP hD hS (lv_sub hl [1, 2, 0] rfl))

set_option maxHeartbeats 4000000 in
set_option maxRecDepth 100000 in
theorem f_X1_clear (l : Launch) (dC : Nat → ClassId) (dI : Nat → Nat → Nat) (sz : Nat) (a0 : Nat) (a0_0 : Int32) (a0_1 : Int32) (a0g_2 a0g_3 a0g_4 : Value) (ba0_0_l : (0 : Int) ≤ a0_0.toInt) (ba0_0_u : a0_0.toInt ≤ (16 : Int)) (ba0_1_l : (0 : Int) ≤ a0_1.toInt) (ba0_1_u : a0_1.toInt ≤ (3 : Int)) : zm l yX1_clear wsX1_clear ({ frames := 0, cells := 0, slots := 0, locals := 0 }) [.ref a0] dC dI sz [(a0, .inr (1, [.int a0_0, .int a0_1, a0g_2, a0g_3, a0g_4]))] [] (fun A _ => True) (fun A => va_Qv (fun (_ : Unit) => True) (fun (_ : Unit) (t : State) => ∃ na0_0 : Int32, ∃ na0_1 : Int32, ((0 : Int) ≤ na0_0.toInt ∧ na0_0.toInt ≤ 16) ∧ ((0 : Int) ≤ na0_1.toInt ∧ na0_1.toInt ≤ 3) ∧ (Ff_X1_clear = (na0_0.toInt, na0_1.toInt)) ∧ ax_B dC dI A [(a0, .inr (1, [.int na0_0, .int na0_1, a0g_2, a0g_3, a0g_4]))] [] t) A) := by
  refine zh (cc := cX1_clear) (maxL := 1) (ret := none) zn_RX1 rfl (Nat.le_of_ble_eq_true rfl) (fun p e s m below meth c A ls hx hb hml hr hts (hown : s.vm.findClass RX1 = some m.cls) hlocks hA hS hP hK hD hE (hl : lv_has ls 1 [(0, .ref a0)]) => ?_)
  generalize hFX : Ff_X1_clear = FX at ⊢
  have hF0 := hFX.symm.trans (Ff_X1_clear.eq_1)
  refine lv_aload_n hx hb dX1_clear_0 rfl (lv_at hl 0 rfl) ?_
  refine lv_iconst (v := 0) hx hb dX1_clear_1 zk_iconst_0 ?_
  refine va_put (D := (dC, dI)) (ci := 1) (v := .int 0) (ty := .int) (C := RX1) (T := TX1) (N := 5) hx hb hts zi_X1_clear_1 tyX1 tyX1_ok nmX1 hown hK hP hD hS 0 rfl rfl 0 (by decide) (hts (.fieldLink RX1 21 "WaxTurns$History" "keptCount" "I") (List.mem_cons_of_mem _ (List.mem_append_left _ (List.mem_of_getElem? (i := 0) rfl)))) (fun _ h9 => h9) rfl (tyX1_ok 0 (by decide)) rfl rfl (Nat.le_of_ble_eq_true rfl) dX1_clear_2 (fun H locs hP hD hS => ?_)
  refine zs_0 (y := (a0, .inr (1, [.int 0, .int a0_1, a0g_2, a0g_3, a0g_4]))) hP hD rfl (fun hP hD => ?_)
  refine lv_aload_n hx hb dX1_clear_5 rfl (lv_at hl 0 rfl) ?_
  refine lv_iconst (v := 0) hx hb dX1_clear_6 zk_iconst_0 ?_
  refine va_put (D := (dC, dI)) (ci := 1) (v := .int 0) (ty := .int) (C := RX1) (T := TX1) (N := 5) hx hb hts zi_X1_clear_1 tyX1 tyX1_ok nmX1 hown hK hP hD hS 0 rfl rfl 1 (by decide) (hts (.fieldLink RX1 25 "WaxTurns$History" "imageCount" "I") (List.mem_cons_of_mem _ (List.mem_append_left _ (List.mem_of_getElem? (i := 1) rfl)))) (fun _ h9 => h9) rfl (tyX1_ok 1 (by decide)) rfl rfl (Nat.le_of_ble_eq_true rfl) dX1_clear_7 (fun H locs hP hD hS => ?_)
  refine zs_0 (y := (a0, .inr (1, [.int 0, .int 0, a0g_2, a0g_3, a0g_4]))) hP hD rfl (fun hP hD => ?_)
  have hFe : FX = (0, 0) := hF0
  exact W.vret hx hb hr (fun t ht hW => ⟨⟨(), rfl, trivial, 0, 0, ⟨zq5, Int.le_trans zq6 (by decide)⟩, ⟨zq5, Int.le_trans zq6 (by decide)⟩, hFe, by rw [ht]; exact hP, va_K.moved hW.alike hK, hD⟩, hS.F ht⟩) hS.2.2 dX1_clear_10

set_option maxHeartbeats 4000000 in
set_option maxRecDepth 100000 in
theorem f_X2_forget (l : Launch) (dC : Nat → ClassId) (dI : Nat → Nat → Nat) (sz : Nat) (a0 : Nat) (a0g_0 a0g_1 a0g_2 a0g_3 a0g_4 : Value) (a0_5 : Int32) (a0_6 : Int32) (ba0_5_l : (0 : Int) ≤ a0_5.toInt) (ba0_5_u : a0_5.toInt ≤ (1 : Int)) (ba0_6_l : (0 : Int) ≤ a0_6.toInt) (ba0_6_u : a0_6.toInt ≤ (1 : Int)) : zm l yX2_forget wsX2_forget ({ frames := 0, cells := 0, slots := 0, locals := 0 }) [.ref a0] dC dI sz [(a0, .inr (2, [a0g_0, a0g_1, a0g_2, a0g_3, a0g_4, .int a0_5, .int a0_6]))] [] (fun A _ => True) (fun A => va_Qv (fun (_ : Unit) => True) (fun (_ : Unit) (t : State) => ∃ na0_5 : Int32, ∃ na0_6 : Int32, ((0 : Int) ≤ na0_5.toInt ∧ na0_5.toInt ≤ 1) ∧ ((0 : Int) ≤ na0_6.toInt ∧ na0_6.toInt ≤ 1) ∧ (Ff_X2_forget = (na0_5.toInt, na0_6.toInt)) ∧ ax_B dC dI A [(a0, .inr (2, [a0g_0, a0g_1, a0g_2, a0g_3, a0g_4, .int na0_5, .int na0_6]))] [] t) A) := by
  refine zh (cc := cX2_forget) (maxL := 1) (ret := none) zn_RX2 rfl (Nat.le_of_ble_eq_true rfl) (fun p e s m below meth c A ls hx hb hml hr hts (hown : s.vm.findClass RX2 = some m.cls) hlocks hA hS hP hK hD hE (hl : lv_has ls 1 [(0, .ref a0)]) => ?_)
  generalize hFX : Ff_X2_forget = FX at ⊢
  have hF0 := hFX.symm.trans (Ff_X2_forget.eq_1)
  refine lv_aload_n hx hb dX2_forget_0 rfl (lv_at hl 0 rfl) ?_
  refine lv_iconst (v := 0) hx hb dX2_forget_1 zk_iconst_0 ?_
  refine va_put (D := (dC, dI)) (ci := 2) (v := .int 0) (ty := .boolean) (C := RX2) (T := TX2) (N := 7) hx hb hts zi_X2_forget_2 tyX2 tyX2_ok nmX2 hown hK hP hD hS 0 rfl rfl 5 (by decide) (hts (.fieldLink RX2 18 "WaxTurns$Laws" "listed" "Z") (List.mem_cons_of_mem _ (List.mem_append_left _ (List.mem_of_getElem? (i := 0) rfl)))) (fun _ h9 => h9) rfl (tyX2_ok 5 (by decide)) rfl rfl (Nat.le_of_ble_eq_true rfl) dX2_forget_2 (fun H locs hP hD hS => ?_)
  refine zs_0 (y := (a0, .inr (2, [a0g_0, a0g_1, a0g_2, a0g_3, a0g_4, .int 0, .int a0_6]))) hP hD rfl (fun hP hD => ?_)
  refine lv_aload_n hx hb dX2_forget_5 rfl (lv_at hl 0 rfl) ?_
  refine lv_iconst (v := 0) hx hb dX2_forget_6 zk_iconst_0 ?_
  refine va_put (D := (dC, dI)) (ci := 2) (v := .int 0) (ty := .boolean) (C := RX2) (T := TX2) (N := 7) hx hb hts zi_X2_forget_2 tyX2 tyX2_ok nmX2 hown hK hP hD hS 0 rfl rfl 6 (by decide) (hts (.fieldLink RX2 22 "WaxTurns$Laws" "looked" "Z") (List.mem_cons_of_mem _ (List.mem_append_left _ (List.mem_of_getElem? (i := 1) rfl)))) (fun _ h9 => h9) rfl (tyX2_ok 6 (by decide)) rfl rfl (Nat.le_of_ble_eq_true rfl) dX2_forget_7 (fun H locs hP hD hS => ?_)
  refine zs_0 (y := (a0, .inr (2, [a0g_0, a0g_1, a0g_2, a0g_3, a0g_4, .int 0, .int 0]))) hP hD rfl (fun hP hD => ?_)
  have hFe : FX = (0, 0) := hF0
  exact W.vret hx hb hr (fun t ht hW => ⟨⟨(), rfl, trivial, 0, 0, ⟨zq5, Int.le_trans zq6 (by decide)⟩, ⟨zq5, Int.le_trans zq6 (by decide)⟩, hFe, by rw [ht]; exact hP, va_K.moved hW.alike hK, hD⟩, hS.F ht⟩) hS.2.2 dX2_forget_10

set_option maxHeartbeats 4000000 in
set_option maxRecDepth 100000 in
theorem f_X3_exchange (l : Launch) (dC : Nat → ClassId) (dI : Nat → Nat → Nat) (sz : Nat) (a0 : Nat) (a1 : Nat) (a0g_0 a0g_1 a0g_2 a0g_3 a0g_4 a0g_6 a0g_7 a0g_8 a0g_9 a0g_10 a0g_11 a0g_12 a0g_13 : Value) (a0_5 : Nat)  : zm l yX3_exchange wsX3_exchange ({ frames := 0, cells := 0, slots := 0, locals := 0 }) [.ref a0, .ref a1] dC dI sz [(a0, .inr (3, [a0g_0, a0g_1, a0g_2, a0g_3, a0g_4, .ref a0_5, a0g_6, a0g_7, a0g_8, a0g_9, a0g_10, a0g_11, a0g_12, a0g_13]))] [] (fun A _ => True) (fun A => va_Qr (fun (_ : Unit) => True) (fun (_ : Unit) (r : Nat) (t : State) => r = a0_5 ∧ ax_B dC dI A [(a0, .inr (3, [a0g_0, a0g_1, a0g_2, a0g_3, a0g_4, .ref a1, a0g_6, a0g_7, a0g_8, a0g_9, a0g_10, a0g_11, a0g_12, a0g_13]))] [] t) A) := by
  refine zh (cc := cX3_exchange) (maxL := 3) (ret := (some (.object "WaxTurns$Hall"))) zn_RX3 rfl (Nat.le_of_ble_eq_true rfl) (fun p e s m below meth c A ls hx hb hml hr hts (hown : s.vm.findClass RX3 = some m.cls) hlocks hA hS hP hK hD hE (hl : lv_has ls 3 [(0, .ref a0), (1, .ref a1)]) => ?_)
  refine lv_aload_n hx hb dX3_exchange_0 rfl (lv_at hl 0 rfl) ?_
  refine va_get (D := (dC, dI)) (ci := 3) (v := .ref a0_5) (C := RX3) (T := TX3) (N := 14) hx hb hts zi_X3_exchange_3 hown hK hP 0 rfl rfl 5 (by decide) (hts (.fieldLink RX3 22 "WaxTurns$Reade\x72" "draft" "LWaxTurns$Hall;") (List.mem_cons_of_mem _ (List.mem_append_left _ (List.mem_of_getElem? (i := 0) rfl)))) (fun _ h9 => h9) rfl dX3_exchange_1 ?_
  refine lv_astore_n (lv' := [(2, .ref a0_5), (0, .ref a0), (1, .ref a1)]) hx hb dX3_exchange_4 rfl hl (by decide) rfl (fun ls hl => ?_)
  refine lv_aload_n hx hb dX3_exchange_5 rfl (lv_at hl 1 rfl) ?_
  refine lv_aload_n hx hb dX3_exchange_6 rfl (lv_at hl 2 rfl) ?_
  refine va_put (D := (dC, dI)) (ci := 3) (v := .ref a1) (ty := (.object "WaxTurns$Hall")) (C := RX3) (T := TX3) (N := 14) hx hb hts zi_X3_exchange_3 tyX3 tyX3_ok nmX3 hown hK hP hD hS 0 rfl rfl 5 (by decide) (hts (.fieldLink RX3 22 "WaxTurns$Reade\x72" "draft" "LWaxTurns$Hall;") (List.mem_cons_of_mem _ (List.mem_append_left _ (List.mem_of_getElem? (i := 0) rfl)))) (fun _ h9 => h9) rfl (tyX3_ok 5 (by decide)) rfl rfl (Nat.le_of_ble_eq_true rfl) dX3_exchange_7 (fun H locs hP hD hS => ?_)
  refine zs_0 (y := (a0, .inr (3, [a0g_0, a0g_1, a0g_2, a0g_3, a0g_4, .ref a1, a0g_6, a0g_7, a0g_8, a0g_9, a0g_10, a0g_11, a0g_12, a0g_13]))) hP hD rfl (fun hP hD => ?_)
  refine lv_aload_n hx hb dX3_exchange_10 rfl (lv_at hl 0 rfl) ?_
  exact W.aret (v := .ref a0_5) hx hb hr (Or.inl ⟨_, rfl⟩) (Or.inr ⟨_, rfl⟩) (fun t ht hW => ⟨⟨(), a0_5, rfl, trivial, rfl, by rw [ht]; exact hP, va_K.moved hW.alike hK, hD⟩, hS.F ht⟩) hS.2.2 dX3_exchange_11

set_option maxHeartbeats 4000000 in
set_option maxRecDepth 100000 in
theorem f_X7_gallery (l : Launch) (dC : Nat → ClassId) (dI : Nat → Nat → Nat) (sz : Nat) (a0 : Nat) (a1 : Int32) (a0_0 : Nat) (a0_1 : Nat) (a0g_2 a0g_3 a0g_6 : Value) (a0_4 : Nat) (a0_5 : Nat) (a0_7 : Nat) (a0_8 : Int32) (a0_9 : Int32) (a0_10 : Int32) (a0_0_0 : Int32) (a0_0_1 : Int32) (a0_0_2 : Int32) (a0_0_3 : Nat) (a0_0_4 : Nat) (a0_0_5 : Nat) (a0_0_6 : Int32) (a0_0_7 : Int32) (a0_0_8 : Int32) (a0_0_9 : Int32) (a0_0_10 : Int32) (a0_0_11 : Int64) (a0_0_12 : Int32) (a0_0_13 : Int32) (a0_0_5_0 : Int32) (a0_0_5_1 : Int32) (a0_0_5_2 : Int32) (a0_0_5_3 : Int32) (a0_0_5_4 : Int32) (a0_0_5_5 : Int32) (a0_0_5_6 : Int32) (a0_0_5_7 : Int32) (a0_0_5_8 : Int32) (a0_0_5_9 : Int32) (a0_0_5_10 : Nat) (a0_0_5_11 : Nat) (a0_0_5_12 : Nat) (a0_0_5_13 : Nat) (a0_0_5_14 : Nat) (a0_0_5_14_0 : Int32) (a0_0_5_14g_1 : Value) (a0_0_5_14_2 : Nat) (a0_0_5_14_3 : Nat) (ka0_0_5_10 : ClassId) (fa0_0_5_10 : Nat → Int32) (ka0_0_5_11 : ClassId) (fa0_0_5_11 : Nat → Int32) (ka0_0_3 : ClassId) (fa0_0_3 : Nat → Int32) (ka0_0_4 : ClassId) (fa0_0_4 : Nat → Int64) (ka0_0_5_14_2 : ClassId) (fa0_0_5_14_2 : Nat → Int32) (ka0_0_5_14_3 : ClassId) (fa0_0_5_14_3 : Nat → Int32) (ka0_0_5_13 : ClassId) (fa0_0_5_13 : Nat → Int32) (ka0_0_5_12 : ClassId) (fa0_0_5_12 : Nat → Int32) (a0_1_0 : Int32) (a0_1_1 : Int32) (a0_1_2 : Int32) (a0_1_3 : Int32) (a0_1_4 : Int32) (a0_1_5 : Nat) (a0_1_6 : Nat) (ka0_1_5 : ClassId) (fa0_1_5 : Nat → Int32) (ka0_1_6 : ClassId) (fa0_1_6 : Nat → Int32) (a0_4_0 : Int32) (a0_4_1 : Int32) (a0_4g_2 a0_4g_3 a0_4g_4 : Value) (a0_5g_0 a0_5g_1 a0_5g_2 a0_5g_3 a0_5g_4 : Value) (a0_5_5 : Int32) (a0_5_6 : Int32) (ad : Nat → Nat) (ba0_0_0_l : (0 : Int) ≤ a0_0_0.toInt) (ba0_0_0_u : a0_0_0.toInt ≤ (900 : Int)) (ba0_0_6_l : (0 : Int) ≤ a0_0_6.toInt) (ba0_0_6_u : a0_0_6.toInt ≤ (12 : Int)) (ba0_0_7_l : (0 : Int) ≤ a0_0_7.toInt) (ba0_0_7_u : a0_0_7.toInt ≤ (900 : Int)) (ba0_0_8_l : (0 : Int) ≤ a0_0_8.toInt) (ba0_0_8_u : a0_0_8.toInt ≤ (900 : Int)) (ba0_0_9_l : (0 : Int) ≤ a0_0_9.toInt) (ba0_0_9_u : a0_0_9.toInt ≤ (900 : Int)) (ba0_0_10_l : (0 : Int) ≤ a0_0_10.toInt) (ba0_0_10_u : a0_0_10.toInt ≤ (4 : Int)) (ba0_0_5_0_l : (0 : Int) ≤ a0_0_5_0.toInt) (ba0_0_5_0_u : a0_0_5_0.toInt ≤ (9 : Int)) (ba0_0_5_4_l : (0 : Int) ≤ a0_0_5_4.toInt) (ba0_0_5_4_u : a0_0_5_4.toInt ≤ (1 : Int)) (ba0_0_5_5_l : (0 : Int) ≤ a0_0_5_5.toInt) (ba0_0_5_5_u : a0_0_5_5.toInt ≤ (8 : Int)) (ba0_0_5_6_l : (0 : Int) ≤ a0_0_5_6.toInt) (ba0_0_5_6_u : a0_0_5_6.toInt ≤ (8 : Int)) (ba0_0_5_7_l : (0 : Int) ≤ a0_0_5_7.toInt) (ba0_0_5_7_u : a0_0_5_7.toInt ≤ (8 : Int)) (ba0_0_5_9_l : (0 : Int) ≤ a0_0_5_9.toInt) (ba0_0_5_9_u : a0_0_5_9.toInt ≤ (6 : Int)) (ba0_0_5_14_0_l : (0 : Int) ≤ a0_0_5_14_0.toInt) (ba0_0_5_14_0_u : a0_0_5_14_0.toInt ≤ (3 : Int)) (ba0_1_1_l : (0 : Int) ≤ a0_1_1.toInt) (ba0_1_1_u : a0_1_1.toInt ≤ (8 : Int)) (ba0_4_0_l : (0 : Int) ≤ a0_4_0.toInt) (ba0_4_0_u : a0_4_0.toInt ≤ (16 : Int)) (ba0_4_1_l : (0 : Int) ≤ a0_4_1.toInt) (ba0_4_1_u : a0_4_1.toInt ≤ (3 : Int)) (ba0_5_5_l : (0 : Int) ≤ a0_5_5.toInt) (ba0_5_5_u : a0_5_5.toInt ≤ (1 : Int)) (ba0_5_6_l : (0 : Int) ≤ a0_5_6.toInt) (ba0_5_6_u : a0_5_6.toInt ≤ (1 : Int)) (bfa0_0_5_14_2 : (∀ k, (0 : Int) ≤ (fa0_0_5_14_2 k).toInt ∧ (fa0_0_5_14_2 k).toInt ≤ 80)) (bfa0_0_5_14_3 : (∀ k, (0 : Int) ≤ (fa0_0_5_14_3 k).toInt ∧ (fa0_0_5_14_3 k).toInt ≤ 80)) (bfa0_0_5_13 : (∀ k, (0 : Int) ≤ (fa0_0_5_13 k).toInt ∧ (fa0_0_5_13 k).toInt ≤ 999)) : zm l yX7_gallery wsX7_gallery ({ frames := 9, cells := 0, slots := 0, locals := 197 }) [.ref a0, .int a1] dC dI sz [(a0, .inr (7, [.ref a0_0, .ref a0_1, a0g_2, a0g_3, .ref a0_4, .ref a0_5, a0g_6, .ref a0_7, .int a0_8, .int a0_9, .int a0_10])), (a0_0, .inr (3, [.int a0_0_0, .int a0_0_1, .int a0_0_2, .ref a0_0_3, .ref a0_0_4, .ref a0_0_5, .int a0_0_6, .int a0_0_7, .int a0_0_8, .int a0_0_9, .int a0_0_10, .long a0_0_11, .int a0_0_12, .int a0_0_13])), (a0_0_5, .inr (0, [.int a0_0_5_0, .int a0_0_5_1, .int a0_0_5_2, .int a0_0_5_3, .int a0_0_5_4, .int a0_0_5_5, .int a0_0_5_6, .int a0_0_5_7, .int a0_0_5_8, .int a0_0_5_9, .ref a0_0_5_10, .ref a0_0_5_11, .ref a0_0_5_12, .ref a0_0_5_13, .ref a0_0_5_14])), (a0_0_5_14, .inr (6, [.int a0_0_5_14_0, a0_0_5_14g_1, .ref a0_0_5_14_2, .ref a0_0_5_14_3])), (a0_0_5_10, .inl (ka0_0_5_10, 9, .inl (fa0_0_5_10))), (a0_0_5_11, .inl (ka0_0_5_11, 9, .inl (fa0_0_5_11))), (a0_0_3, .inl (ka0_0_3, 900, .inl (fa0_0_3))), (a0_0_4, .inl (ka0_0_4, 12, .inr (.inl (fa0_0_4)))), (a0_0_5_14_2, .inl (ka0_0_5_14_2, 3, .inl (fa0_0_5_14_2))), (a0_0_5_14_3, .inl (ka0_0_5_14_3, 3, .inl (fa0_0_5_14_3))), (a0_0_5_13, .inl (ka0_0_5_13, 6, .inl (fa0_0_5_13))), (a0_0_5_12, .inl (ka0_0_5_12, 6, .inl (fa0_0_5_12))), (a0_1, .inr (5, [.int a0_1_0, .int a0_1_1, .int a0_1_2, .int a0_1_3, .int a0_1_4, .ref a0_1_5, .ref a0_1_6])), (a0_1_5, .inl (ka0_1_5, 9, .inl (fa0_1_5))), (a0_1_6, .inl (ka0_1_6, 9, .inl (fa0_1_6))), (a0_4, .inr (1, [.int a0_4_0, .int a0_4_1, a0_4g_2, a0_4g_3, a0_4g_4])), (a0_5, .inr (2, [a0_5g_0, a0_5g_1, a0_5g_2, a0_5g_3, a0_5g_4, .int a0_5_5, .int a0_5_6]))] [(ka0_0_5_10, .int), (ka0_0_5_11, .int), (ka0_0_3, .byte), (ka0_0_4, .long), (ka0_0_5_14_2, .int), (ka0_0_5_14_3, .int), (ka0_0_5_13, .int), (ka0_0_5_12, .int), (ka0_1_5, .int), (ka0_1_6, .int)] (fun A U => sxc_T ad A U ∧ va_Nw (.methodLinkNest RX3 223 yX7_within RX7) U ∧ va_Nw (.methodLinkNest RX3 196 yX7_hasBit RX7) U) (fun A => va_Qi (fun (r : Int32) (_ : Unit) => ((-1 : Int) ≤ r.toInt ∧ r.toInt ≤ (9 : Int)) ∧ r.toInt = (Ff_X7_gallery a1.toInt a0_9.toInt a0_10.toInt a0_0_0.toInt a0_0_1.toInt a0_0_2.toInt a0_0_6.toInt a0_0_7.toInt a0_0_8.toInt a0_0_9.toInt a0_0_10.toInt a0_0_11.toInt a0_0_12.toInt a0_0_13.toInt a0_0_5_0.toInt a0_0_5_1.toInt a0_0_5_2.toInt a0_0_5_3.toInt a0_0_5_4.toInt a0_0_5_5.toInt a0_0_5_6.toInt a0_0_5_7.toInt a0_0_5_8.toInt a0_0_5_9.toInt a0_0_5_14_0.toInt (fl_A fa0_0_5_10) (fl_A fa0_0_5_11) (fl_A fa0_0_3) (fl_L fa0_0_4) (fl_A fa0_0_5_14_2) (fl_A fa0_0_5_14_3) (fl_A fa0_0_5_13) (fl_A fa0_0_5_12) a0_1_0.toInt a0_1_1.toInt a0_1_2.toInt a0_1_3.toInt a0_1_4.toInt (fl_A fa0_1_5) (fl_A fa0_1_6) a0_4_0.toInt a0_4_1.toInt a0_5_5.toInt a0_5_6.toInt).1) (fun (_ : Unit) (t : State) => ∃ na0_7 : Nat, ∃ na0_8 : Int32, ∃ na0_9 : Int32, ∃ na0_10 : Int32, ∃ na0_0_0 : Int32, ∃ na0_0_1 : Int32, ∃ na0_0_2 : Int32, ∃ na0_0_5 : Nat, ∃ na0_0_6 : Int32, ∃ na0_0_7 : Int32, ∃ na0_0_8 : Int32, ∃ na0_0_9 : Int32, ∃ na0_0_10 : Int32, ∃ na0_0_11 : Int64, ∃ na0_0_12 : Int32, ∃ na0_0_13 : Int32, ∃ na0_0_5_0 : Int32, ∃ na0_0_5_1 : Int32, ∃ na0_0_5_2 : Int32, ∃ na0_0_5_3 : Int32, ∃ na0_0_5_4 : Int32, ∃ na0_0_5_5 : Int32, ∃ na0_0_5_6 : Int32, ∃ na0_0_5_7 : Int32, ∃ na0_0_5_8 : Int32, ∃ na0_0_5_9 : Int32, ∃ na0_0_5_14_0 : Int32, ∃ nfa0_0_5_10 : Nat → Int32, ∃ nfa0_0_5_11 : Nat → Int32, ∃ nfa0_0_4 : Nat → Int64, ∃ nfa0_0_5_14_2 : Nat → Int32, ∃ nfa0_0_5_14_3 : Nat → Int32, ∃ nfa0_0_5_13 : Nat → Int32, ∃ nfa0_0_5_12 : Nat → Int32, ∃ na0_1_0 : Int32, ∃ na0_1_1 : Int32, ∃ na0_1_2 : Int32, ∃ na0_1_3 : Int32, ∃ na0_1_4 : Int32, ∃ nfa0_1_5 : Nat → Int32, ∃ nfa0_1_6 : Nat → Int32, ∃ na0_4_0 : Int32, ∃ na0_4_1 : Int32, ∃ na0_5_5 : Int32, ∃ na0_5_6 : Int32, ((0 : Int) ≤ na0_0_0.toInt ∧ na0_0_0.toInt ≤ 900) ∧ ((0 : Int) ≤ na0_0_6.toInt ∧ na0_0_6.toInt ≤ 12) ∧ ((0 : Int) ≤ na0_0_7.toInt ∧ na0_0_7.toInt ≤ 900) ∧ ((0 : Int) ≤ na0_0_8.toInt ∧ na0_0_8.toInt ≤ 900) ∧ ((0 : Int) ≤ na0_0_9.toInt ∧ na0_0_9.toInt ≤ 900) ∧ ((0 : Int) ≤ na0_0_10.toInt ∧ na0_0_10.toInt ≤ 4) ∧ ((0 : Int) ≤ na0_0_5_0.toInt ∧ na0_0_5_0.toInt ≤ 9) ∧ ((0 : Int) ≤ na0_0_5_4.toInt ∧ na0_0_5_4.toInt ≤ 1) ∧ ((0 : Int) ≤ na0_0_5_5.toInt ∧ na0_0_5_5.toInt ≤ 8) ∧ ((0 : Int) ≤ na0_0_5_6.toInt ∧ na0_0_5_6.toInt ≤ 8) ∧ ((0 : Int) ≤ na0_0_5_7.toInt ∧ na0_0_5_7.toInt ≤ 8) ∧ ((0 : Int) ≤ na0_0_5_9.toInt ∧ na0_0_5_9.toInt ≤ 6) ∧ ((0 : Int) ≤ na0_0_5_14_0.toInt ∧ na0_0_5_14_0.toInt ≤ 3) ∧ ((0 : Int) ≤ na0_1_1.toInt ∧ na0_1_1.toInt ≤ 8) ∧ ((0 : Int) ≤ na0_4_0.toInt ∧ na0_4_0.toInt ≤ 16) ∧ ((0 : Int) ≤ na0_4_1.toInt ∧ na0_4_1.toInt ≤ 3) ∧ ((0 : Int) ≤ na0_5_5.toInt ∧ na0_5_5.toInt ≤ 1) ∧ ((0 : Int) ≤ na0_5_6.toInt ∧ na0_5_6.toInt ≤ 1) ∧ (∀ k, (0 : Int) ≤ (nfa0_0_5_14_2 k).toInt ∧ (nfa0_0_5_14_2 k).toInt ≤ 80) ∧ (∀ k, (0 : Int) ≤ (nfa0_0_5_14_3 k).toInt ∧ (nfa0_0_5_14_3 k).toInt ≤ 80) ∧ (∀ k, (0 : Int) ≤ (nfa0_0_5_13 k).toInt ∧ (nfa0_0_5_13 k).toInt ≤ 999) ∧ (((0 : Int) ≤ a1.toInt ∧ a1.toInt ≤ a0_0_0.toInt → na0_0_0.toInt = 0) ∧ (a1.toInt < 0 ∨ a0_0_0.toInt < a1.toInt → na0_0_0.toInt = a0_0_0.toInt)) ∧ ((na0_7 = a0_0_5 ∧ na0_0_5 = a0_7) ∨ (na0_7 = a0_7 ∧ na0_0_5 = a0_0_5)) ∧ ((na0_7 = a0_0_5 ∧ na0_0_5 = a0_7 ∧ (Ff_X7_gallery a1.toInt a0_9.toInt a0_10.toInt a0_0_0.toInt a0_0_1.toInt a0_0_2.toInt a0_0_6.toInt a0_0_7.toInt a0_0_8.toInt a0_0_9.toInt a0_0_10.toInt a0_0_11.toInt a0_0_12.toInt a0_0_13.toInt a0_0_5_0.toInt a0_0_5_1.toInt a0_0_5_2.toInt a0_0_5_3.toInt a0_0_5_4.toInt a0_0_5_5.toInt a0_0_5_6.toInt a0_0_5_7.toInt a0_0_5_8.toInt a0_0_5_9.toInt a0_0_5_14_0.toInt (fl_A fa0_0_5_10) (fl_A fa0_0_5_11) (fl_A fa0_0_3) (fl_L fa0_0_4) (fl_A fa0_0_5_14_2) (fl_A fa0_0_5_14_3) (fl_A fa0_0_5_13) (fl_A fa0_0_5_12) a0_1_0.toInt a0_1_1.toInt a0_1_2.toInt a0_1_3.toInt a0_1_4.toInt (fl_A fa0_1_5) (fl_A fa0_1_6) a0_4_0.toInt a0_4_1.toInt a0_5_5.toInt a0_5_6.toInt).2 = (na0_8.toInt, na0_9.toInt, na0_10.toInt, na0_0_0.toInt, na0_0_1.toInt, na0_0_2.toInt, na0_0_6.toInt, na0_0_7.toInt, na0_0_8.toInt, na0_0_9.toInt, na0_0_10.toInt, na0_0_11.toInt, na0_0_12.toInt, na0_0_13.toInt, na0_0_5_0.toInt, na0_0_5_1.toInt, na0_0_5_2.toInt, na0_0_5_3.toInt, na0_0_5_4.toInt, na0_0_5_5.toInt, na0_0_5_6.toInt, na0_0_5_7.toInt, na0_0_5_8.toInt, na0_0_5_9.toInt, na0_0_5_14_0.toInt, (fl_A nfa0_0_5_10), (fl_A nfa0_0_5_11), (fl_L nfa0_0_4), (fl_A nfa0_0_5_14_2), (fl_A nfa0_0_5_14_3), (fl_A nfa0_0_5_13), (fl_A nfa0_0_5_12), na0_1_0.toInt, na0_1_1.toInt, na0_1_2.toInt, na0_1_3.toInt, na0_1_4.toInt, (fl_A nfa0_1_5), (fl_A nfa0_1_6), na0_4_0.toInt, na0_4_1.toInt, na0_5_5.toInt, na0_5_6.toInt, 0)) ∨ (na0_7 = a0_7 ∧ na0_0_5 = a0_0_5 ∧ (Ff_X7_gallery a1.toInt a0_9.toInt a0_10.toInt a0_0_0.toInt a0_0_1.toInt a0_0_2.toInt a0_0_6.toInt a0_0_7.toInt a0_0_8.toInt a0_0_9.toInt a0_0_10.toInt a0_0_11.toInt a0_0_12.toInt a0_0_13.toInt a0_0_5_0.toInt a0_0_5_1.toInt a0_0_5_2.toInt a0_0_5_3.toInt a0_0_5_4.toInt a0_0_5_5.toInt a0_0_5_6.toInt a0_0_5_7.toInt a0_0_5_8.toInt a0_0_5_9.toInt a0_0_5_14_0.toInt (fl_A fa0_0_5_10) (fl_A fa0_0_5_11) (fl_A fa0_0_3) (fl_L fa0_0_4) (fl_A fa0_0_5_14_2) (fl_A fa0_0_5_14_3) (fl_A fa0_0_5_13) (fl_A fa0_0_5_12) a0_1_0.toInt a0_1_1.toInt a0_1_2.toInt a0_1_3.toInt a0_1_4.toInt (fl_A fa0_1_5) (fl_A fa0_1_6) a0_4_0.toInt a0_4_1.toInt a0_5_5.toInt a0_5_6.toInt).2 = (na0_8.toInt, na0_9.toInt, na0_10.toInt, na0_0_0.toInt, na0_0_1.toInt, na0_0_2.toInt, na0_0_6.toInt, na0_0_7.toInt, na0_0_8.toInt, na0_0_9.toInt, na0_0_10.toInt, na0_0_11.toInt, na0_0_12.toInt, na0_0_13.toInt, na0_0_5_0.toInt, na0_0_5_1.toInt, na0_0_5_2.toInt, na0_0_5_3.toInt, na0_0_5_4.toInt, na0_0_5_5.toInt, na0_0_5_6.toInt, na0_0_5_7.toInt, na0_0_5_8.toInt, na0_0_5_9.toInt, na0_0_5_14_0.toInt, (fl_A nfa0_0_5_10), (fl_A nfa0_0_5_11), (fl_L nfa0_0_4), (fl_A nfa0_0_5_14_2), (fl_A nfa0_0_5_14_3), (fl_A nfa0_0_5_13), (fl_A nfa0_0_5_12), na0_1_0.toInt, na0_1_1.toInt, na0_1_2.toInt, na0_1_3.toInt, na0_1_4.toInt, (fl_A nfa0_1_5), (fl_A nfa0_1_6), na0_4_0.toInt, na0_4_1.toInt, na0_5_5.toInt, na0_5_6.toInt, 1))) ∧ ax_B dC dI A [(a0, .inr (7, [.ref a0_0, .ref a0_1, a0g_2, a0g_3, .ref a0_4, .ref a0_5, a0g_6, .ref na0_7, .int na0_8, .int na0_9, .int na0_10])), (a0_0, .inr (3, [.int na0_0_0, .int na0_0_1, .int na0_0_2, .ref a0_0_3, .ref a0_0_4, .ref na0_0_5, .int na0_0_6, .int na0_0_7, .int na0_0_8, .int na0_0_9, .int na0_0_10, .long na0_0_11, .int na0_0_12, .int na0_0_13])), (a0_0_5, .inr (0, [.int na0_0_5_0, .int na0_0_5_1, .int na0_0_5_2, .int na0_0_5_3, .int na0_0_5_4, .int na0_0_5_5, .int na0_0_5_6, .int na0_0_5_7, .int na0_0_5_8, .int na0_0_5_9, .ref a0_0_5_10, .ref a0_0_5_11, .ref a0_0_5_12, .ref a0_0_5_13, .ref a0_0_5_14])), (a0_0_5_14, .inr (6, [.int na0_0_5_14_0, a0_0_5_14g_1, .ref a0_0_5_14_2, .ref a0_0_5_14_3])), (a0_0_5_10, .inl (ka0_0_5_10, 9, .inl (nfa0_0_5_10))), (a0_0_5_11, .inl (ka0_0_5_11, 9, .inl (nfa0_0_5_11))), (a0_0_3, .inl (ka0_0_3, 900, .inl (fa0_0_3))), (a0_0_4, .inl (ka0_0_4, 12, .inr (.inl (nfa0_0_4)))), (a0_0_5_14_2, .inl (ka0_0_5_14_2, 3, .inl (nfa0_0_5_14_2))), (a0_0_5_14_3, .inl (ka0_0_5_14_3, 3, .inl (nfa0_0_5_14_3))), (a0_0_5_13, .inl (ka0_0_5_13, 6, .inl (nfa0_0_5_13))), (a0_0_5_12, .inl (ka0_0_5_12, 6, .inl (nfa0_0_5_12))), (a0_1, .inr (5, [.int na0_1_0, .int na0_1_1, .int na0_1_2, .int na0_1_3, .int na0_1_4, .ref a0_1_5, .ref a0_1_6])), (a0_1_5, .inl (ka0_1_5, 9, .inl (nfa0_1_5))), (a0_1_6, .inl (ka0_1_6, 9, .inl (nfa0_1_6))), (a0_4, .inr (1, [.int na0_4_0, .int na0_4_1, a0_4g_2, a0_4g_3, a0_4g_4])), (a0_5, .inr (2, [a0_5g_0, a0_5g_1, a0_5g_2, a0_5g_3, a0_5g_4, .int na0_5_5, .int na0_5_6]))] [(ka0_0_5_10, .int), (ka0_0_5_11, .int), (ka0_0_3, .byte), (ka0_0_4, .long), (ka0_0_5_14_2, .int), (ka0_0_5_14_3, .int), (ka0_0_5_13, .int), (ka0_0_5_12, .int), (ka0_1_5, .int), (ka0_1_6, .int)] t) A) := by
  refine zh (cc := cX7_gallery) (maxL := 3) (ret := (some .int)) zn_RX7 rfl (Nat.le_of_ble_eq_true rfl) (fun p e s m below meth c A ls hx hb hml hr hts (hown : s.vm.findClass RX7 = some m.cls) hlocks hA hS hP hK hD hE (hl : lv_has ls 3 [(0, .ref a0), (1, .int a1)]) => ?_)
  obtain ⟨hE0, hE1, hE2⟩ := hE
  generalize hFX : Ff_X7_gallery a1.toInt a0_9.toInt a0_10.toInt a0_0_0.toInt a0_0_1.toInt a0_0_2.toInt a0_0_6.toInt a0_0_7.toInt a0_0_8.toInt a0_0_9.toInt a0_0_10.toInt a0_0_11.toInt a0_0_12.toInt a0_0_13.toInt a0_0_5_0.toInt a0_0_5_1.toInt a0_0_5_2.toInt a0_0_5_3.toInt a0_0_5_4.toInt a0_0_5_5.toInt a0_0_5_6.toInt a0_0_5_7.toInt a0_0_5_8.toInt a0_0_5_9.toInt a0_0_5_14_0.toInt (fl_A fa0_0_5_10) (fl_A fa0_0_5_11) (fl_A fa0_0_3) (fl_L fa0_0_4) (fl_A fa0_0_5_14_2) (fl_A fa0_0_5_14_3) (fl_A fa0_0_5_13) (fl_A fa0_0_5_12) a0_1_0.toInt a0_1_1.toInt a0_1_2.toInt a0_1_3.toInt a0_1_4.toInt (fl_A fa0_1_5) (fl_A fa0_1_6) a0_4_0.toInt a0_4_1.toInt a0_5_5.toInt a0_5_6.toInt = FX at ⊢
  have hF0 := hFX.symm.trans (Ff_X7_gallery.eq_1 a1.toInt a0_9.toInt a0_10.toInt a0_0_0.toInt a0_0_1.toInt a0_0_2.toInt a0_0_6.toInt a0_0_7.toInt a0_0_8.toInt a0_0_9.toInt a0_0_10.toInt a0_0_11.toInt a0_0_12.toInt a0_0_13.toInt a0_0_5_0.toInt a0_0_5_1.toInt a0_0_5_2.toInt a0_0_5_3.toInt a0_0_5_4.toInt a0_0_5_5.toInt a0_0_5_6.toInt a0_0_5_7.toInt a0_0_5_8.toInt a0_0_5_9.toInt a0_0_5_14_0.toInt (fl_A fa0_0_5_10) (fl_A fa0_0_5_11) (fl_A fa0_0_3) (fl_L fa0_0_4) (fl_A fa0_0_5_14_2) (fl_A fa0_0_5_14_3) (fl_A fa0_0_5_13) (fl_A fa0_0_5_12) a0_1_0.toInt a0_1_1.toInt a0_1_2.toInt a0_1_3.toInt a0_1_4.toInt (fl_A fa0_1_5) (fl_A fa0_1_6) a0_4_0.toInt a0_4_1.toInt a0_5_5.toInt a0_5_6.toInt)
  refine lv_iload_n hx hb dX7_gallery_0 rfl (lv_at hl 1 rfl) ?_
  refine lv_iconst (v := 0) hx hb dX7_gallery_1 zk_iconst_0 ?_
  refine lv_aload_n hx hb dX7_gallery_2 rfl (lv_at hl 0 rfl) ?_
  refine va_get (D := (dC, dI)) (ci := 7) (v := .ref a0_0) (C := RX7) (T := TX7) (N := 11) hx hb hts zi_X7_gallery_7 hown hK hP 0 rfl rfl 0 (by decide) (hts (.fieldLink RX7 12 "WaxTurns" "reade\x72" "LWaxTurns$Reader;") (zm_X7_gallery_r1 (List.mem_of_getElem? (i := 0) rfl))) (fun _ h9 => h9) rfl dX7_gallery_3 ?_
  refine va_get (D := (dC, dI)) (ci := 3) (v := .int a0_0_0) (C := RX3) (T := TX3) (N := 14) hx hb hts zi_X7_gallery_3 hown hK hP 1 rfl rfl 0 (by decide) (hts (.fieldLink RX7 71 "WaxTurns$Reade\x72" "tapeSize" "I") (zm_X7_gallery_r1 (List.mem_of_getElem? (i := 1) rfl))) (fun _ h9 => h9) rfl dX7_gallery_6 ?_
  refine va_calli (va_runS (As := [.int a1, .int 0, .int a0_0_0]) (rest := []) ⟨hx, hb, hml, hown, hts⟩ (f_X7_within l dC dI s.heap.size a1 0 a0_0_0 ) (va_cwS 3 hts gX7_gallery_X7_within rfl rfl rfl zd_X7_within.2 ⟨Nat.le_of_ble_eq_true rfl, Nat.le_of_ble_eq_true rfl⟩) ⟨ax_blind (fun _ _ _ _ _ => trivial), ax_pre (zp_P0 hP) (zp_K hK) (zp_D0 hD) (fun _ _ => trivial)⟩ rfl rfl hl.1 rfl (lv_room (Nat.le_of_ble_eq_true rfl)) dX7_gallery_9 ⟨Nat.le_of_ble_eq_true rfl, Nat.le_of_ble_eq_true rfl⟩) hS (fun q _ h => zp_F0 hD hS hA q h) (zp_F0 hD hS hA) (fun r9 u t H locs ht hvm hw hB hz1 hk1 hS1 => zo0 hB ht hP hD hk1 (zp_F0 hD hS hA) hS1 (fun hP hK1 hD hS => ?_))
  obtain ⟨hw, hfr9⟩ := hw
  rw [show (0 : Int32).toInt = 0 from by decide] at hfr9
  have hc9 : Ff_X7_within a1.toInt 0 a0_0_0.toInt = r9.toInt := hfr9.symm
  have hF0 := hF0.trans (fl_lt_eq hc9.symm)
  rcases hw with hw | hw
  · obtain ⟨hw, h9⟩ := hw
    subst hw
    have l9k0_a1 : (0 : Int) ≤ a1.toInt := Int.le_trans zq5 h9.1
    have u9k0_a1 : a1.toInt ≤ (900 : Int) := Int.le_trans h9.2 ba0_0_0_u
    have l9k0_a0_0_0 : (0 : Int) ≤ a0_0_0.toInt := ba0_0_0_l
    have hF0 := hF0.trans (if_pos (by decide))
    refine lv_if_ne (tgt := 21) hx hb dX7_gallery_12 (by decide) (fun _ => ?_) (fun c12 => absurd c12 (by decide +kernel))
    refine lv_aload_n hx hb dX7_gallery_21 rfl (lv_at hl 0 rfl) ?_
    refine va_get (D := (dC, dI)) (ci := 7) (v := .ref a0_0) (C := RX7) (T := TX7) (N := 11) hx hb hts zi_X7_gallery_7 hown hK hP 0 rfl rfl 0 (by decide) (hts (.fieldLink RX7 12 "WaxTurns" "reade\x72" "LWaxTurns$Reader;") (zm_X7_gallery_r1 (List.mem_of_getElem? (i := 0) rfl))) (fun _ h9 => h9) rfl dX7_gallery_22 ?_
    refine lv_iload_n hx hb dX7_gallery_25 rfl (lv_at hl 1 rfl) ?_
    refine zc_cutc (wc := [(a0_0, .inr (3, [.int a0_0_0, .int a0_0_1, .int a0_0_2, .ref a0_0_3, .ref a0_0_4, .ref a0_0_5, .int a0_0_6, .int a0_0_7, .int a0_0_8, .int a0_0_9, .int a0_0_10, .long a0_0_11, .int a0_0_12, .int a0_0_13])), (a0_0_5, .inr (0, [.int a0_0_5_0, .int a0_0_5_1, .int a0_0_5_2, .int a0_0_5_3, .int a0_0_5_4, .int a0_0_5_5, .int a0_0_5_6, .int a0_0_5_7, .int a0_0_5_8, .int a0_0_5_9, .ref a0_0_5_10, .ref a0_0_5_11, .ref a0_0_5_12, .ref a0_0_5_13, .ref a0_0_5_14])), (a0_0_5_14, .inr (6, [.int a0_0_5_14_0, a0_0_5_14g_1, .ref a0_0_5_14_2, .ref a0_0_5_14_3])), (a0_0_5_10, .inl (ka0_0_5_10, 9, .inl (fa0_0_5_10))), (a0_0_5_11, .inl (ka0_0_5_11, 9, .inl (fa0_0_5_11))), (a0_0_3, .inl (ka0_0_3, 900, .inl (fa0_0_3))), (a0_0_4, .inl (ka0_0_4, 12, .inr (.inl (fa0_0_4)))), (a0_0_5_14_2, .inl (ka0_0_5_14_2, 3, .inl (fa0_0_5_14_2))), (a0_0_5_14_3, .inl (ka0_0_5_14_3, 3, .inl (fa0_0_5_14_3))), (a0_0_5_13, .inl (ka0_0_5_13, 6, .inl (fa0_0_5_13))), (a0_0_5_12, .inl (ka0_0_5_12, 6, .inl (fa0_0_5_12)))]) hP hD hS hA [1, 2, 3, 4, 5, 6, 7, 8, 9, 10, 11] (by decide +kernel) rfl (fun hPc hDc hFc hCc => ?_)
    have hKc := hK.sub (tys' := [(ka0_0_5_10, .int), (ka0_0_5_11, .int), (ka0_0_3, .byte), (ka0_0_4, .long), (ka0_0_5_14_2, .int), (ka0_0_5_14_3, .int), (ka0_0_5_13, .int), (ka0_0_5_12, .int)]) [0, 1, 2, 3, 4, 5, 6, 7] rfl
    refine va_calli (va_runV (As := [.int a1]) (rest := []) ⟨hx, hb, hml, hown, hts⟩ (f_X3_read l dC dI H.size a0_0 a1 a0_0_0 a0_0_1 a0_0_2 a0_0_3 a0_0_4 a0_0_5 a0_0_6 a0_0_7 a0_0_8 a0_0_9 a0_0_10 a0_0_11 a0_0_12 a0_0_13 a0_0_5_0 a0_0_5_1 a0_0_5_2 a0_0_5_3 a0_0_5_4 a0_0_5_5 a0_0_5_6 a0_0_5_7 a0_0_5_8 a0_0_5_9 a0_0_5_10 a0_0_5_11 a0_0_5_12 a0_0_5_13 a0_0_5_14 a0_0_5_14_0 a0_0_5_14g_1 a0_0_5_14_2 a0_0_5_14_3 ka0_0_5_10 fa0_0_5_10 ka0_0_5_11 fa0_0_5_11 ka0_0_3 fa0_0_3 ka0_0_4 fa0_0_4 ka0_0_5_14_2 fa0_0_5_14_2 ka0_0_5_14_3 fa0_0_5_14_3 ka0_0_5_13 fa0_0_5_13 ka0_0_5_12 fa0_0_5_12 ad l9k0_a1 u9k0_a1 l9k0_a0_0_0 ba0_0_0_u ba0_0_6_l ba0_0_6_u ba0_0_7_l ba0_0_7_u ba0_0_8_l ba0_0_8_u ba0_0_9_l ba0_0_9_u ba0_0_10_l ba0_0_10_u ba0_0_5_0_l ba0_0_5_0_u ba0_0_5_4_l ba0_0_5_4_u ba0_0_5_5_l ba0_0_5_5_u ba0_0_5_6_l ba0_0_5_6_u ba0_0_5_7_l ba0_0_5_7_u ba0_0_5_9_l ba0_0_5_9_u ba0_0_5_14_0_l ba0_0_5_14_0_u bfa0_0_5_14_2 bfa0_0_5_14_3 bfa0_0_5_13) (cwV 1 hts gX7_gallery_X3_read rfl rfl rfl zd_X3_read ⟨Nat.le_of_ble_eq_true rfl, Nat.le_of_ble_eq_true rfl⟩) ⟨ax_blind (fun _ _ _ _ hq => ⟨sxc_T_same _ _ _ _ (hq.1), va_Nw.same rfl rfl (hq.2.1), va_Nw.same rfl rfl (hq.2.2)⟩), zr_3 hKc hPc (q0 := 0) rfl, ax_preE hPc hKc hDc (fun U hU hW => ⟨sxc_T_to hE0 hS.2.1 hFc hU hW, va_Nw.warmM hW hE1, va_Nw.warmM hW hE2⟩)⟩ rfl rfl hl.1 rfl (lv_room (Nat.le_of_ble_eq_true rfl)) dX7_gallery_26 ⟨Nat.le_of_ble_eq_true rfl, Nat.le_of_ble_eq_true rfl⟩) hS (fun q _ h => hFc q h) hFc (fun r26 u t H locs ht hvm hw => zx_28 (fun v26na0_1 v26na0_2 v26na0_6 v26na0_7 v26na0_8 v26na0_9 v26na0_10 v26na0_11 v26na0_12 v26na0_13 v26na0_5_0 v26na0_5_1 v26na0_5_2 v26na0_5_3 v26na0_5_4 v26na0_5_5 v26na0_5_6 v26na0_5_7 v26na0_5_8 v26na0_5_9 v26na0_5_14_0 v26nfa0_5_10 v26nfa0_5_11 v26nfa0_4 v26nfa0_5_14_2 v26nfa0_5_14_3 v26nfa0_5_13 v26nfa0_5_12 => zy_16 (fun bv26na0_6 bv26na0_7 bv26na0_8 bv26na0_9 bv26na0_10 bv26na0_5_0 bv26na0_5_4 bv26na0_5_5 bv26na0_5_6 bv26na0_5_7 bv26na0_5_9 bv26na0_5_14_0 bv26nfa0_5_14_2 bv26nfa0_5_14_3 bv26nfa0_5_13 hraw26_0 hB hz1 hk1 hS1 => zo hB ht hS1 (fun hP1 hK1 hD1 hS => ?_))))
    refine zc_backc (w := [(a0, .inr (7, [.ref a0_0, .ref a0_1, a0g_2, a0g_3, .ref a0_4, .ref a0_5, a0g_6, .ref a0_7, .int a0_8, .int a0_9, .int a0_10])), (a0_0, .inr (3, [.int 0, .int v26na0_1, .int v26na0_2, .ref a0_0_3, .ref a0_0_4, .ref a0_0_5, .int v26na0_6, .int v26na0_7, .int v26na0_8, .int v26na0_9, .int v26na0_10, .long v26na0_11, .int v26na0_12, .int v26na0_13])), (a0_0_5, .inr (0, [.int v26na0_5_0, .int v26na0_5_1, .int v26na0_5_2, .int v26na0_5_3, .int v26na0_5_4, .int v26na0_5_5, .int v26na0_5_6, .int v26na0_5_7, .int v26na0_5_8, .int v26na0_5_9, .ref a0_0_5_10, .ref a0_0_5_11, .ref a0_0_5_12, .ref a0_0_5_13, .ref a0_0_5_14])), (a0_0_5_14, .inr (6, [.int v26na0_5_14_0, a0_0_5_14g_1, .ref a0_0_5_14_2, .ref a0_0_5_14_3])), (a0_0_5_10, .inl (ka0_0_5_10, 9, .inl (v26nfa0_5_10))), (a0_0_5_11, .inl (ka0_0_5_11, 9, .inl (v26nfa0_5_11))), (a0_0_3, .inl (ka0_0_3, 900, .inl (fa0_0_3))), (a0_0_4, .inl (ka0_0_4, 12, .inr (.inl (v26nfa0_4)))), (a0_0_5_14_2, .inl (ka0_0_5_14_2, 3, .inl (v26nfa0_5_14_2))), (a0_0_5_14_3, .inl (ka0_0_5_14_3, 3, .inl (v26nfa0_5_14_3))), (a0_0_5_13, .inl (ka0_0_5_13, 6, .inl (v26nfa0_5_13))), (a0_0_5_12, .inl (ka0_0_5_12, 6, .inl (v26nfa0_5_12))), (a0_1, .inr (5, [.int a0_1_0, .int a0_1_1, .int a0_1_2, .int a0_1_3, .int a0_1_4, .ref a0_1_5, .ref a0_1_6])), (a0_1_5, .inl (ka0_1_5, 9, .inl (fa0_1_5))), (a0_1_6, .inl (ka0_1_6, 9, .inl (fa0_1_6))), (a0_4, .inr (1, [.int a0_4_0, .int a0_4_1, a0_4g_2, a0_4g_3, a0_4g_4])), (a0_5, .inr (2, [a0_5g_0, a0_5g_1, a0_5g_2, a0_5g_3, a0_5g_4, .int a0_5_5, .int a0_5_6]))]) hP hD hCc hk1 hFc hP1 hD1 [.inl 0, .inr 0, .inr 1, .inr 2, .inr 3, .inr 4, .inr 5, .inr 6, .inr 7, .inr 8, .inr 9, .inr 10, .inl 12, .inl 13, .inl 14, .inl 15, .inl 16] (by decide +kernel) rfl (fun hP hD => ?_)
    obtain ⟨hw, hfr26⟩ := hw
    have hc26 : Ff_X3_read a1.toInt a0_0_0.toInt a0_0_11.toInt a0_0_12.toInt a0_0_13.toInt a0_0_5_1.toInt a0_0_5_2.toInt a0_0_5_3.toInt a0_0_5_5.toInt a0_0_5_6.toInt a0_0_5_7.toInt (fl_A fa0_0_5_10) (fl_A fa0_0_5_11) (fl_A fa0_0_3) (fl_L fa0_0_4) (fl_A fa0_0_5_14_2) (fl_A fa0_0_5_14_3) (fl_A fa0_0_5_13) (fl_A fa0_0_5_12) = (r26.toInt, v26na0_1.toInt, v26na0_2.toInt, v26na0_6.toInt, v26na0_7.toInt, v26na0_8.toInt, v26na0_9.toInt, v26na0_10.toInt, v26na0_11.toInt, v26na0_12.toInt, v26na0_13.toInt, v26na0_5_0.toInt, v26na0_5_1.toInt, v26na0_5_2.toInt, v26na0_5_3.toInt, v26na0_5_4.toInt, v26na0_5_5.toInt, v26na0_5_6.toInt, v26na0_5_7.toInt, v26na0_5_8.toInt, v26na0_5_9.toInt, v26na0_5_14_0.toInt, (fl_A v26nfa0_5_10), (fl_A v26nfa0_5_11), (fl_L v26nfa0_4), (fl_A v26nfa0_5_14_2), (fl_A v26nfa0_5_14_3), (fl_A v26nfa0_5_13), (fl_A v26nfa0_5_12)) := Prod.ext hfr26.symm hraw26_0
    have hF0 := hF0.trans (fl_c29_eq hc26)
    rcases hw with hw | hw
    · subst hw
      have hF0 := hF0.trans (if_pos (by decide))
      refine lv_istore_n (lv' := [(2, .int 1), (0, .ref a0), (1, .int a1)]) hx hb dX7_gallery_29 rfl hl (by decide) rfl (fun ls hl => ?_)
      refine lv_aload_n hx hb dX7_gallery_30 rfl (lv_at hl 1 rfl) ?_
      refine lv_aload_n hx hb dX7_gallery_31 rfl (lv_at hl 1 rfl) ?_
      refine va_get (D := (dC, dI)) (ci := 7) (v := .ref a0_0) (C := RX7) (T := TX7) (N := 11) hx hb hts zi_X7_gallery_7 hown hK hP 0 rfl rfl 0 (by decide) (hts (.fieldLink RX7 12 "WaxTurns" "reade\x72" "LWaxTurns$Reader;") (zm_X7_gallery_r1 (List.mem_of_getElem? (i := 0) rfl))) (fun _ h9 => h9) rfl dX7_gallery_32 ?_
      refine va_get (D := (dC, dI)) (ci := 3) (v := .int v26na0_1) (C := RX3) (T := TX3) (N := 14) hx hb hts zi_X7_gallery_3 hown hK hP 1 rfl rfl 1 (by decide) (hts (.fieldLink RX7 90 "WaxTurns$Reade\x72" "faultNumbe\x72" "I") (zm_X7_gallery_r1 (List.mem_of_getElem? (i := 2) rfl))) (fun _ h9 => h9) rfl dX7_gallery_35 ?_
      refine va_put (D := (dC, dI)) (ci := 7) (v := .int v26na0_1) (ty := .int) (C := RX7) (T := TX7) (N := 11) hx hb hts zi_X7_gallery_7 tyX7 tyX7_ok nmX7 hown hK hP hD hS 0 rfl rfl 9 (by decide) (hts (.fieldLink RX7 65 "WaxTurns" "latestFault" "I") (zm_X7_gallery_r1 (List.mem_of_getElem? (i := 3) rfl))) (fun _ h9 => h9) rfl (tyX7_ok 9 (by decide)) rfl rfl (Nat.le_of_ble_eq_true rfl) dX7_gallery_38 (fun H locs hP hD hS => ?_)
      refine zs_0 (y := (a0, .inr (7, [.ref a0_0, .ref a0_1, a0g_2, a0g_3, .ref a0_4, .ref a0_5, a0g_6, .ref a0_7, .int a0_8, .int v26na0_1, .int a0_10]))) hP hD rfl (fun hP hD => ?_)
      refine lv_aload_n hx hb dX7_gallery_41 rfl (lv_at hl 1 rfl) ?_
      refine lv_aload_n hx hb dX7_gallery_42 rfl (lv_at hl 1 rfl) ?_
      refine va_get (D := (dC, dI)) (ci := 7) (v := .ref a0_0) (C := RX7) (T := TX7) (N := 11) hx hb hts zi_X7_gallery_7 hown hK hP 0 rfl rfl 0 (by decide) (hts (.fieldLink RX7 12 "WaxTurns" "reade\x72" "LWaxTurns$Reader;") (zm_X7_gallery_r1 (List.mem_of_getElem? (i := 0) rfl))) (fun _ h9 => h9) rfl dX7_gallery_43 ?_
      refine va_get (D := (dC, dI)) (ci := 3) (v := .int v26na0_2) (C := RX3) (T := TX3) (N := 14) hx hb hts zi_X7_gallery_3 hown hK hP 1 rfl rfl 2 (by decide) (hts (.fieldLink RX7 93 "WaxTurns$Reade\x72" "faultPlace" "I") (zm_X7_gallery_r1 (List.mem_of_getElem? (i := 4) rfl))) (fun _ h9 => h9) rfl dX7_gallery_46 ?_
      refine va_put (D := (dC, dI)) (ci := 7) (v := .int v26na0_2) (ty := .int) (C := RX7) (T := TX7) (N := 11) hx hb hts zi_X7_gallery_7 tyX7 tyX7_ok nmX7 hown hK hP hD hS 0 rfl rfl 10 (by decide) (hts (.fieldLink RX7 68 "WaxTurns" "faultPlace" "I") (zm_X7_gallery_r1 (List.mem_of_getElem? (i := 5) rfl))) (fun _ h9 => h9) rfl (tyX7_ok 10 (by decide)) rfl rfl (Nat.le_of_ble_eq_true rfl) dX7_gallery_49 (fun H locs hP hD hS => ?_)
      refine zs_0 (y := (a0, .inr (7, [.ref a0_0, .ref a0_1, a0g_2, a0g_3, .ref a0_4, .ref a0_5, a0g_6, .ref a0_7, .int a0_8, .int v26na0_1, .int v26na0_2]))) hP hD rfl (fun hP hD => ?_)
      refine lv_iload_n hx hb dX7_gallery_52 rfl (lv_at hl 0 rfl) ?_
      refine lv_if_ne (tgt := 62) hx hb dX7_gallery_53 (by decide) (fun _ => ?_) (fun c53 => absurd c53 (by decide +kernel))
      refine lv_aload_n hx hb dX7_gallery_62 rfl (lv_at hl 1 rfl) ?_
      refine lv_aload_n hx hb dX7_gallery_63 rfl (lv_at hl 1 rfl) ?_
      refine va_get (D := (dC, dI)) (ci := 7) (v := .ref a0_0) (C := RX7) (T := TX7) (N := 11) hx hb hts zi_X7_gallery_7 hown hK hP 0 rfl rfl 0 (by decide) (hts (.fieldLink RX7 12 "WaxTurns" "reade\x72" "LWaxTurns$Reader;") (zm_X7_gallery_r1 (List.mem_of_getElem? (i := 0) rfl))) (fun _ h9 => h9) rfl dX7_gallery_64 ?_
      refine lv_aload_n hx hb dX7_gallery_67 rfl (lv_at hl 1 rfl) ?_
      refine va_get (D := (dC, dI)) (ci := 7) (v := .ref a0_7) (C := RX7) (T := TX7) (N := 11) hx hb hts zi_X7_gallery_7 hown hK hP 0 rfl rfl 7 (by decide) (hts (.fieldLink RX7 57 "WaxTurns" "hall" "LWaxTurns$Hall;") (zm_X7_gallery_r1 (List.mem_of_getElem? (i := 6) rfl))) (fun _ h9 => h9) rfl dX7_gallery_68 ?_
      obtain ⟨hPc, hDc, hFc, hCc⟩ := zc_cut (wc := [(a0_0, .inr (3, [.int 0, .int v26na0_1, .int v26na0_2, .ref a0_0_3, .ref a0_0_4, .ref a0_0_5, .int v26na0_6, .int v26na0_7, .int v26na0_8, .int v26na0_9, .int v26na0_10, .long v26na0_11, .int v26na0_12, .int v26na0_13]))]) hP hD hS hA [1] (by decide +kernel) rfl
      have hKc := hK.sub (tys' := []) [] rfl
      refine va_callr (va_runV (As := [.ref a0_7]) (rest := [.ref a0]) ⟨hx, hb, hml, hown, hts⟩ (f_X3_exchange l dC dI H.size a0_0 a0_7 (.int 0) (.int v26na0_1) (.int v26na0_2) (.ref a0_0_3) (.ref a0_0_4) (.int v26na0_6) (.int v26na0_7) (.int v26na0_8) (.int v26na0_9) (.int v26na0_10) (.long v26na0_11) (.int v26na0_12) (.int v26na0_13) a0_0_5 ) (cwV 1 hts gX7_gallery_X3_exchange rfl rfl rfl zd_X3_exchange ⟨Nat.le_of_ble_eq_true rfl, Nat.le_of_ble_eq_true rfl⟩) ⟨ax_blind (fun _ _ _ _ _ => trivial), zr_3 hKc hPc (q0 := 0) rfl, ax_pre hPc hKc hDc (fun _ _ => trivial)⟩ rfl rfl hl.1 rfl (lv_room (Nat.le_of_ble_eq_true rfl)) dX7_gallery_71 ⟨Nat.le_of_ble_eq_true rfl, Nat.le_of_ble_eq_true rfl⟩) hS (fun q _ h => hFc q h) hFc (fun u r71 t H1 locs ht hvm hw hB hz1 hk1 hS => ?_)
      obtain ⟨hw, hB⟩ := hB
      obtain ⟨hP1, hK1, hD1⟩ := hB
      rw [ht] at hP1
      obtain ⟨hP, hD⟩ := zc_back (w := [(a0, .inr (7, [.ref a0_0, .ref a0_1, a0g_2, a0g_3, .ref a0_4, .ref a0_5, a0g_6, .ref a0_7, .int a0_8, .int v26na0_1, .int v26na0_2])), (a0_0, .inr (3, [.int 0, .int v26na0_1, .int v26na0_2, .ref a0_0_3, .ref a0_0_4, .ref a0_7, .int v26na0_6, .int v26na0_7, .int v26na0_8, .int v26na0_9, .int v26na0_10, .long v26na0_11, .int v26na0_12, .int v26na0_13])), (a0_0_5, .inr (0, [.int v26na0_5_0, .int v26na0_5_1, .int v26na0_5_2, .int v26na0_5_3, .int v26na0_5_4, .int v26na0_5_5, .int v26na0_5_6, .int v26na0_5_7, .int v26na0_5_8, .int v26na0_5_9, .ref a0_0_5_10, .ref a0_0_5_11, .ref a0_0_5_12, .ref a0_0_5_13, .ref a0_0_5_14])), (a0_0_5_14, .inr (6, [.int v26na0_5_14_0, a0_0_5_14g_1, .ref a0_0_5_14_2, .ref a0_0_5_14_3])), (a0_0_5_10, .inl (ka0_0_5_10, 9, .inl (v26nfa0_5_10))), (a0_0_5_11, .inl (ka0_0_5_11, 9, .inl (v26nfa0_5_11))), (a0_0_3, .inl (ka0_0_3, 900, .inl (fa0_0_3))), (a0_0_4, .inl (ka0_0_4, 12, .inr (.inl (v26nfa0_4)))), (a0_0_5_14_2, .inl (ka0_0_5_14_2, 3, .inl (v26nfa0_5_14_2))), (a0_0_5_14_3, .inl (ka0_0_5_14_3, 3, .inl (v26nfa0_5_14_3))), (a0_0_5_13, .inl (ka0_0_5_13, 6, .inl (v26nfa0_5_13))), (a0_0_5_12, .inl (ka0_0_5_12, 6, .inl (v26nfa0_5_12))), (a0_1, .inr (5, [.int a0_1_0, .int a0_1_1, .int a0_1_2, .int a0_1_3, .int a0_1_4, .ref a0_1_5, .ref a0_1_6])), (a0_1_5, .inl (ka0_1_5, 9, .inl (fa0_1_5))), (a0_1_6, .inl (ka0_1_6, 9, .inl (fa0_1_6))), (a0_4, .inr (1, [.int a0_4_0, .int a0_4_1, a0_4g_2, a0_4g_3, a0_4g_4])), (a0_5, .inr (2, [a0_5g_0, a0_5g_1, a0_5g_2, a0_5g_3, a0_5g_4, .int a0_5_5, .int a0_5_6]))]) hP hD hCc hk1 hFc hP1 hD1 [.inl 0, .inr 0, .inl 2, .inl 3, .inl 4, .inl 5, .inl 6, .inl 7, .inl 8, .inl 9, .inl 10, .inl 11, .inl 12, .inl 13, .inl 14, .inl 15, .inl 16] (by decide +kernel) rfl
      generalize H1 = H at hP hS ⊢
      have hw : r71 = a0_0_5 := hw
      have hw := hw.symm
      subst hw
      refine va_put (D := (dC, dI)) (ci := 7) (v := .ref a0_0_5) (ty := (.object "WaxTurns$Hall")) (C := RX7) (T := TX7) (N := 11) hx hb hts zi_X7_gallery_7 tyX7 tyX7_ok nmX7 hown hK hP hD hS 0 rfl rfl 7 (by decide) (hts (.fieldLink RX7 57 "WaxTurns" "hall" "LWaxTurns$Hall;") (zm_X7_gallery_r1 (List.mem_of_getElem? (i := 6) rfl))) (fun _ h9 => h9) rfl (tyX7_ok 7 (by decide)) rfl rfl (Nat.le_of_ble_eq_true rfl) dX7_gallery_74 (fun H locs hP hD hS => ?_)
      refine zs_0 (y := (a0, .inr (7, [.ref a0_0, .ref a0_1, a0g_2, a0g_3, .ref a0_4, .ref a0_5, a0g_6, .ref a0_0_5, .int a0_8, .int v26na0_1, .int v26na0_2]))) hP hD rfl (fun hP hD => ?_)
      refine lv_aload_n hx hb dX7_gallery_77 rfl (lv_at hl 1 rfl) ?_
      refine va_get (D := (dC, dI)) (ci := 7) (v := .ref a0_1) (C := RX7) (T := TX7) (N := 11) hx hb hts zi_X7_gallery_7 hown hK hP 0 rfl rfl 1 (by decide) (hts (.fieldLink RX7 19 "WaxTurns" "now" "LWaxTurns$Scene;") (zm_X7_gallery_r1 (List.mem_of_getElem? (i := 7) rfl))) (fun _ h9 => h9) rfl dX7_gallery_78 ?_
      refine lv_aload_n hx hb dX7_gallery_81 rfl (lv_at hl 1 rfl) ?_
      refine va_get (D := (dC, dI)) (ci := 7) (v := .ref a0_0_5) (C := RX7) (T := TX7) (N := 11) hx hb hts zi_X7_gallery_7 hown hK hP 0 rfl rfl 7 (by decide) (hts (.fieldLink RX7 57 "WaxTurns" "hall" "LWaxTurns$Hall;") (zm_X7_gallery_r1 (List.mem_of_getElem? (i := 6) rfl))) (fun _ h9 => h9) rfl dX7_gallery_82 ?_
      refine va_get (D := (dC, dI)) (ci := 0) (v := .int v26na0_5_7) (C := RX0) (T := TX0) (N := 15) hx hb hts zi_X7_gallery_0 hown hK hP 2 rfl rfl 7 (by decide) (hts (.fieldLink RX7 98 "WaxTurns$Hall" "first" "I") (zm_X7_gallery_r1 (List.mem_of_getElem? (i := 8) rfl))) (fun _ h9 => h9) rfl dX7_gallery_85 ?_
      refine zc_cutc (wc := [(a0_1, .inr (5, [.int a0_1_0, .int a0_1_1, .int a0_1_2, .int a0_1_3, .int a0_1_4, .ref a0_1_5, .ref a0_1_6])), (a0_1_5, .inl (ka0_1_5, 9, .inl (fa0_1_5))), (a0_1_6, .inl (ka0_1_6, 9, .inl (fa0_1_6)))]) hP hD hS hA [12, 13, 14] (by decide +kernel) rfl (fun hPc hDc hFc hCc => ?_)
      have hKc := hK.sub (tys' := [(ka0_1_5, .int), (ka0_1_6, .int)]) [8, 9] rfl
      refine va_callv (va_runV (As := [.int v26na0_5_7]) (rest := []) ⟨hx, hb, hml, hown, hts⟩ (f_X5_begin l dC dI H.size a0_1 v26na0_5_7 a0_1_0 a0_1_1 a0_1_2 a0_1_3 a0_1_4 a0_1_5 a0_1_6 ka0_1_5 fa0_1_5 ka0_1_6 fa0_1_6 bv26na0_5_7.1 bv26na0_5_7.2 ba0_1_1_l ba0_1_1_u) (cwV 1 hts gX7_gallery_X5_begin rfl rfl rfl zd_X5_begin ⟨Nat.le_of_ble_eq_true rfl, Nat.le_of_ble_eq_true rfl⟩) ⟨ax_blind (fun _ _ _ _ _ => trivial), zr_5 hKc hPc (q0 := 0) rfl, ax_pre hPc hKc hDc (fun _ _ => trivial)⟩ rfl rfl hl.1 rfl (lv_room (Nat.le_of_ble_eq_true rfl)) dX7_gallery_88 ⟨Nat.le_of_ble_eq_true rfl, Nat.le_of_ble_eq_true rfl⟩) hS (fun q _ h => hFc q h) hFc (fun u t H locs ht hvm hw => zx_7 (fun v88na0_0 v88na0_1 v88na0_2 v88na0_3 v88na0_4 v88nfa0_5 v88nfa0_6 => zy_2 (fun bv88na0_1 hraw88_0 hB hz1 hk1 hS1 => zo hB ht hS1 (fun hP1 hK1 hD1 hS => ?_))))
      refine zc_backc (w := [(a0, .inr (7, [.ref a0_0, .ref a0_1, a0g_2, a0g_3, .ref a0_4, .ref a0_5, a0g_6, .ref a0_0_5, .int a0_8, .int v26na0_1, .int v26na0_2])), (a0_0, .inr (3, [.int 0, .int v26na0_1, .int v26na0_2, .ref a0_0_3, .ref a0_0_4, .ref a0_7, .int v26na0_6, .int v26na0_7, .int v26na0_8, .int v26na0_9, .int v26na0_10, .long v26na0_11, .int v26na0_12, .int v26na0_13])), (a0_0_5, .inr (0, [.int v26na0_5_0, .int v26na0_5_1, .int v26na0_5_2, .int v26na0_5_3, .int v26na0_5_4, .int v26na0_5_5, .int v26na0_5_6, .int v26na0_5_7, .int v26na0_5_8, .int v26na0_5_9, .ref a0_0_5_10, .ref a0_0_5_11, .ref a0_0_5_12, .ref a0_0_5_13, .ref a0_0_5_14])), (a0_0_5_14, .inr (6, [.int v26na0_5_14_0, a0_0_5_14g_1, .ref a0_0_5_14_2, .ref a0_0_5_14_3])), (a0_0_5_10, .inl (ka0_0_5_10, 9, .inl (v26nfa0_5_10))), (a0_0_5_11, .inl (ka0_0_5_11, 9, .inl (v26nfa0_5_11))), (a0_0_3, .inl (ka0_0_3, 900, .inl (fa0_0_3))), (a0_0_4, .inl (ka0_0_4, 12, .inr (.inl (v26nfa0_4)))), (a0_0_5_14_2, .inl (ka0_0_5_14_2, 3, .inl (v26nfa0_5_14_2))), (a0_0_5_14_3, .inl (ka0_0_5_14_3, 3, .inl (v26nfa0_5_14_3))), (a0_0_5_13, .inl (ka0_0_5_13, 6, .inl (v26nfa0_5_13))), (a0_0_5_12, .inl (ka0_0_5_12, 6, .inl (v26nfa0_5_12))), (a0_1, .inr (5, [.int v88na0_0, .int v88na0_1, .int v88na0_2, .int v88na0_3, .int v88na0_4, .ref a0_1_5, .ref a0_1_6])), (a0_1_5, .inl (ka0_1_5, 9, .inl (v88nfa0_5))), (a0_1_6, .inl (ka0_1_6, 9, .inl (v88nfa0_6))), (a0_4, .inr (1, [.int a0_4_0, .int a0_4_1, a0_4g_2, a0_4g_3, a0_4g_4])), (a0_5, .inr (2, [a0_5g_0, a0_5g_1, a0_5g_2, a0_5g_3, a0_5g_4, .int a0_5_5, .int a0_5_6]))]) hP hD hCc hk1 hFc hP1 hD1 [.inl 0, .inl 1, .inl 2, .inl 3, .inl 4, .inl 5, .inl 6, .inl 7, .inl 8, .inl 9, .inl 10, .inl 11, .inr 0, .inr 1, .inr 2, .inl 15, .inl 16] (by decide +kernel) rfl (fun hP hD => ?_)
      have hc88 : Ff_X5_begin v26na0_5_7.toInt (fl_A fa0_1_5) (fl_A fa0_1_6) = (v88na0_0.toInt, v88na0_1.toInt, v88na0_2.toInt, v88na0_3.toInt, v88na0_4.toInt, (fl_A v88nfa0_5), (fl_A v88nfa0_6)) := hraw88_0
      have hF0 := hF0.trans (fl_c7_eq hc88)
      refine lv_aload_n hx hb dX7_gallery_91 rfl (lv_at hl 1 rfl) ?_
      refine va_get (D := (dC, dI)) (ci := 7) (v := .ref a0_4) (C := RX7) (T := TX7) (N := 11) hx hb hts zi_X7_gallery_7 hown hK hP 0 rfl rfl 4 (by decide) (hts (.fieldLink RX7 36 "WaxTurns" "history" "LWaxTurns$History;") (zm_X7_gallery_r1 (List.mem_of_getElem? (i := 9) rfl))) (fun _ h9 => h9) rfl dX7_gallery_92 ?_
      refine zc_cutc (wc := [(a0_4, .inr (1, [.int a0_4_0, .int a0_4_1, a0_4g_2, a0_4g_3, a0_4g_4]))]) hP hD hS hA [15] (by decide +kernel) rfl (fun hPc hDc hFc hCc => ?_)
      have hKc := zp_K hK
      refine va_callv (va_runV (As := []) (rest := []) ⟨hx, hb, hml, hown, hts⟩ (f_X1_clear l dC dI H.size a0_4 a0_4_0 a0_4_1 a0_4g_2 a0_4g_3 a0_4g_4 ba0_4_0_l ba0_4_0_u ba0_4_1_l ba0_4_1_u) (cwV 0 hts gX7_gallery_X1_clear rfl rfl rfl zd_X1_clear ⟨Nat.le_of_ble_eq_true rfl, Nat.le_of_ble_eq_true rfl⟩) ⟨ax_blind (fun _ _ _ _ _ => trivial), zr_1 hKc hPc (q0 := 0) rfl, ax_pre hPc hKc hDc (fun _ _ => trivial)⟩ rfl rfl hl.1 rfl (lv_room (Nat.le_of_ble_eq_true rfl)) dX7_gallery_95 ⟨Nat.le_of_ble_eq_true rfl, Nat.le_of_ble_eq_true rfl⟩) hS (fun q _ h => hFc q h) hFc (fun u t H locs ht hvm hw => zx_2 (fun v95na0_0 v95na0_1 => zy_3 (fun bv95na0_0 bv95na0_1 hraw95_0 hB hz1 hk1 hS1 => zo hB ht hS1 (fun hP1 hK1 hD1 hS => ?_))))
      refine zc_backc (w := [(a0, .inr (7, [.ref a0_0, .ref a0_1, a0g_2, a0g_3, .ref a0_4, .ref a0_5, a0g_6, .ref a0_0_5, .int a0_8, .int v26na0_1, .int v26na0_2])), (a0_0, .inr (3, [.int 0, .int v26na0_1, .int v26na0_2, .ref a0_0_3, .ref a0_0_4, .ref a0_7, .int v26na0_6, .int v26na0_7, .int v26na0_8, .int v26na0_9, .int v26na0_10, .long v26na0_11, .int v26na0_12, .int v26na0_13])), (a0_0_5, .inr (0, [.int v26na0_5_0, .int v26na0_5_1, .int v26na0_5_2, .int v26na0_5_3, .int v26na0_5_4, .int v26na0_5_5, .int v26na0_5_6, .int v26na0_5_7, .int v26na0_5_8, .int v26na0_5_9, .ref a0_0_5_10, .ref a0_0_5_11, .ref a0_0_5_12, .ref a0_0_5_13, .ref a0_0_5_14])), (a0_0_5_14, .inr (6, [.int v26na0_5_14_0, a0_0_5_14g_1, .ref a0_0_5_14_2, .ref a0_0_5_14_3])), (a0_0_5_10, .inl (ka0_0_5_10, 9, .inl (v26nfa0_5_10))), (a0_0_5_11, .inl (ka0_0_5_11, 9, .inl (v26nfa0_5_11))), (a0_0_3, .inl (ka0_0_3, 900, .inl (fa0_0_3))), (a0_0_4, .inl (ka0_0_4, 12, .inr (.inl (v26nfa0_4)))), (a0_0_5_14_2, .inl (ka0_0_5_14_2, 3, .inl (v26nfa0_5_14_2))), (a0_0_5_14_3, .inl (ka0_0_5_14_3, 3, .inl (v26nfa0_5_14_3))), (a0_0_5_13, .inl (ka0_0_5_13, 6, .inl (v26nfa0_5_13))), (a0_0_5_12, .inl (ka0_0_5_12, 6, .inl (v26nfa0_5_12))), (a0_1, .inr (5, [.int v88na0_0, .int v88na0_1, .int v88na0_2, .int v88na0_3, .int v88na0_4, .ref a0_1_5, .ref a0_1_6])), (a0_1_5, .inl (ka0_1_5, 9, .inl (v88nfa0_5))), (a0_1_6, .inl (ka0_1_6, 9, .inl (v88nfa0_6))), (a0_4, .inr (1, [.int v95na0_0, .int v95na0_1, a0_4g_2, a0_4g_3, a0_4g_4])), (a0_5, .inr (2, [a0_5g_0, a0_5g_1, a0_5g_2, a0_5g_3, a0_5g_4, .int a0_5_5, .int a0_5_6]))]) hP hD hCc hk1 hFc hP1 hD1 [.inl 0, .inl 1, .inl 2, .inl 3, .inl 4, .inl 5, .inl 6, .inl 7, .inl 8, .inl 9, .inl 10, .inl 11, .inl 12, .inl 13, .inl 14, .inr 0, .inl 16] (by decide +kernel) rfl (fun hP hD => ?_)
      have hc95 : Ff_X1_clear = (v95na0_0.toInt, v95na0_1.toInt) := hraw95_0
      have hF0 := hF0.trans (fl_c2_eq hc95)
      refine lv_aload_n hx hb dX7_gallery_98 rfl (lv_at hl 1 rfl) ?_
      refine va_get (D := (dC, dI)) (ci := 7) (v := .ref a0_5) (C := RX7) (T := TX7) (N := 11) hx hb hts zi_X7_gallery_7 hown hK hP 0 rfl rfl 5 (by decide) (hts (.fieldLink RX7 43 "WaxTurns" "laws" "LWaxTurns$Laws;") (zm_X7_gallery_r1 (List.mem_of_getElem? (i := 10) rfl))) (fun _ h9 => h9) rfl dX7_gallery_99 ?_
      refine zc_cutc (wc := [(a0_5, .inr (2, [a0_5g_0, a0_5g_1, a0_5g_2, a0_5g_3, a0_5g_4, .int a0_5_5, .int a0_5_6]))]) hP hD hS hA [16] (by decide +kernel) rfl (fun hPc hDc hFc hCc => ?_)
      have hKc := zp_K hK
      refine va_callv (va_runV (As := []) (rest := []) ⟨hx, hb, hml, hown, hts⟩ (f_X2_forget l dC dI H.size a0_5 a0_5g_0 a0_5g_1 a0_5g_2 a0_5g_3 a0_5g_4 a0_5_5 a0_5_6 ba0_5_5_l ba0_5_5_u ba0_5_6_l ba0_5_6_u) (cwV 0 hts gX7_gallery_X2_forget rfl rfl rfl zd_X2_forget ⟨Nat.le_of_ble_eq_true rfl, Nat.le_of_ble_eq_true rfl⟩) ⟨ax_blind (fun _ _ _ _ _ => trivial), zr_2 hKc hPc (q0 := 0) rfl, ax_pre hPc hKc hDc (fun _ _ => trivial)⟩ rfl rfl hl.1 rfl (lv_room (Nat.le_of_ble_eq_true rfl)) dX7_gallery_102 ⟨Nat.le_of_ble_eq_true rfl, Nat.le_of_ble_eq_true rfl⟩) hS (fun q _ h => hFc q h) hFc (fun u t H locs ht hvm hw => zx_2 (fun v102na0_5 v102na0_6 => zy_3 (fun bv102na0_5 bv102na0_6 hraw102_0 hB hz1 hk1 hS1 => zo hB ht hS1 (fun hP1 hK1 hD1 hS => ?_))))
      refine zc_backc (w := [(a0, .inr (7, [.ref a0_0, .ref a0_1, a0g_2, a0g_3, .ref a0_4, .ref a0_5, a0g_6, .ref a0_0_5, .int a0_8, .int v26na0_1, .int v26na0_2])), (a0_0, .inr (3, [.int 0, .int v26na0_1, .int v26na0_2, .ref a0_0_3, .ref a0_0_4, .ref a0_7, .int v26na0_6, .int v26na0_7, .int v26na0_8, .int v26na0_9, .int v26na0_10, .long v26na0_11, .int v26na0_12, .int v26na0_13])), (a0_0_5, .inr (0, [.int v26na0_5_0, .int v26na0_5_1, .int v26na0_5_2, .int v26na0_5_3, .int v26na0_5_4, .int v26na0_5_5, .int v26na0_5_6, .int v26na0_5_7, .int v26na0_5_8, .int v26na0_5_9, .ref a0_0_5_10, .ref a0_0_5_11, .ref a0_0_5_12, .ref a0_0_5_13, .ref a0_0_5_14])), (a0_0_5_14, .inr (6, [.int v26na0_5_14_0, a0_0_5_14g_1, .ref a0_0_5_14_2, .ref a0_0_5_14_3])), (a0_0_5_10, .inl (ka0_0_5_10, 9, .inl (v26nfa0_5_10))), (a0_0_5_11, .inl (ka0_0_5_11, 9, .inl (v26nfa0_5_11))), (a0_0_3, .inl (ka0_0_3, 900, .inl (fa0_0_3))), (a0_0_4, .inl (ka0_0_4, 12, .inr (.inl (v26nfa0_4)))), (a0_0_5_14_2, .inl (ka0_0_5_14_2, 3, .inl (v26nfa0_5_14_2))), (a0_0_5_14_3, .inl (ka0_0_5_14_3, 3, .inl (v26nfa0_5_14_3))), (a0_0_5_13, .inl (ka0_0_5_13, 6, .inl (v26nfa0_5_13))), (a0_0_5_12, .inl (ka0_0_5_12, 6, .inl (v26nfa0_5_12))), (a0_1, .inr (5, [.int v88na0_0, .int v88na0_1, .int v88na0_2, .int v88na0_3, .int v88na0_4, .ref a0_1_5, .ref a0_1_6])), (a0_1_5, .inl (ka0_1_5, 9, .inl (v88nfa0_5))), (a0_1_6, .inl (ka0_1_6, 9, .inl (v88nfa0_6))), (a0_4, .inr (1, [.int v95na0_0, .int v95na0_1, a0_4g_2, a0_4g_3, a0_4g_4])), (a0_5, .inr (2, [a0_5g_0, a0_5g_1, a0_5g_2, a0_5g_3, a0_5g_4, .int v102na0_5, .int v102na0_6]))]) hP hD hCc hk1 hFc hP1 hD1 [.inl 0, .inl 1, .inl 2, .inl 3, .inl 4, .inl 5, .inl 6, .inl 7, .inl 8, .inl 9, .inl 10, .inl 11, .inl 12, .inl 13, .inl 14, .inl 15, .inr 0] (by decide +kernel) rfl (fun hP hD => ?_)
      have hc102 : Ff_X2_forget = (v102na0_5.toInt, v102na0_6.toInt) := hraw102_0
      have hF0 := hF0.trans (fl_c2_eq hc102)
      refine lv_aload_n hx hb dX7_gallery_105 rfl (lv_at hl 1 rfl) ?_
      refine lv_aload_n hx hb dX7_gallery_106 rfl (lv_at hl 1 rfl) ?_
      refine va_get (D := (dC, dI)) (ci := 7) (v := .ref a0_0_5) (C := RX7) (T := TX7) (N := 11) hx hb hts zi_X7_gallery_7 hown hK hP 0 rfl rfl 7 (by decide) (hts (.fieldLink RX7 57 "WaxTurns" "hall" "LWaxTurns$Hall;") (zm_X7_gallery_r1 (List.mem_of_getElem? (i := 6) rfl))) (fun _ h9 => h9) rfl dX7_gallery_107 ?_
      refine va_get (D := (dC, dI)) (ci := 0) (v := .int v26na0_5_0) (C := RX0) (T := TX0) (N := 15) hx hb hts zi_X7_gallery_0 hown hK hP 2 rfl rfl 0 (by decide) (hts (.fieldLink RX7 110 "WaxTurns$Hall" "figures" "I") (zm_X7_gallery_r1 (List.mem_of_getElem? (i := 11) rfl))) (fun _ h9 => h9) rfl dX7_gallery_110 ?_
      refine va_calli (va_runV (As := [.int v26na0_5_0]) (rest := []) ⟨hx, hb, hml, hown, hts⟩ (f_X7_answered l dC dI H.size a0 v26na0_5_0 (.ref a0_0) (.ref a0_1) a0g_2 a0g_3 (.ref a0_4) (.ref a0_5) a0g_6 (.ref a0_0_5) (.int v26na0_1) (.int v26na0_2) a0_8 ) (cwV 1 hts gX7_gallery_X7_answered rfl rfl rfl zd_X7_answered ⟨Nat.le_of_ble_eq_true rfl, Nat.le_of_ble_eq_true rfl⟩) ⟨ax_blind (fun _ _ _ _ _ => trivial), zr_7 (zp_K hK) (zp_P1 hP) (q0 := 0) rfl, ax_pre (zp_P1 hP) (zp_K hK) (zp_D1 hD) (fun _ _ => trivial)⟩ rfl rfl hl.1 rfl (lv_room (Nat.le_of_ble_eq_true rfl)) dX7_gallery_113 ⟨Nat.le_of_ble_eq_true rfl, Nat.le_of_ble_eq_true rfl⟩) hS (fun q _ h => zp_F1 hD hS hA q h) (zp_F1 hD hS hA) (fun r113 u t H locs ht hvm hw => zx_1 (fun v113na0_8 => zy_1 (fun hraw113_0 hB hz1 hk1 hS1 => zo1 hB ht hP hD hk1 (zp_F1 hD hS hA) hS1 (fun hP hK1 hD hS => ?_))))
      obtain ⟨hw, hfr113⟩ := hw
      have hc113 : Ff_X7_answered v26na0_5_0.toInt = (r113.toInt, v113na0_8.toInt) := Prod.ext hfr113.symm hraw113_0
      have hF0 := hF0.trans (fl_c2_eq hc113)
      have hw : r113 = v26na0_5_0 := hw
      have hw := hw.symm
      subst hw
      have hFe : FX = (v26na0_5_0.toInt, v113na0_8.toInt, v26na0_1.toInt, v26na0_2.toInt, 0, v26na0_1.toInt, v26na0_2.toInt, v26na0_6.toInt, v26na0_7.toInt, v26na0_8.toInt, v26na0_9.toInt, v26na0_10.toInt, v26na0_11.toInt, v26na0_12.toInt, v26na0_13.toInt, v26na0_5_0.toInt, v26na0_5_1.toInt, v26na0_5_2.toInt, v26na0_5_3.toInt, v26na0_5_4.toInt, v26na0_5_5.toInt, v26na0_5_6.toInt, v26na0_5_7.toInt, v26na0_5_8.toInt, v26na0_5_9.toInt, v26na0_5_14_0.toInt, (fl_A v26nfa0_5_10), (fl_A v26nfa0_5_11), (fl_L v26nfa0_4), (fl_A v26nfa0_5_14_2), (fl_A v26nfa0_5_14_3), (fl_A v26nfa0_5_13), (fl_A v26nfa0_5_12), v88na0_0.toInt, v88na0_1.toInt, v88na0_2.toInt, v88na0_3.toInt, v88na0_4.toInt, (fl_A v88nfa0_5), (fl_A v88nfa0_6), v95na0_0.toInt, v95na0_1.toInt, v102na0_5.toInt, v102na0_6.toInt, 0) := hF0
      exact W.iret (v := v26na0_5_0) hx hb hr (fun t ht hW => ⟨⟨v26na0_5_0, (), rfl, ⟨⟨(Int.le_trans zq69 bv26na0_5_0.1), bv26na0_5_0.2⟩, (congrArg Prod.fst hFe).symm⟩, a0_0_5, v113na0_8, v26na0_1, v26na0_2, 0, v26na0_1, v26na0_2, a0_7, v26na0_6, v26na0_7, v26na0_8, v26na0_9, v26na0_10, v26na0_11, v26na0_12, v26na0_13, v26na0_5_0, v26na0_5_1, v26na0_5_2, v26na0_5_3, v26na0_5_4, v26na0_5_5, v26na0_5_6, v26na0_5_7, v26na0_5_8, v26na0_5_9, v26na0_5_14_0, v26nfa0_5_10, v26nfa0_5_11, v26nfa0_4, v26nfa0_5_14_2, v26nfa0_5_14_3, v26nfa0_5_13, v26nfa0_5_12, v88na0_0, v88na0_1, v88na0_2, v88na0_3, v88na0_4, v88nfa0_5, v88nfa0_6, v95na0_0, v95na0_1, v102na0_5, v102na0_6, ⟨zq5, Int.le_trans zq6 (by decide)⟩, ⟨bv26na0_6.1, bv26na0_6.2⟩, ⟨bv26na0_7.1, bv26na0_7.2⟩, ⟨bv26na0_8.1, bv26na0_8.2⟩, ⟨bv26na0_9.1, bv26na0_9.2⟩, ⟨bv26na0_10.1, bv26na0_10.2⟩, ⟨bv26na0_5_0.1, bv26na0_5_0.2⟩, ⟨bv26na0_5_4.1, bv26na0_5_4.2⟩, ⟨bv26na0_5_5.1, bv26na0_5_5.2⟩, ⟨bv26na0_5_6.1, bv26na0_5_6.2⟩, ⟨bv26na0_5_7.1, bv26na0_5_7.2⟩, ⟨bv26na0_5_9.1, bv26na0_5_9.2⟩, ⟨bv26na0_5_14_0.1, bv26na0_5_14_0.2⟩, ⟨bv88na0_1.1, bv88na0_1.2⟩, ⟨bv95na0_0.1, bv95na0_0.2⟩, ⟨bv95na0_1.1, bv95na0_1.2⟩, ⟨bv102na0_5.1, bv102na0_5.2⟩, ⟨bv102na0_6.1, bv102na0_6.2⟩, bv26nfa0_5_14_2, bv26nfa0_5_14_3, bv26nfa0_5_13, (by have h0 : (0 : Int32).toInt = 0 := (by decide); constructor <;> intro h9 <;> omega), (Or.inl ⟨rfl, rfl⟩), (Or.inl ⟨rfl, rfl, congrArg Prod.snd hFe⟩), by rw [ht]; exact hP, va_K.moved hW.alike hK, hD⟩, hS.F ht⟩) hS.2.2 dX7_gallery_116
    · subst hw
      have hF0 := hF0.trans (if_neg (by decide))
      refine lv_istore_n (lv' := [(2, .int 0), (0, .ref a0), (1, .int a1)]) hx hb dX7_gallery_29 rfl hl (by decide) rfl (fun ls hl => ?_)
      refine lv_aload_n hx hb dX7_gallery_30 rfl (lv_at hl 1 rfl) ?_
      refine lv_aload_n hx hb dX7_gallery_31 rfl (lv_at hl 1 rfl) ?_
      refine va_get (D := (dC, dI)) (ci := 7) (v := .ref a0_0) (C := RX7) (T := TX7) (N := 11) hx hb hts zi_X7_gallery_7 hown hK hP 0 rfl rfl 0 (by decide) (hts (.fieldLink RX7 12 "WaxTurns" "reade\x72" "LWaxTurns$Reader;") (zm_X7_gallery_r1 (List.mem_of_getElem? (i := 0) rfl))) (fun _ h9 => h9) rfl dX7_gallery_32 ?_
      refine va_get (D := (dC, dI)) (ci := 3) (v := .int v26na0_1) (C := RX3) (T := TX3) (N := 14) hx hb hts zi_X7_gallery_3 hown hK hP 1 rfl rfl 1 (by decide) (hts (.fieldLink RX7 90 "WaxTurns$Reade\x72" "faultNumbe\x72" "I") (zm_X7_gallery_r1 (List.mem_of_getElem? (i := 2) rfl))) (fun _ h9 => h9) rfl dX7_gallery_35 ?_
      refine va_put (D := (dC, dI)) (ci := 7) (v := .int v26na0_1) (ty := .int) (C := RX7) (T := TX7) (N := 11) hx hb hts zi_X7_gallery_7 tyX7 tyX7_ok nmX7 hown hK hP hD hS 0 rfl rfl 9 (by decide) (hts (.fieldLink RX7 65 "WaxTurns" "latestFault" "I") (zm_X7_gallery_r1 (List.mem_of_getElem? (i := 3) rfl))) (fun _ h9 => h9) rfl (tyX7_ok 9 (by decide)) rfl rfl (Nat.le_of_ble_eq_true rfl) dX7_gallery_38 (fun H locs hP hD hS => ?_)
      refine zs_0 (y := (a0, .inr (7, [.ref a0_0, .ref a0_1, a0g_2, a0g_3, .ref a0_4, .ref a0_5, a0g_6, .ref a0_7, .int a0_8, .int v26na0_1, .int a0_10]))) hP hD rfl (fun hP hD => ?_)
      refine lv_aload_n hx hb dX7_gallery_41 rfl (lv_at hl 1 rfl) ?_
      refine lv_aload_n hx hb dX7_gallery_42 rfl (lv_at hl 1 rfl) ?_
      refine va_get (D := (dC, dI)) (ci := 7) (v := .ref a0_0) (C := RX7) (T := TX7) (N := 11) hx hb hts zi_X7_gallery_7 hown hK hP 0 rfl rfl 0 (by decide) (hts (.fieldLink RX7 12 "WaxTurns" "reade\x72" "LWaxTurns$Reader;") (zm_X7_gallery_r1 (List.mem_of_getElem? (i := 0) rfl))) (fun _ h9 => h9) rfl dX7_gallery_43 ?_
      refine va_get (D := (dC, dI)) (ci := 3) (v := .int v26na0_2) (C := RX3) (T := TX3) (N := 14) hx hb hts zi_X7_gallery_3 hown hK hP 1 rfl rfl 2 (by decide) (hts (.fieldLink RX7 93 "WaxTurns$Reade\x72" "faultPlace" "I") (zm_X7_gallery_r1 (List.mem_of_getElem? (i := 4) rfl))) (fun _ h9 => h9) rfl dX7_gallery_46 ?_
      refine va_put (D := (dC, dI)) (ci := 7) (v := .int v26na0_2) (ty := .int) (C := RX7) (T := TX7) (N := 11) hx hb hts zi_X7_gallery_7 tyX7 tyX7_ok nmX7 hown hK hP hD hS 0 rfl rfl 10 (by decide) (hts (.fieldLink RX7 68 "WaxTurns" "faultPlace" "I") (zm_X7_gallery_r1 (List.mem_of_getElem? (i := 5) rfl))) (fun _ h9 => h9) rfl (tyX7_ok 10 (by decide)) rfl rfl (Nat.le_of_ble_eq_true rfl) dX7_gallery_49 (fun H locs hP hD hS => ?_)
      refine zs_0 (y := (a0, .inr (7, [.ref a0_0, .ref a0_1, a0g_2, a0g_3, .ref a0_4, .ref a0_5, a0g_6, .ref a0_7, .int a0_8, .int v26na0_1, .int v26na0_2]))) hP hD rfl (fun hP hD => ?_)
      refine lv_iload_n hx hb dX7_gallery_52 rfl (lv_at hl 0 rfl) ?_
      refine lv_if_ne (tgt := 62) hx hb dX7_gallery_53 (by decide) (fun c53 => absurd (by decide +kernel) c53) (fun _ => ?_)
      refine lv_aload_n hx hb dX7_gallery_56 rfl (lv_at hl 1 rfl) ?_
      refine lv_iconst (v := 4) hx hb dX7_gallery_57 zk_iconst_4 ?_
      refine va_calli (va_runV (As := [.int 4]) (rest := []) ⟨hx, hb, hml, hown, hts⟩ (f_X7_refused l dC dI H.size a0 4 (.ref a0_0) (.ref a0_1) a0g_2 a0g_3 (.ref a0_4) (.ref a0_5) a0g_6 (.ref a0_7) (.int v26na0_1) (.int v26na0_2) a0_8 ) (cwV 1 hts gX7_gallery_X7_refused rfl rfl rfl zd_X7_refused ⟨Nat.le_of_ble_eq_true rfl, Nat.le_of_ble_eq_true rfl⟩) ⟨ax_blind (fun _ _ _ _ _ => trivial), zr_7 (zp_K hK) (zp_P1 hP) (q0 := 0) rfl, ax_pre (zp_P1 hP) (zp_K hK) (zp_D1 hD) (fun _ _ => trivial)⟩ rfl rfl hl.1 rfl (lv_room (Nat.le_of_ble_eq_true rfl)) dX7_gallery_58 ⟨Nat.le_of_ble_eq_true rfl, Nat.le_of_ble_eq_true rfl⟩) hS (fun q _ h => zp_F1 hD hS hA q h) (zp_F1 hD hS hA) (fun r58 u t H locs ht hvm hw => zx_1 (fun v58na0_8 => zy_1 (fun hraw58_0 hB hz1 hk1 hS1 => zo1 hB ht hP hD hk1 (zp_F1 hD hS hA) hS1 (fun hP hK1 hD hS => ?_))))
      obtain ⟨hw, hfr58⟩ := hw
      rw [show (4 : Int32).toInt = 4 from by decide] at hfr58 hraw58_0
      have hc58 : Ff_X7_refused 4 = (r58.toInt, v58na0_8.toInt) := Prod.ext hfr58.symm hraw58_0
      have hF0 := hF0.trans (fl_c2_eq hc58)
      have hw : r58 = (-1) := hw
      have hw := hw.symm
      subst hw
      have hFe : FX = ((-1), v58na0_8.toInt, v26na0_1.toInt, v26na0_2.toInt, 0, v26na0_1.toInt, v26na0_2.toInt, v26na0_6.toInt, v26na0_7.toInt, v26na0_8.toInt, v26na0_9.toInt, v26na0_10.toInt, v26na0_11.toInt, v26na0_12.toInt, v26na0_13.toInt, v26na0_5_0.toInt, v26na0_5_1.toInt, v26na0_5_2.toInt, v26na0_5_3.toInt, v26na0_5_4.toInt, v26na0_5_5.toInt, v26na0_5_6.toInt, v26na0_5_7.toInt, v26na0_5_8.toInt, v26na0_5_9.toInt, v26na0_5_14_0.toInt, (fl_A v26nfa0_5_10), (fl_A v26nfa0_5_11), (fl_L v26nfa0_4), (fl_A v26nfa0_5_14_2), (fl_A v26nfa0_5_14_3), (fl_A v26nfa0_5_13), (fl_A v26nfa0_5_12), a0_1_0.toInt, a0_1_1.toInt, a0_1_2.toInt, a0_1_3.toInt, a0_1_4.toInt, (fl_A fa0_1_5), (fl_A fa0_1_6), a0_4_0.toInt, a0_4_1.toInt, a0_5_5.toInt, a0_5_6.toInt, 1) := hF0
      exact W.iret (v := (-1)) hx hb hr (fun t ht hW => ⟨⟨(-1), (), rfl, ⟨⟨zq70, (Int.le_trans zq71 zq77)⟩, (congrArg Prod.fst hFe).symm⟩, a0_7, v58na0_8, v26na0_1, v26na0_2, 0, v26na0_1, v26na0_2, a0_0_5, v26na0_6, v26na0_7, v26na0_8, v26na0_9, v26na0_10, v26na0_11, v26na0_12, v26na0_13, v26na0_5_0, v26na0_5_1, v26na0_5_2, v26na0_5_3, v26na0_5_4, v26na0_5_5, v26na0_5_6, v26na0_5_7, v26na0_5_8, v26na0_5_9, v26na0_5_14_0, v26nfa0_5_10, v26nfa0_5_11, v26nfa0_4, v26nfa0_5_14_2, v26nfa0_5_14_3, v26nfa0_5_13, v26nfa0_5_12, a0_1_0, a0_1_1, a0_1_2, a0_1_3, a0_1_4, fa0_1_5, fa0_1_6, a0_4_0, a0_4_1, a0_5_5, a0_5_6, ⟨zq5, Int.le_trans zq6 (by decide)⟩, ⟨bv26na0_6.1, bv26na0_6.2⟩, ⟨bv26na0_7.1, bv26na0_7.2⟩, ⟨bv26na0_8.1, bv26na0_8.2⟩, ⟨bv26na0_9.1, bv26na0_9.2⟩, ⟨bv26na0_10.1, bv26na0_10.2⟩, ⟨bv26na0_5_0.1, bv26na0_5_0.2⟩, ⟨bv26na0_5_4.1, bv26na0_5_4.2⟩, ⟨bv26na0_5_5.1, bv26na0_5_5.2⟩, ⟨bv26na0_5_6.1, bv26na0_5_6.2⟩, ⟨bv26na0_5_7.1, bv26na0_5_7.2⟩, ⟨bv26na0_5_9.1, bv26na0_5_9.2⟩, ⟨bv26na0_5_14_0.1, bv26na0_5_14_0.2⟩, ⟨ba0_1_1_l, ba0_1_1_u⟩, ⟨ba0_4_0_l, ba0_4_0_u⟩, ⟨ba0_4_1_l, ba0_4_1_u⟩, ⟨ba0_5_5_l, ba0_5_5_u⟩, ⟨ba0_5_6_l, ba0_5_6_u⟩, bv26nfa0_5_14_2, bv26nfa0_5_14_3, bv26nfa0_5_13, (by have h0 : (0 : Int32).toInt = 0 := (by decide); constructor <;> intro h9 <;> omega), (Or.inr (⟨rfl, rfl⟩)), (Or.inr (⟨rfl, rfl, congrArg Prod.snd hFe⟩)), by rw [ht]; exact hP, va_K.moved hW.alike hK, hD⟩, hS.F ht⟩) hS.2.2 dX7_gallery_61
  · obtain ⟨hw, h9⟩ := hw
    subst hw
    have hF0 := hF0.trans (if_neg (by decide))
    refine lv_if_ne (tgt := 21) hx hb dX7_gallery_12 (by decide) (fun c12 => absurd (by decide +kernel) c12) (fun _ => ?_)
    refine lv_aload_n hx hb dX7_gallery_15 rfl (lv_at hl 0 rfl) ?_
    refine lv_iconst (v := 2) hx hb dX7_gallery_16 zk_iconst_2 ?_
    refine va_calli (va_runV (As := [.int 2]) (rest := []) ⟨hx, hb, hml, hown, hts⟩ (f_X7_refused l dC dI H.size a0 2 (.ref a0_0) (.ref a0_1) a0g_2 a0g_3 (.ref a0_4) (.ref a0_5) a0g_6 (.ref a0_7) (.int a0_9) (.int a0_10) a0_8 ) (cwV 1 hts gX7_gallery_X7_refused rfl rfl rfl zd_X7_refused ⟨Nat.le_of_ble_eq_true rfl, Nat.le_of_ble_eq_true rfl⟩) ⟨ax_blind (fun _ _ _ _ _ => trivial), zr_7 (zp_K hK) (zp_P1 hP) (q0 := 0) rfl, ax_pre (zp_P1 hP) (zp_K hK) (zp_D1 hD) (fun _ _ => trivial)⟩ rfl rfl hl.1 rfl (lv_room (Nat.le_of_ble_eq_true rfl)) dX7_gallery_17 ⟨Nat.le_of_ble_eq_true rfl, Nat.le_of_ble_eq_true rfl⟩) hS (fun q _ h => zp_F1 hD hS hA q h) (zp_F1 hD hS hA) (fun r17 u t H locs ht hvm hw => zx_1 (fun v17na0_8 => zy_1 (fun hraw17_0 hB hz1 hk1 hS1 => zo1 hB ht hP hD hk1 (zp_F1 hD hS hA) hS1 (fun hP hK1 hD hS => ?_))))
    obtain ⟨hw, hfr17⟩ := hw
    rw [show (2 : Int32).toInt = 2 from by decide] at hfr17 hraw17_0
    have hc17 : Ff_X7_refused 2 = (r17.toInt, v17na0_8.toInt) := Prod.ext hfr17.symm hraw17_0
    have hF0 := hF0.trans (fl_c2_eq hc17)
    have hw : r17 = (-1) := hw
    have hw := hw.symm
    subst hw
    have hFe : FX = ((-1), v17na0_8.toInt, a0_9.toInt, a0_10.toInt, a0_0_0.toInt, a0_0_1.toInt, a0_0_2.toInt, a0_0_6.toInt, a0_0_7.toInt, a0_0_8.toInt, a0_0_9.toInt, a0_0_10.toInt, a0_0_11.toInt, a0_0_12.toInt, a0_0_13.toInt, a0_0_5_0.toInt, a0_0_5_1.toInt, a0_0_5_2.toInt, a0_0_5_3.toInt, a0_0_5_4.toInt, a0_0_5_5.toInt, a0_0_5_6.toInt, a0_0_5_7.toInt, a0_0_5_8.toInt, a0_0_5_9.toInt, a0_0_5_14_0.toInt, (fl_A fa0_0_5_10), (fl_A fa0_0_5_11), (fl_L fa0_0_4), (fl_A fa0_0_5_14_2), (fl_A fa0_0_5_14_3), (fl_A fa0_0_5_13), (fl_A fa0_0_5_12), a0_1_0.toInt, a0_1_1.toInt, a0_1_2.toInt, a0_1_3.toInt, a0_1_4.toInt, (fl_A fa0_1_5), (fl_A fa0_1_6), a0_4_0.toInt, a0_4_1.toInt, a0_5_5.toInt, a0_5_6.toInt, 1) := hF0
    exact W.iret (v := (-1)) hx hb hr (fun t ht hW => ⟨⟨(-1), (), rfl, ⟨⟨zq70, (Int.le_trans zq71 zq77)⟩, (congrArg Prod.fst hFe).symm⟩, a0_7, v17na0_8, a0_9, a0_10, a0_0_0, a0_0_1, a0_0_2, a0_0_5, a0_0_6, a0_0_7, a0_0_8, a0_0_9, a0_0_10, a0_0_11, a0_0_12, a0_0_13, a0_0_5_0, a0_0_5_1, a0_0_5_2, a0_0_5_3, a0_0_5_4, a0_0_5_5, a0_0_5_6, a0_0_5_7, a0_0_5_8, a0_0_5_9, a0_0_5_14_0, fa0_0_5_10, fa0_0_5_11, fa0_0_4, fa0_0_5_14_2, fa0_0_5_14_3, fa0_0_5_13, fa0_0_5_12, a0_1_0, a0_1_1, a0_1_2, a0_1_3, a0_1_4, fa0_1_5, fa0_1_6, a0_4_0, a0_4_1, a0_5_5, a0_5_6, ⟨ba0_0_0_l, ba0_0_0_u⟩, ⟨ba0_0_6_l, ba0_0_6_u⟩, ⟨ba0_0_7_l, ba0_0_7_u⟩, ⟨ba0_0_8_l, ba0_0_8_u⟩, ⟨ba0_0_9_l, ba0_0_9_u⟩, ⟨ba0_0_10_l, ba0_0_10_u⟩, ⟨ba0_0_5_0_l, ba0_0_5_0_u⟩, ⟨ba0_0_5_4_l, ba0_0_5_4_u⟩, ⟨ba0_0_5_5_l, ba0_0_5_5_u⟩, ⟨ba0_0_5_6_l, ba0_0_5_6_u⟩, ⟨ba0_0_5_7_l, ba0_0_5_7_u⟩, ⟨ba0_0_5_9_l, ba0_0_5_9_u⟩, ⟨ba0_0_5_14_0_l, ba0_0_5_14_0_u⟩, ⟨ba0_1_1_l, ba0_1_1_u⟩, ⟨ba0_4_0_l, ba0_4_0_u⟩, ⟨ba0_4_1_l, ba0_4_1_u⟩, ⟨ba0_5_5_l, ba0_5_5_u⟩, ⟨ba0_5_6_l, ba0_5_6_u⟩, bfa0_0_5_14_2, bfa0_0_5_14_3, bfa0_0_5_13, (by have h0 : (0 : Int32).toInt = 0 := (by decide); constructor <;> intro h9 <;> omega), (Or.inr (⟨rfl, rfl⟩)), (Or.inr (⟨rfl, rfl, congrArg Prod.snd hFe⟩)), by rw [ht]; exact hP, va_K.moved hW.alike hK, hD⟩, hS.F ht⟩) hS.2.2 dX7_gallery_20
end P313_00_f
section P313_01_f
set_option maxHeartbeats 4000000 in
set_option maxRecDepth 100000 in
theorem f_X3_appendX (l : Launch) (dC : Nat → ClassId) (dI : Nat → Nat → Nat) (sz : Nat) (a0 : Nat) (a1 : Int32) (a0_0 : Int32) (a0g_1 a0g_2 a0g_4 a0g_5 a0g_6 a0g_7 a0g_8 a0g_9 a0g_10 a0g_11 a0g_12 a0g_13 : Value) (a0_3 : Nat) (ka0_3 : ClassId) (fa0_3 : Nat → Int32) (ba0_0_l : (0 : Int) ≤ a0_0.toInt) (ba0_0_u : a0_0.toInt ≤ (896 : Int)) : zm l yX3_append wsX3_append ({ frames := 0, cells := 0, slots := 0, locals := 0 }) [.ref a0, .int a1] dC dI sz [(a0, .inr (3, [.int a0_0, a0g_1, a0g_2, .ref a0_3, a0g_4, a0g_5, a0g_6, a0g_7, a0g_8, a0g_9, a0g_10, a0g_11, a0g_12, a0g_13])), (a0_3, .inl (ka0_3, 900, .inl (fa0_3)))] [(ka0_3, .byte)] (fun A _ => True) (fun A => va_Qv (fun (_ : Unit) => True) (fun (_ : Unit) (t : State) => ∃ na0_0 : Int32, ∃ nfa0_3 : Nat → Int32, ((0 : Int) ≤ na0_0.toInt ∧ na0_0.toInt ≤ 900) ∧ na0_0.toInt = a0_0.toInt + 4 ∧ (Ff_X3_appendX a1.toInt a0_0.toInt (fl_A fa0_3) = (na0_0.toInt, (fl_A nfa0_3))) ∧ ax_B dC dI A [(a0, .inr (3, [.int na0_0, a0g_1, a0g_2, .ref a0_3, a0g_4, a0g_5, a0g_6, a0g_7, a0g_8, a0g_9, a0g_10, a0g_11, a0g_12, a0g_13])), (a0_3, .inl (ka0_3, 900, .inl (nfa0_3)))] [(ka0_3, .byte)] t) A) := by
  refine zh (cc := cX3_append) (maxL := 3) (ret := none) zn_RX3 rfl (Nat.le_of_ble_eq_true rfl) (fun p e s m below meth c A ls hx hb hml hr hts (hown : s.vm.findClass RX3 = some m.cls) hlocks hA hS hP hK hD hE (hl : lv_has ls 3 [(0, .ref a0), (1, .int a1)]) => ?_)
  generalize hFX : Ff_X3_appendX a1.toInt a0_0.toInt (fl_A fa0_3) = FX at ⊢
  have hF0 := hFX.symm.trans (Ff_X3_appendX.eq_1 a1.toInt a0_0.toInt (fl_A fa0_3))
  refine lv_bipush (v := 24) hx hb dX3_append_0 zk_bipush_24 ?_
  refine lv_istore_n (lv' := [(2, .int 24), (0, .ref a0), (1, .int a1)]) hx hb dX3_append_2 rfl hl (by decide) rfl (fun ls hl => ?_)
  refine lv_iload_n hx hb dX3_append_3 rfl (lv_at hl 0 rfl) ?_
  refine lv_if_lt (tgt := 46) hx hb dX3_append_4 (by decide) (fun c4 => absurd c4 (by decide +kernel)) (fun _ => ?_)
  refine lv_aload_n hx hb dX3_append_7 rfl (lv_at hl 1 rfl) ?_
  refine va_get (D := (dC, dI)) (ci := 3) (v := .int a0_0) (C := RX3) (T := TX3) (N := 14) hx hb hts zi_X3_append_3 hown hK hP 0 rfl rfl 0 (by decide) (hts (.fieldLink RX3 26 "WaxTurns$Reade\x72" "tapeSize" "I") (List.mem_cons_of_mem _ (List.mem_append_left _ (List.mem_of_getElem? (i := 0) rfl)))) (fun _ h9 => h9) rfl dX3_append_8 ?_
  refine lv_sipush (v := 900) hx hb dX3_append_11 zk_sipush_900 ?_
  refine lv_icmp_ge (tgt := 46) hx hb dX3_append_14 (by decide) (fun c14 => ?_) (fun c14 => ?_)
  · have gc14 := ai_le c14
    have l14t_a0_0 : (900 : Int) ≤ a0_0.toInt := Int.le_trans zq37 gc14
    exact absurd (Int.le_trans l14t_a0_0 ba0_0_u) (by decide)
  · have gc14 := ai_nle c14
    have u14f_a0_0 : a0_0.toInt ≤ (896 : Int) := ba0_0_u
    have hF0 := hF0.trans (if_neg (show ¬ (900 ≤ a0_0.toInt) from Int.not_le.mpr gc14))
    refine lv_aload_n hx hb dX3_append_17 rfl (lv_at hl 1 rfl) ?_
    refine va_get (D := (dC, dI)) (ci := 3) (v := .ref a0_3) (C := RX3) (T := TX3) (N := 14) hx hb hts zi_X3_append_3 hown hK hP 0 rfl rfl 3 (by decide) (hts (.fieldLink RX3 9 "WaxTurns$Reade\x72" "tape" "[B") (List.mem_cons_of_mem _ (List.mem_append_left _ (List.mem_of_getElem? (i := 1) rfl)))) (fun _ h9 => h9) rfl dX3_append_18 ?_
    refine lv_aload_n hx hb dX3_append_21 rfl (lv_at hl 1 rfl) ?_
    refine va_get (D := (dC, dI)) (ci := 3) (v := .int a0_0) (C := RX3) (T := TX3) (N := 14) hx hb hts zi_X3_append_3 hown hK hP 0 rfl rfl 0 (by decide) (hts (.fieldLink RX3 26 "WaxTurns$Reade\x72" "tapeSize" "I") (List.mem_cons_of_mem _ (List.mem_append_left _ (List.mem_of_getElem? (i := 0) rfl)))) (fun _ h9 => h9) rfl dX3_append_22 ?_
    refine lv_iload_n hx hb dX3_append_25 rfl (lv_at hl 2 rfl) ?_
    refine lv_iload_n hx hb dX3_append_26 rfl (lv_at hl 0 rfl) ?_
    refine lv_ishr hx hb dX3_append_27 ?_
    refine lv_topi (fun x27 ex27 => ?_)
    have fqx27 := fl_shr_eq ex27
    have hF0 := hF0.trans (fl_lt_eq (show x27.toInt = fl_shr a1.toInt 24 from fqx27))
    obtain ⟨x28, ex28⟩ : ∃ y : Int32, y = (x27).toInt8.toInt32 := ⟨_, rfl⟩
    refine lv_i2b (v := x28) hx hb dX3_append_28 ex28.symm ?_
    have fqx28 := fl_i2b_eq ex28
    have hF0 := hF0.trans (fl_lt_eq (show x28.toInt = fl_i2b x27.toInt from fqx28))
    refine va_bast hx hb hK hP hD hS 1 0 rfl rfl (ai_in ba0_0_l u14f_a0_0 (by decide) (by decide)) dX3_append_29 (fun H locs hP hD hS => ?_)
    obtain ⟨f29, ef29⟩ : ∃ g9 : Nat → Int32, g9 = upd fa0_3 (a0_0 : Int32).toNatClampNeg (vp_nar .byte x28) := ⟨_, rfl⟩
    refine zs_1 (y := (a0_3, .inl (ka0_3, 900, .inl (f29)))) hP hD (by rw [ef29]) (fun hP hD => ?_)
    have fqf29 := fl_upB_eq ef29
    have hF0 := hF0.trans (fl_lt_eq (show (fl_A f29) = fl_upB (fl_A fa0_3) (a0_0.toInt.toNat) x28.toInt from fqf29))
    refine lv_aload_n hx hb dX3_append_30 rfl (lv_at hl 1 rfl) ?_
    refine lv_dup hx hb dX3_append_31 rfl ?_
    refine va_get (D := (dC, dI)) (ci := 3) (v := .int a0_0) (C := RX3) (T := TX3) (N := 14) hx hb hts zi_X3_append_3 hown hK hP 0 rfl rfl 0 (by decide) (hts (.fieldLink RX3 26 "WaxTurns$Reade\x72" "tapeSize" "I") (List.mem_cons_of_mem _ (List.mem_append_left _ (List.mem_of_getElem? (i := 0) rfl)))) (fun _ h9 => h9) rfl dX3_append_32 ?_
    refine lv_iconst (v := 1) hx hb dX3_append_35 zk_iconst_1 ?_
    refine lv_iadd hx hb dX3_append_36 ?_
    refine lv_topi (fun x36 ex36 => ?_)
    have qx36 : x36.toInt = a0_0.toInt + (1 : Int32).toInt := ai_add ex36 ⟨ba0_0_l, u14f_a0_0⟩ ⟨zq1, zq0⟩ (by decide) (by decide)
    have bx36 : (1 : Int) ≤ x36.toInt ∧ x36.toInt ≤ 897 := ⟨by rw [qx36]; exact Int.add_le_add ba0_0_l zq1, by rw [qx36]; exact Int.add_le_add u14f_a0_0 zq0⟩
    have wx36 : x36.toInt = a0_0.toInt + 1 := qx36
    have hF0 := hF0.trans (fl_lt_eq (show x36.toInt = a0_0.toInt + 1 from qx36))
    refine va_put (D := (dC, dI)) (ci := 3) (v := .int x36) (ty := .int) (C := RX3) (T := TX3) (N := 14) hx hb hts zi_X3_append_3 tyX3 tyX3_ok nmX3 hown hK hP hD hS 0 rfl rfl 0 (by decide) (hts (.fieldLink RX3 26 "WaxTurns$Reade\x72" "tapeSize" "I") (List.mem_cons_of_mem _ (List.mem_append_left _ (List.mem_of_getElem? (i := 0) rfl)))) (fun _ h9 => h9) rfl (tyX3_ok 0 (by decide)) rfl rfl (Nat.le_of_ble_eq_true rfl) dX3_append_37 (fun H locs hP hD hS => ?_)
    refine zs_0 (y := (a0, .inr (3, [.int x36, a0g_1, a0g_2, .ref a0_3, a0g_4, a0g_5, a0g_6, a0g_7, a0g_8, a0g_9, a0g_10, a0g_11, a0g_12, a0g_13]))) hP hD rfl (fun hP hD => ?_)
    refine lv_iinc (v := 16) (lv' := [(2, .int 16), (0, .ref a0), (1, .int a1)]) hx hb dX3_append_40 hl (k := 0) rfl (by decide +kernel) (by decide) rfl (fun ls hl => ?_)
    refine lv_goto (tgt := 3) hx hb dX3_append_43 (by decide) ?_
    refine lv_iload_n hx hb dX3_append_3 rfl (lv_at hl 0 rfl) ?_
    refine lv_if_lt (tgt := 46) hx hb dX3_append_4 (by decide) (fun c4 => absurd c4 (by decide +kernel)) (fun _ => ?_)
    refine lv_aload_n hx hb dX3_append_7 rfl (lv_at hl 1 rfl) ?_
    refine va_get (D := (dC, dI)) (ci := 3) (v := .int x36) (C := RX3) (T := TX3) (N := 14) hx hb hts zi_X3_append_3 hown hK hP 0 rfl rfl 0 (by decide) (hts (.fieldLink RX3 26 "WaxTurns$Reade\x72" "tapeSize" "I") (List.mem_cons_of_mem _ (List.mem_append_left _ (List.mem_of_getElem? (i := 0) rfl)))) (fun _ h9 => h9) rfl dX3_append_8 ?_
    refine lv_sipush (v := 900) hx hb dX3_append_11 zk_sipush_900 ?_
    refine lv_icmp_ge (tgt := 46) hx hb dX3_append_14 (by decide) (fun c14 => ?_) (fun c14 => ?_)
    · have gc14 := ai_le c14
      have l14t_x36 : (900 : Int) ≤ x36.toInt := Int.le_trans zq37 gc14
      have l14t_a0_0 : (899 : Int) ≤ a0_0.toInt := by have h1 := wx36; have h2 := l14t_x36; omega
      exact absurd (Int.le_trans l14t_x36 bx36.2) (by decide)
    · have gc14 := ai_nle c14
      have u14f_x36 : x36.toInt ≤ (897 : Int) := bx36.2
      have hF0 := hF0.trans (if_neg (show ¬ (900 ≤ x36.toInt) from Int.not_le.mpr gc14))
      refine lv_aload_n hx hb dX3_append_17 rfl (lv_at hl 1 rfl) ?_
      refine va_get (D := (dC, dI)) (ci := 3) (v := .ref a0_3) (C := RX3) (T := TX3) (N := 14) hx hb hts zi_X3_append_3 hown hK hP 0 rfl rfl 3 (by decide) (hts (.fieldLink RX3 9 "WaxTurns$Reade\x72" "tape" "[B") (List.mem_cons_of_mem _ (List.mem_append_left _ (List.mem_of_getElem? (i := 1) rfl)))) (fun _ h9 => h9) rfl dX3_append_18 ?_
      refine lv_aload_n hx hb dX3_append_21 rfl (lv_at hl 1 rfl) ?_
      refine va_get (D := (dC, dI)) (ci := 3) (v := .int x36) (C := RX3) (T := TX3) (N := 14) hx hb hts zi_X3_append_3 hown hK hP 0 rfl rfl 0 (by decide) (hts (.fieldLink RX3 26 "WaxTurns$Reade\x72" "tapeSize" "I") (List.mem_cons_of_mem _ (List.mem_append_left _ (List.mem_of_getElem? (i := 0) rfl)))) (fun _ h9 => h9) rfl dX3_append_22 ?_
      refine lv_iload_n hx hb dX3_append_25 rfl (lv_at hl 2 rfl) ?_
      refine lv_iload_n hx hb dX3_append_26 rfl (lv_at hl 0 rfl) ?_
      refine lv_ishr hx hb dX3_append_27 ?_
      refine lv_topi (fun x27v2 ex27v2 => ?_)
      have fqx27v2 := fl_shr_eq ex27v2
      have hF0 := hF0.trans (fl_lt_eq (show x27v2.toInt = fl_shr a1.toInt 16 from fqx27v2))
      obtain ⟨x28v2, ex28v2⟩ : ∃ y : Int32, y = (x27v2).toInt8.toInt32 := ⟨_, rfl⟩
      refine lv_i2b (v := x28v2) hx hb dX3_append_28 ex28v2.symm ?_
      have fqx28v2 := fl_i2b_eq ex28v2
      have hF0 := hF0.trans (fl_lt_eq (show x28v2.toInt = fl_i2b x27v2.toInt from fqx28v2))
      refine va_bast hx hb hK hP hD hS 1 0 rfl rfl (ai_in bx36.1 u14f_x36 (by decide) (by decide)) dX3_append_29 (fun H locs hP hD hS => ?_)
      obtain ⟨f29v2, ef29v2⟩ : ∃ g9 : Nat → Int32, g9 = upd f29 (x36 : Int32).toNatClampNeg (vp_nar .byte x28v2) := ⟨_, rfl⟩
      refine zs_1 (y := (a0_3, .inl (ka0_3, 900, .inl (f29v2)))) hP hD (by rw [ef29v2]) (fun hP hD => ?_)
      have fqf29v2 := fl_upB_eq ef29v2
      have hF0 := hF0.trans (fl_lt_eq (show (fl_A f29v2) = fl_upB (fl_A f29) (x36.toInt.toNat) x28v2.toInt from fqf29v2))
      refine lv_aload_n hx hb dX3_append_30 rfl (lv_at hl 1 rfl) ?_
      refine lv_dup hx hb dX3_append_31 rfl ?_
      refine va_get (D := (dC, dI)) (ci := 3) (v := .int x36) (C := RX3) (T := TX3) (N := 14) hx hb hts zi_X3_append_3 hown hK hP 0 rfl rfl 0 (by decide) (hts (.fieldLink RX3 26 "WaxTurns$Reade\x72" "tapeSize" "I") (List.mem_cons_of_mem _ (List.mem_append_left _ (List.mem_of_getElem? (i := 0) rfl)))) (fun _ h9 => h9) rfl dX3_append_32 ?_
      refine lv_iconst (v := 1) hx hb dX3_append_35 zk_iconst_1 ?_
      refine lv_iadd hx hb dX3_append_36 ?_
      refine lv_topi (fun x36v2 ex36v2 => ?_)
      have qx36v2 : x36v2.toInt = x36.toInt + (1 : Int32).toInt := ai_add ex36v2 ⟨bx36.1, u14f_x36⟩ ⟨zq1, zq0⟩ (by decide) (by decide)
      have bx36v2 : (2 : Int) ≤ x36v2.toInt ∧ x36v2.toInt ≤ 898 := ⟨by rw [qx36v2]; exact Int.add_le_add bx36.1 zq1, by rw [qx36v2]; exact Int.add_le_add u14f_x36 zq0⟩
      have wx36v2 : x36v2.toInt = x36.toInt + 1 := qx36v2
      have hF0 := hF0.trans (fl_lt_eq (show x36v2.toInt = x36.toInt + 1 from qx36v2))
      refine va_put (D := (dC, dI)) (ci := 3) (v := .int x36v2) (ty := .int) (C := RX3) (T := TX3) (N := 14) hx hb hts zi_X3_append_3 tyX3 tyX3_ok nmX3 hown hK hP hD hS 0 rfl rfl 0 (by decide) (hts (.fieldLink RX3 26 "WaxTurns$Reade\x72" "tapeSize" "I") (List.mem_cons_of_mem _ (List.mem_append_left _ (List.mem_of_getElem? (i := 0) rfl)))) (fun _ h9 => h9) rfl (tyX3_ok 0 (by decide)) rfl rfl (Nat.le_of_ble_eq_true rfl) dX3_append_37 (fun H locs hP hD hS => ?_)
      refine zs_0 (y := (a0, .inr (3, [.int x36v2, a0g_1, a0g_2, .ref a0_3, a0g_4, a0g_5, a0g_6, a0g_7, a0g_8, a0g_9, a0g_10, a0g_11, a0g_12, a0g_13]))) hP hD rfl (fun hP hD => ?_)
      refine lv_iinc (v := 8) (lv' := [(2, .int 8), (0, .ref a0), (1, .int a1)]) hx hb dX3_append_40 hl (k := 0) rfl (by decide +kernel) (by decide) rfl (fun ls hl => ?_)
      refine lv_goto (tgt := 3) hx hb dX3_append_43 (by decide) ?_
      refine lv_iload_n hx hb dX3_append_3 rfl (lv_at hl 0 rfl) ?_
      refine lv_if_lt (tgt := 46) hx hb dX3_append_4 (by decide) (fun c4 => absurd c4 (by decide +kernel)) (fun _ => ?_)
      refine lv_aload_n hx hb dX3_append_7 rfl (lv_at hl 1 rfl) ?_
      refine va_get (D := (dC, dI)) (ci := 3) (v := .int x36v2) (C := RX3) (T := TX3) (N := 14) hx hb hts zi_X3_append_3 hown hK hP 0 rfl rfl 0 (by decide) (hts (.fieldLink RX3 26 "WaxTurns$Reade\x72" "tapeSize" "I") (List.mem_cons_of_mem _ (List.mem_append_left _ (List.mem_of_getElem? (i := 0) rfl)))) (fun _ h9 => h9) rfl dX3_append_8 ?_
      refine lv_sipush (v := 900) hx hb dX3_append_11 zk_sipush_900 ?_
      refine lv_icmp_ge (tgt := 46) hx hb dX3_append_14 (by decide) (fun c14 => ?_) (fun c14 => ?_)
      · have gc14 := ai_le c14
        have l14t_x36v2 : (900 : Int) ≤ x36v2.toInt := Int.le_trans zq37 gc14
        have l14t_x36 : (899 : Int) ≤ x36.toInt := by have h1 := wx36v2; have h2 := l14t_x36v2; omega
        have l14t_a0_0 : (898 : Int) ≤ a0_0.toInt := by have h1 := wx36; have h2 := l14t_x36; omega
        exact absurd (Int.le_trans l14t_x36v2 bx36v2.2) (by decide)
      · have gc14 := ai_nle c14
        have u14f_x36v2 : x36v2.toInt ≤ (898 : Int) := bx36v2.2
        have hF0 := hF0.trans (if_neg (show ¬ (900 ≤ x36v2.toInt) from Int.not_le.mpr gc14))
        refine lv_aload_n hx hb dX3_append_17 rfl (lv_at hl 1 rfl) ?_
        refine va_get (D := (dC, dI)) (ci := 3) (v := .ref a0_3) (C := RX3) (T := TX3) (N := 14) hx hb hts zi_X3_append_3 hown hK hP 0 rfl rfl 3 (by decide) (hts (.fieldLink RX3 9 "WaxTurns$Reade\x72" "tape" "[B") (List.mem_cons_of_mem _ (List.mem_append_left _ (List.mem_of_getElem? (i := 1) rfl)))) (fun _ h9 => h9) rfl dX3_append_18 ?_
        refine lv_aload_n hx hb dX3_append_21 rfl (lv_at hl 1 rfl) ?_
        refine va_get (D := (dC, dI)) (ci := 3) (v := .int x36v2) (C := RX3) (T := TX3) (N := 14) hx hb hts zi_X3_append_3 hown hK hP 0 rfl rfl 0 (by decide) (hts (.fieldLink RX3 26 "WaxTurns$Reade\x72" "tapeSize" "I") (List.mem_cons_of_mem _ (List.mem_append_left _ (List.mem_of_getElem? (i := 0) rfl)))) (fun _ h9 => h9) rfl dX3_append_22 ?_
        refine lv_iload_n hx hb dX3_append_25 rfl (lv_at hl 2 rfl) ?_
        refine lv_iload_n hx hb dX3_append_26 rfl (lv_at hl 0 rfl) ?_
        refine lv_ishr hx hb dX3_append_27 ?_
        refine lv_topi (fun x27v3 ex27v3 => ?_)
        have fqx27v3 := fl_shr_eq ex27v3
        have hF0 := hF0.trans (fl_lt_eq (show x27v3.toInt = fl_shr a1.toInt 8 from fqx27v3))
        obtain ⟨x28v3, ex28v3⟩ : ∃ y : Int32, y = (x27v3).toInt8.toInt32 := ⟨_, rfl⟩
        refine lv_i2b (v := x28v3) hx hb dX3_append_28 ex28v3.symm ?_
        have fqx28v3 := fl_i2b_eq ex28v3
        have hF0 := hF0.trans (fl_lt_eq (show x28v3.toInt = fl_i2b x27v3.toInt from fqx28v3))
        refine va_bast hx hb hK hP hD hS 1 0 rfl rfl (ai_in bx36v2.1 u14f_x36v2 (by decide) (by decide)) dX3_append_29 (fun H locs hP hD hS => ?_)
        obtain ⟨f29v3, ef29v3⟩ : ∃ g9 : Nat → Int32, g9 = upd f29v2 (x36v2 : Int32).toNatClampNeg (vp_nar .byte x28v3) := ⟨_, rfl⟩
        refine zs_1 (y := (a0_3, .inl (ka0_3, 900, .inl (f29v3)))) hP hD (by rw [ef29v3]) (fun hP hD => ?_)
        have fqf29v3 := fl_upB_eq ef29v3
        have hF0 := hF0.trans (fl_lt_eq (show (fl_A f29v3) = fl_upB (fl_A f29v2) (x36v2.toInt.toNat) x28v3.toInt from fqf29v3))
        refine lv_aload_n hx hb dX3_append_30 rfl (lv_at hl 1 rfl) ?_
        refine lv_dup hx hb dX3_append_31 rfl ?_
        refine va_get (D := (dC, dI)) (ci := 3) (v := .int x36v2) (C := RX3) (T := TX3) (N := 14) hx hb hts zi_X3_append_3 hown hK hP 0 rfl rfl 0 (by decide) (hts (.fieldLink RX3 26 "WaxTurns$Reade\x72" "tapeSize" "I") (List.mem_cons_of_mem _ (List.mem_append_left _ (List.mem_of_getElem? (i := 0) rfl)))) (fun _ h9 => h9) rfl dX3_append_32 ?_
        refine lv_iconst (v := 1) hx hb dX3_append_35 zk_iconst_1 ?_
        refine lv_iadd hx hb dX3_append_36 ?_
        refine lv_topi (fun x36v3 ex36v3 => ?_)
        have qx36v3 : x36v3.toInt = x36v2.toInt + (1 : Int32).toInt := ai_add ex36v3 ⟨bx36v2.1, u14f_x36v2⟩ ⟨zq1, zq0⟩ (by decide) (by decide)
        have bx36v3 : (3 : Int) ≤ x36v3.toInt ∧ x36v3.toInt ≤ 899 := ⟨by rw [qx36v3]; exact Int.add_le_add bx36v2.1 zq1, by rw [qx36v3]; exact Int.add_le_add u14f_x36v2 zq0⟩
        have wx36v3 : x36v3.toInt = x36v2.toInt + 1 := qx36v3
        have hF0 := hF0.trans (fl_lt_eq (show x36v3.toInt = x36v2.toInt + 1 from qx36v3))
        refine va_put (D := (dC, dI)) (ci := 3) (v := .int x36v3) (ty := .int) (C := RX3) (T := TX3) (N := 14) hx hb hts zi_X3_append_3 tyX3 tyX3_ok nmX3 hown hK hP hD hS 0 rfl rfl 0 (by decide) (hts (.fieldLink RX3 26 "WaxTurns$Reade\x72" "tapeSize" "I") (List.mem_cons_of_mem _ (List.mem_append_left _ (List.mem_of_getElem? (i := 0) rfl)))) (fun _ h9 => h9) rfl (tyX3_ok 0 (by decide)) rfl rfl (Nat.le_of_ble_eq_true rfl) dX3_append_37 (fun H locs hP hD hS => ?_)
        refine zs_0 (y := (a0, .inr (3, [.int x36v3, a0g_1, a0g_2, .ref a0_3, a0g_4, a0g_5, a0g_6, a0g_7, a0g_8, a0g_9, a0g_10, a0g_11, a0g_12, a0g_13]))) hP hD rfl (fun hP hD => ?_)
        refine lv_iinc (v := 0) (lv' := [(2, .int 0), (0, .ref a0), (1, .int a1)]) hx hb dX3_append_40 hl (k := 0) rfl (by decide +kernel) (by decide) rfl (fun ls hl => ?_)
        refine lv_goto (tgt := 3) hx hb dX3_append_43 (by decide) ?_
        refine lv_iload_n hx hb dX3_append_3 rfl (lv_at hl 0 rfl) ?_
        refine lv_if_lt (tgt := 46) hx hb dX3_append_4 (by decide) (fun c4 => absurd c4 (by decide +kernel)) (fun _ => ?_)
        refine lv_aload_n hx hb dX3_append_7 rfl (lv_at hl 1 rfl) ?_
        refine va_get (D := (dC, dI)) (ci := 3) (v := .int x36v3) (C := RX3) (T := TX3) (N := 14) hx hb hts zi_X3_append_3 hown hK hP 0 rfl rfl 0 (by decide) (hts (.fieldLink RX3 26 "WaxTurns$Reade\x72" "tapeSize" "I") (List.mem_cons_of_mem _ (List.mem_append_left _ (List.mem_of_getElem? (i := 0) rfl)))) (fun _ h9 => h9) rfl dX3_append_8 ?_
        refine lv_sipush (v := 900) hx hb dX3_append_11 zk_sipush_900 ?_
        refine lv_icmp_ge (tgt := 46) hx hb dX3_append_14 (by decide) (fun c14 => ?_) (fun c14 => ?_)
        · have gc14 := ai_le c14
          have l14t_x36v3 : (900 : Int) ≤ x36v3.toInt := Int.le_trans zq37 gc14
          have l14t_x36v2 : (899 : Int) ≤ x36v2.toInt := by have h1 := wx36v3; have h2 := l14t_x36v3; omega
          have l14t_x36 : (898 : Int) ≤ x36.toInt := by have h1 := wx36v2; have h2 := l14t_x36v2; omega
          have l14t_a0_0 : (897 : Int) ≤ a0_0.toInt := by have h1 := wx36; have h2 := l14t_x36; omega
          exact absurd (Int.le_trans l14t_x36v3 bx36v3.2) (by decide)
        · have gc14 := ai_nle c14
          have u14f_x36v3 : x36v3.toInt ≤ (899 : Int) := bx36v3.2
          have hF0 := hF0.trans (if_neg (show ¬ (900 ≤ x36v3.toInt) from Int.not_le.mpr gc14))
          refine lv_aload_n hx hb dX3_append_17 rfl (lv_at hl 1 rfl) ?_
          refine va_get (D := (dC, dI)) (ci := 3) (v := .ref a0_3) (C := RX3) (T := TX3) (N := 14) hx hb hts zi_X3_append_3 hown hK hP 0 rfl rfl 3 (by decide) (hts (.fieldLink RX3 9 "WaxTurns$Reade\x72" "tape" "[B") (List.mem_cons_of_mem _ (List.mem_append_left _ (List.mem_of_getElem? (i := 1) rfl)))) (fun _ h9 => h9) rfl dX3_append_18 ?_
          refine lv_aload_n hx hb dX3_append_21 rfl (lv_at hl 1 rfl) ?_
          refine va_get (D := (dC, dI)) (ci := 3) (v := .int x36v3) (C := RX3) (T := TX3) (N := 14) hx hb hts zi_X3_append_3 hown hK hP 0 rfl rfl 0 (by decide) (hts (.fieldLink RX3 26 "WaxTurns$Reade\x72" "tapeSize" "I") (List.mem_cons_of_mem _ (List.mem_append_left _ (List.mem_of_getElem? (i := 0) rfl)))) (fun _ h9 => h9) rfl dX3_append_22 ?_
          refine lv_iload_n hx hb dX3_append_25 rfl (lv_at hl 2 rfl) ?_
          refine lv_iload_n hx hb dX3_append_26 rfl (lv_at hl 0 rfl) ?_
          refine lv_ishr hx hb dX3_append_27 ?_
          refine lv_topi (fun x27v4 ex27v4 => ?_)
          have fqx27v4 := fl_shr_eq ex27v4
          have hF0 := hF0.trans (fl_lt_eq (show x27v4.toInt = fl_shr a1.toInt 0 from fqx27v4))
          obtain ⟨x28v4, ex28v4⟩ : ∃ y : Int32, y = (x27v4).toInt8.toInt32 := ⟨_, rfl⟩
          refine lv_i2b (v := x28v4) hx hb dX3_append_28 ex28v4.symm ?_
          have fqx28v4 := fl_i2b_eq ex28v4
          have hF0 := hF0.trans (fl_lt_eq (show x28v4.toInt = fl_i2b x27v4.toInt from fqx28v4))
          refine va_bast hx hb hK hP hD hS 1 0 rfl rfl (ai_in bx36v3.1 u14f_x36v3 (by decide) (by decide)) dX3_append_29 (fun H locs hP hD hS => ?_)
          obtain ⟨f29v4, ef29v4⟩ : ∃ g9 : Nat → Int32, g9 = upd f29v3 (x36v3 : Int32).toNatClampNeg (vp_nar .byte x28v4) := ⟨_, rfl⟩
          refine zs_1 (y := (a0_3, .inl (ka0_3, 900, .inl (f29v4)))) hP hD (by rw [ef29v4]) (fun hP hD => ?_)
          have fqf29v4 := fl_upB_eq ef29v4
          have hF0 := hF0.trans (fl_lt_eq (show (fl_A f29v4) = fl_upB (fl_A f29v3) (x36v3.toInt.toNat) x28v4.toInt from fqf29v4))
          refine lv_aload_n hx hb dX3_append_30 rfl (lv_at hl 1 rfl) ?_
          refine lv_dup hx hb dX3_append_31 rfl ?_
          refine va_get (D := (dC, dI)) (ci := 3) (v := .int x36v3) (C := RX3) (T := TX3) (N := 14) hx hb hts zi_X3_append_3 hown hK hP 0 rfl rfl 0 (by decide) (hts (.fieldLink RX3 26 "WaxTurns$Reade\x72" "tapeSize" "I") (List.mem_cons_of_mem _ (List.mem_append_left _ (List.mem_of_getElem? (i := 0) rfl)))) (fun _ h9 => h9) rfl dX3_append_32 ?_
          refine lv_iconst (v := 1) hx hb dX3_append_35 zk_iconst_1 ?_
          refine lv_iadd hx hb dX3_append_36 ?_
          refine lv_topi (fun x36v4 ex36v4 => ?_)
          have qx36v4 : x36v4.toInt = x36v3.toInt + (1 : Int32).toInt := ai_add ex36v4 ⟨bx36v3.1, u14f_x36v3⟩ ⟨zq1, zq0⟩ (by decide) (by decide)
          have bx36v4 : (4 : Int) ≤ x36v4.toInt ∧ x36v4.toInt ≤ 900 := ⟨by rw [qx36v4]; exact Int.add_le_add bx36v3.1 zq1, by rw [qx36v4]; exact Int.add_le_add u14f_x36v3 zq0⟩
          have wx36v4 : x36v4.toInt = x36v3.toInt + 1 := qx36v4
          have hF0 := hF0.trans (fl_lt_eq (show x36v4.toInt = x36v3.toInt + 1 from qx36v4))
          refine va_put (D := (dC, dI)) (ci := 3) (v := .int x36v4) (ty := .int) (C := RX3) (T := TX3) (N := 14) hx hb hts zi_X3_append_3 tyX3 tyX3_ok nmX3 hown hK hP hD hS 0 rfl rfl 0 (by decide) (hts (.fieldLink RX3 26 "WaxTurns$Reade\x72" "tapeSize" "I") (List.mem_cons_of_mem _ (List.mem_append_left _ (List.mem_of_getElem? (i := 0) rfl)))) (fun _ h9 => h9) rfl (tyX3_ok 0 (by decide)) rfl rfl (Nat.le_of_ble_eq_true rfl) dX3_append_37 (fun H locs hP hD hS => ?_)
          refine zs_0 (y := (a0, .inr (3, [.int x36v4, a0g_1, a0g_2, .ref a0_3, a0g_4, a0g_5, a0g_6, a0g_7, a0g_8, a0g_9, a0g_10, a0g_11, a0g_12, a0g_13]))) hP hD rfl (fun hP hD => ?_)
          refine lv_iinc (v := (-8)) (lv' := [(2, .int (-8)), (0, .ref a0), (1, .int a1)]) hx hb dX3_append_40 hl (k := 0) rfl (by decide +kernel) (by decide) rfl (fun ls hl => ?_)
          refine lv_goto (tgt := 3) hx hb dX3_append_43 (by decide) ?_
          refine lv_iload_n hx hb dX3_append_3 rfl (lv_at hl 0 rfl) ?_
          refine lv_if_lt (tgt := 46) hx hb dX3_append_4 (by decide) (fun _ => ?_) (fun c4 => absurd (by decide +kernel) c4)
          have hFe : FX = (x36v4.toInt, (fl_A f29v4)) := hF0
          exact W.vret hx hb hr (fun t ht hW => ⟨⟨(), rfl, trivial, x36v4, f29v4, ⟨Int.le_trans (by decide) bx36v4.1, bx36v4.2⟩, (by omega), hFe, by rw [ht]; exact hP, va_K.moved hW.alike hK, hD⟩, hS.F ht⟩) hS.2.2 dX3_append_46

set_option maxHeartbeats 4000000 in
set_option maxRecDepth 100000 in
theorem f_X7_feed (l : Launch) (dC : Nat → ClassId) (dI : Nat → Nat → Nat) (sz : Nat) (a0 : Nat) (a1 : Int32) (a2 : Int32) (a3 : Int32) (a4 : Int32) (a5 : Int32) (a0_0 : Nat) (a0g_1 a0g_2 a0g_3 a0g_4 a0g_5 a0g_6 a0g_7 a0g_8 a0g_9 a0g_10 : Value) (a0_0_0 : Int32) (a0_0g_1 a0_0g_2 a0_0g_4 a0_0g_5 a0_0g_6 a0_0g_7 a0_0g_8 a0_0g_9 a0_0g_10 a0_0g_11 a0_0g_12 a0_0g_13 : Value) (a0_0_3 : Nat) (ka0_0_3 : ClassId) (fa0_0_3 : Nat → Int32) (ba0_0_0_l : (0 : Int) ≤ a0_0_0.toInt) (ba0_0_0_u : a0_0_0.toInt ≤ (900 : Int)) : zm l yX7_feed wsX7_feed ({ frames := 1, cells := 0, slots := 0, locals := 22 }) [.ref a0, .int a1, .int a2, .int a3, .int a4, .int a5] dC dI sz [(a0, .inr (7, [.ref a0_0, a0g_1, a0g_2, a0g_3, a0g_4, a0g_5, a0g_6, a0g_7, a0g_8, a0g_9, a0g_10])), (a0_0, .inr (3, [.int a0_0_0, a0_0g_1, a0_0g_2, .ref a0_0_3, a0_0g_4, a0_0g_5, a0_0g_6, a0_0g_7, a0_0g_8, a0_0g_9, a0_0g_10, a0_0g_11, a0_0g_12, a0_0g_13])), (a0_0_3, .inl (ka0_0_3, 900, .inl (fa0_0_3)))] [(ka0_0_3, .byte)] (fun A _ => True) (fun A => va_Qi (fun (r : Int32) (_ : Unit) => ((r = (-1) ∧ (880 : Int) < a0_0_0.toInt) ∨ (r.toInt = a0_0_0.toInt + 20 ∧ a0_0_0.toInt ≤ (880 : Int))) ∧ r.toInt = (Ff_X7_feed a1.toInt a2.toInt a3.toInt a4.toInt a5.toInt a0_0_0.toInt (fl_A fa0_0_3)).1) (fun (_ : Unit) (t : State) => ∃ na0_0_0 : Int32, ∃ nfa0_0_3 : Nat → Int32, ((0 : Int) ≤ na0_0_0.toInt ∧ na0_0_0.toInt ≤ 900) ∧ ((a0_0_0.toInt ≤ (880 : Int) → na0_0_0.toInt = a0_0_0.toInt + 20) ∧ ((880 : Int) < a0_0_0.toInt → na0_0_0.toInt = a0_0_0.toInt)) ∧ ((Ff_X7_feed a1.toInt a2.toInt a3.toInt a4.toInt a5.toInt a0_0_0.toInt (fl_A fa0_0_3)).2 = (na0_0_0.toInt, (fl_A nfa0_0_3))) ∧ ax_B dC dI A [(a0, .inr (7, [.ref a0_0, a0g_1, a0g_2, a0g_3, a0g_4, a0g_5, a0g_6, a0g_7, a0g_8, a0g_9, a0g_10])), (a0_0, .inr (3, [.int na0_0_0, a0_0g_1, a0_0g_2, .ref a0_0_3, a0_0g_4, a0_0g_5, a0_0g_6, a0_0g_7, a0_0g_8, a0_0g_9, a0_0g_10, a0_0g_11, a0_0g_12, a0_0g_13])), (a0_0_3, .inl (ka0_0_3, 900, .inl (nfa0_0_3)))] [(ka0_0_3, .byte)] t) A) := by
  refine zh (cc := cX7_feed) (maxL := 6) (ret := (some .int)) zn_RX7 rfl (Nat.le_of_ble_eq_true rfl) (fun p e s m below meth c A ls hx hb hml hr hts (hown : s.vm.findClass RX7 = some m.cls) hlocks hA hS hP hK hD hE (hl : lv_has ls 6 [(0, .ref a0), (1, .int a1), (2, .int a2), (3, .int a3), (4, .int a4), (5, .int a5)]) => ?_)
  generalize hFX : Ff_X7_feed a1.toInt a2.toInt a3.toInt a4.toInt a5.toInt a0_0_0.toInt (fl_A fa0_0_3) = FX at ⊢
  have hF0 := hFX.symm.trans (Ff_X7_feed.eq_1 a1.toInt a2.toInt a3.toInt a4.toInt a5.toInt a0_0_0.toInt (fl_A fa0_0_3))
  refine lv_aload_n hx hb dX7_feed_0 rfl (lv_at hl 0 rfl) ?_
  refine va_get (D := (dC, dI)) (ci := 7) (v := .ref a0_0) (C := RX7) (T := TX7) (N := 11) hx hb hts zi_X7_feed_7 hown hK hP 0 rfl rfl 0 (by decide) (hts (.fieldLink RX7 12 "WaxTurns" "reade\x72" "LWaxTurns$Reader;") (List.mem_cons_of_mem _ (List.mem_append_left _ (List.mem_append_left _ (List.mem_of_getElem? (i := 0) rfl))))) (fun _ h9 => h9) rfl dX7_feed_1 ?_
  refine va_get (D := (dC, dI)) (ci := 3) (v := .int a0_0_0) (C := RX3) (T := TX3) (N := 14) hx hb hts zi_X7_feed_3 hown hK hP 1 rfl rfl 0 (by decide) (hts (.fieldLink RX7 71 "WaxTurns$Reade\x72" "tapeSize" "I") (List.mem_cons_of_mem _ (List.mem_append_left _ (List.mem_append_left _ (List.mem_of_getElem? (i := 1) rfl))))) (fun _ h9 => h9) rfl dX7_feed_4 ?_
  refine lv_bipush (v := 20) hx hb dX7_feed_7 zk_bipush_20 ?_
  refine lv_iadd hx hb dX7_feed_9 ?_
  refine lv_topi (fun x9 ex9 => ?_)
  have qx9 : x9.toInt = a0_0_0.toInt + (20 : Int32).toInt := ai_add ex9 ⟨ba0_0_0_l, ba0_0_0_u⟩ ⟨zq153, zq154⟩ (by decide) (by decide)
  have bx9 : (20 : Int) ≤ x9.toInt ∧ x9.toInt ≤ 920 := ⟨by rw [qx9]; exact Int.add_le_add ba0_0_0_l zq153, by rw [qx9]; exact Int.add_le_add ba0_0_0_u zq154⟩
  have wx9 : x9.toInt = a0_0_0.toInt + 20 := qx9
  have hF0 := hF0.trans (fl_lt_eq (show x9.toInt = a0_0_0.toInt + 20 from qx9))
  refine lv_sipush (v := 900) hx hb dX7_feed_10 zk_sipush_900 ?_
  refine lv_icmp_le (tgt := 18) hx hb dX7_feed_13 (by decide) (fun c13 => ?_) (fun c13 => ?_)
  · have gc13 := ai_le c13
    have u13t_x9 : x9.toInt ≤ (900 : Int) := Int.le_trans gc13 zq39
    have u13t_a0_0_0 : a0_0_0.toInt ≤ (880 : Int) := by have h1 := wx9; have h2 := u13t_x9; omega
    have hF0 := hF0.trans (if_pos (show x9.toInt ≤ 900 from gc13))
    refine lv_aload_n hx hb dX7_feed_18 rfl (lv_at hl 0 rfl) ?_
    refine va_get (D := (dC, dI)) (ci := 7) (v := .ref a0_0) (C := RX7) (T := TX7) (N := 11) hx hb hts zi_X7_feed_7 hown hK hP 0 rfl rfl 0 (by decide) (hts (.fieldLink RX7 12 "WaxTurns" "reade\x72" "LWaxTurns$Reader;") (List.mem_cons_of_mem _ (List.mem_append_left _ (List.mem_append_left _ (List.mem_of_getElem? (i := 0) rfl))))) (fun _ h9 => h9) rfl dX7_feed_19 ?_
    refine lv_iload_n hx hb dX7_feed_22 rfl (lv_at hl 1 rfl) ?_
    refine zc_cutc (wc := [(a0_0, .inr (3, [.int a0_0_0, a0_0g_1, a0_0g_2, .ref a0_0_3, a0_0g_4, a0_0g_5, a0_0g_6, a0_0g_7, a0_0g_8, a0_0g_9, a0_0g_10, a0_0g_11, a0_0g_12, a0_0g_13])), (a0_0_3, .inl (ka0_0_3, 900, .inl (fa0_0_3)))]) hP hD hS hA [1, 2] (by decide +kernel) rfl (fun hPc hDc hFc hCc => ?_)
    have hKc := hK.sub (tys' := [(ka0_0_3, .byte)]) [0] rfl
    refine va_callv (va_runV (As := [.int a1]) (rest := []) ⟨hx, hb, hml, hown, hts⟩ (f_X3_appendX l dC dI s.heap.size a0_0 a1 a0_0_0 a0_0g_1 a0_0g_2 a0_0g_4 a0_0g_5 a0_0g_6 a0_0g_7 a0_0g_8 a0_0g_9 a0_0g_10 a0_0g_11 a0_0g_12 a0_0g_13 a0_0_3 ka0_0_3 fa0_0_3 ba0_0_0_l (Int.le_trans u13t_a0_0_0 zq243)) (cwV 1 hts gX7_feed_X3_append rfl rfl rfl zd_X3_append ⟨Nat.le_of_ble_eq_true rfl, Nat.le_of_ble_eq_true rfl⟩) ⟨ax_blind (fun _ _ _ _ _ => trivial), zr_3 hKc hPc (q0 := 0) rfl, ax_pre hPc hKc hDc (fun _ _ => trivial)⟩ rfl rfl hl.1 rfl (lv_room (Nat.le_of_ble_eq_true rfl)) dX7_feed_23 ⟨Nat.le_of_ble_eq_true rfl, Nat.le_of_ble_eq_true rfl⟩) hS (fun q _ h => hFc q h) hFc (fun u t H locs ht hvm hw => zx_2 (fun v23na0_0 v23nfa0_3 => zy_3 (fun bv23na0_0 hraw23_0 hraw23_1 hB hz1 hk1 hS1 => zo hB ht hS1 (fun hP1 hK1 hD1 hS => ?_))))
    refine zc_backc (w := [(a0, .inr (7, [.ref a0_0, a0g_1, a0g_2, a0g_3, a0g_4, a0g_5, a0g_6, a0g_7, a0g_8, a0g_9, a0g_10])), (a0_0, .inr (3, [.int v23na0_0, a0_0g_1, a0_0g_2, .ref a0_0_3, a0_0g_4, a0_0g_5, a0_0g_6, a0_0g_7, a0_0g_8, a0_0g_9, a0_0g_10, a0_0g_11, a0_0g_12, a0_0g_13])), (a0_0_3, .inl (ka0_0_3, 900, .inl (v23nfa0_3)))]) hP hD hCc hk1 hFc hP1 hD1 [.inl 0, .inr 0, .inr 1] (by decide +kernel) rfl (fun hP hD => ?_)
    have hc23 : Ff_X3_appendX a1.toInt a0_0_0.toInt (fl_A fa0_0_3) = (v23na0_0.toInt, (fl_A v23nfa0_3)) := hraw23_1
    have hF0 := hF0.trans (fl_c2_eq hc23)
    have l23z_v23na0_0 : (4 : Int) ≤ v23na0_0.toInt := by have h1 := hraw23_0; have h2 : (0 : Int) ≤ a0_0_0.toInt := ba0_0_0_l; omega
    have u23z_v23na0_0 : v23na0_0.toInt ≤ (884 : Int) := by have h1 := hraw23_0; have h2 : a0_0_0.toInt ≤ (880 : Int) := u13t_a0_0_0; omega
    refine lv_aload_n hx hb dX7_feed_26 rfl (lv_at hl 0 rfl) ?_
    refine va_get (D := (dC, dI)) (ci := 7) (v := .ref a0_0) (C := RX7) (T := TX7) (N := 11) hx hb hts zi_X7_feed_7 hown hK hP 0 rfl rfl 0 (by decide) (hts (.fieldLink RX7 12 "WaxTurns" "reade\x72" "LWaxTurns$Reader;") (List.mem_cons_of_mem _ (List.mem_append_left _ (List.mem_append_left _ (List.mem_of_getElem? (i := 0) rfl))))) (fun _ h9 => h9) rfl dX7_feed_27 ?_
    refine lv_iload_n hx hb dX7_feed_30 rfl (lv_at hl 2 rfl) ?_
    refine zc_cutc (wc := [(a0_0, .inr (3, [.int v23na0_0, a0_0g_1, a0_0g_2, .ref a0_0_3, a0_0g_4, a0_0g_5, a0_0g_6, a0_0g_7, a0_0g_8, a0_0g_9, a0_0g_10, a0_0g_11, a0_0g_12, a0_0g_13])), (a0_0_3, .inl (ka0_0_3, 900, .inl (v23nfa0_3)))]) hP hD hS hA [1, 2] (by decide +kernel) rfl (fun hPc hDc hFc hCc => ?_)
    have hKc := hK.sub (tys' := [(ka0_0_3, .byte)]) [0] rfl
    refine va_callv (va_runV (As := [.int a2]) (rest := []) ⟨hx, hb, hml, hown, hts⟩ (f_X3_appendX l dC dI H.size a0_0 a2 v23na0_0 a0_0g_1 a0_0g_2 a0_0g_4 a0_0g_5 a0_0g_6 a0_0g_7 a0_0g_8 a0_0g_9 a0_0g_10 a0_0g_11 a0_0g_12 a0_0g_13 a0_0_3 ka0_0_3 v23nfa0_3 (Int.le_trans zq101 l23z_v23na0_0) (Int.le_trans u23z_v23na0_0 zq244)) (cwV 1 hts gX7_feed_X3_append rfl rfl rfl zd_X3_append ⟨Nat.le_of_ble_eq_true rfl, Nat.le_of_ble_eq_true rfl⟩) ⟨ax_blind (fun _ _ _ _ _ => trivial), zr_3 hKc hPc (q0 := 0) rfl, ax_pre hPc hKc hDc (fun _ _ => trivial)⟩ rfl rfl hl.1 rfl (lv_room (Nat.le_of_ble_eq_true rfl)) dX7_feed_31 ⟨Nat.le_of_ble_eq_true rfl, Nat.le_of_ble_eq_true rfl⟩) hS (fun q _ h => hFc q h) hFc (fun u t H locs ht hvm hw => zx_2 (fun v31na0_0 v31nfa0_3 => zy_3 (fun bv31na0_0 hraw31_0 hraw31_1 hB hz1 hk1 hS1 => zo hB ht hS1 (fun hP1 hK1 hD1 hS => ?_))))
    refine zc_backc (w := [(a0, .inr (7, [.ref a0_0, a0g_1, a0g_2, a0g_3, a0g_4, a0g_5, a0g_6, a0g_7, a0g_8, a0g_9, a0g_10])), (a0_0, .inr (3, [.int v31na0_0, a0_0g_1, a0_0g_2, .ref a0_0_3, a0_0g_4, a0_0g_5, a0_0g_6, a0_0g_7, a0_0g_8, a0_0g_9, a0_0g_10, a0_0g_11, a0_0g_12, a0_0g_13])), (a0_0_3, .inl (ka0_0_3, 900, .inl (v31nfa0_3)))]) hP hD hCc hk1 hFc hP1 hD1 [.inl 0, .inr 0, .inr 1] (by decide +kernel) rfl (fun hP hD => ?_)
    have hc31 : Ff_X3_appendX a2.toInt v23na0_0.toInt (fl_A v23nfa0_3) = (v31na0_0.toInt, (fl_A v31nfa0_3)) := hraw31_1
    have hF0 := hF0.trans (fl_c2_eq hc31)
    have l31z_v31na0_0 : (8 : Int) ≤ v31na0_0.toInt := by have h1 := hraw31_0; have h2 : (4 : Int) ≤ v23na0_0.toInt := l23z_v23na0_0; omega
    have u31z_v31na0_0 : v31na0_0.toInt ≤ (888 : Int) := by have h1 := hraw31_0; have h2 : v23na0_0.toInt ≤ (884 : Int) := u23z_v23na0_0; omega
    refine lv_aload_n hx hb dX7_feed_34 rfl (lv_at hl 0 rfl) ?_
    refine va_get (D := (dC, dI)) (ci := 7) (v := .ref a0_0) (C := RX7) (T := TX7) (N := 11) hx hb hts zi_X7_feed_7 hown hK hP 0 rfl rfl 0 (by decide) (hts (.fieldLink RX7 12 "WaxTurns" "reade\x72" "LWaxTurns$Reader;") (List.mem_cons_of_mem _ (List.mem_append_left _ (List.mem_append_left _ (List.mem_of_getElem? (i := 0) rfl))))) (fun _ h9 => h9) rfl dX7_feed_35 ?_
    refine lv_iload_n hx hb dX7_feed_38 rfl (lv_at hl 3 rfl) ?_
    refine zc_cutc (wc := [(a0_0, .inr (3, [.int v31na0_0, a0_0g_1, a0_0g_2, .ref a0_0_3, a0_0g_4, a0_0g_5, a0_0g_6, a0_0g_7, a0_0g_8, a0_0g_9, a0_0g_10, a0_0g_11, a0_0g_12, a0_0g_13])), (a0_0_3, .inl (ka0_0_3, 900, .inl (v31nfa0_3)))]) hP hD hS hA [1, 2] (by decide +kernel) rfl (fun hPc hDc hFc hCc => ?_)
    have hKc := hK.sub (tys' := [(ka0_0_3, .byte)]) [0] rfl
    refine va_callv (va_runV (As := [.int a3]) (rest := []) ⟨hx, hb, hml, hown, hts⟩ (f_X3_appendX l dC dI H.size a0_0 a3 v31na0_0 a0_0g_1 a0_0g_2 a0_0g_4 a0_0g_5 a0_0g_6 a0_0g_7 a0_0g_8 a0_0g_9 a0_0g_10 a0_0g_11 a0_0g_12 a0_0g_13 a0_0_3 ka0_0_3 v31nfa0_3 (Int.le_trans zq20 l31z_v31na0_0) (Int.le_trans u31z_v31na0_0 zq245)) (cwV 1 hts gX7_feed_X3_append rfl rfl rfl zd_X3_append ⟨Nat.le_of_ble_eq_true rfl, Nat.le_of_ble_eq_true rfl⟩) ⟨ax_blind (fun _ _ _ _ _ => trivial), zr_3 hKc hPc (q0 := 0) rfl, ax_pre hPc hKc hDc (fun _ _ => trivial)⟩ rfl rfl hl.1 rfl (lv_room (Nat.le_of_ble_eq_true rfl)) dX7_feed_39 ⟨Nat.le_of_ble_eq_true rfl, Nat.le_of_ble_eq_true rfl⟩) hS (fun q _ h => hFc q h) hFc (fun u t H locs ht hvm hw => zx_2 (fun v39na0_0 v39nfa0_3 => zy_3 (fun bv39na0_0 hraw39_0 hraw39_1 hB hz1 hk1 hS1 => zo hB ht hS1 (fun hP1 hK1 hD1 hS => ?_))))
    refine zc_backc (w := [(a0, .inr (7, [.ref a0_0, a0g_1, a0g_2, a0g_3, a0g_4, a0g_5, a0g_6, a0g_7, a0g_8, a0g_9, a0g_10])), (a0_0, .inr (3, [.int v39na0_0, a0_0g_1, a0_0g_2, .ref a0_0_3, a0_0g_4, a0_0g_5, a0_0g_6, a0_0g_7, a0_0g_8, a0_0g_9, a0_0g_10, a0_0g_11, a0_0g_12, a0_0g_13])), (a0_0_3, .inl (ka0_0_3, 900, .inl (v39nfa0_3)))]) hP hD hCc hk1 hFc hP1 hD1 [.inl 0, .inr 0, .inr 1] (by decide +kernel) rfl (fun hP hD => ?_)
    have hc39 : Ff_X3_appendX a3.toInt v31na0_0.toInt (fl_A v31nfa0_3) = (v39na0_0.toInt, (fl_A v39nfa0_3)) := hraw39_1
    have hF0 := hF0.trans (fl_c2_eq hc39)
    have l39z_v39na0_0 : (12 : Int) ≤ v39na0_0.toInt := by have h1 := hraw39_0; have h2 : (8 : Int) ≤ v31na0_0.toInt := l31z_v31na0_0; omega
    have u39z_v39na0_0 : v39na0_0.toInt ≤ (892 : Int) := by have h1 := hraw39_0; have h2 : v31na0_0.toInt ≤ (888 : Int) := u31z_v31na0_0; omega
    refine lv_aload_n hx hb dX7_feed_42 rfl (lv_at hl 0 rfl) ?_
    refine va_get (D := (dC, dI)) (ci := 7) (v := .ref a0_0) (C := RX7) (T := TX7) (N := 11) hx hb hts zi_X7_feed_7 hown hK hP 0 rfl rfl 0 (by decide) (hts (.fieldLink RX7 12 "WaxTurns" "reade\x72" "LWaxTurns$Reader;") (List.mem_cons_of_mem _ (List.mem_append_left _ (List.mem_append_left _ (List.mem_of_getElem? (i := 0) rfl))))) (fun _ h9 => h9) rfl dX7_feed_43 ?_
    refine lv_iload hx hb dX7_feed_46 (lv_at hl 4 rfl) ?_
    refine zc_cutc (wc := [(a0_0, .inr (3, [.int v39na0_0, a0_0g_1, a0_0g_2, .ref a0_0_3, a0_0g_4, a0_0g_5, a0_0g_6, a0_0g_7, a0_0g_8, a0_0g_9, a0_0g_10, a0_0g_11, a0_0g_12, a0_0g_13])), (a0_0_3, .inl (ka0_0_3, 900, .inl (v39nfa0_3)))]) hP hD hS hA [1, 2] (by decide +kernel) rfl (fun hPc hDc hFc hCc => ?_)
    have hKc := hK.sub (tys' := [(ka0_0_3, .byte)]) [0] rfl
    refine va_callv (va_runV (As := [.int a4]) (rest := []) ⟨hx, hb, hml, hown, hts⟩ (f_X3_appendX l dC dI H.size a0_0 a4 v39na0_0 a0_0g_1 a0_0g_2 a0_0g_4 a0_0g_5 a0_0g_6 a0_0g_7 a0_0g_8 a0_0g_9 a0_0g_10 a0_0g_11 a0_0g_12 a0_0g_13 a0_0_3 ka0_0_3 v39nfa0_3 (Int.le_trans zq169 l39z_v39na0_0) (Int.le_trans u39z_v39na0_0 zq246)) (cwV 1 hts gX7_feed_X3_append rfl rfl rfl zd_X3_append ⟨Nat.le_of_ble_eq_true rfl, Nat.le_of_ble_eq_true rfl⟩) ⟨ax_blind (fun _ _ _ _ _ => trivial), zr_3 hKc hPc (q0 := 0) rfl, ax_pre hPc hKc hDc (fun _ _ => trivial)⟩ rfl rfl hl.1 rfl (lv_room (Nat.le_of_ble_eq_true rfl)) dX7_feed_48 ⟨Nat.le_of_ble_eq_true rfl, Nat.le_of_ble_eq_true rfl⟩) hS (fun q _ h => hFc q h) hFc (fun u t H locs ht hvm hw => zx_2 (fun v48na0_0 v48nfa0_3 => zy_3 (fun bv48na0_0 hraw48_0 hraw48_1 hB hz1 hk1 hS1 => zo hB ht hS1 (fun hP1 hK1 hD1 hS => ?_))))
    refine zc_backc (w := [(a0, .inr (7, [.ref a0_0, a0g_1, a0g_2, a0g_3, a0g_4, a0g_5, a0g_6, a0g_7, a0g_8, a0g_9, a0g_10])), (a0_0, .inr (3, [.int v48na0_0, a0_0g_1, a0_0g_2, .ref a0_0_3, a0_0g_4, a0_0g_5, a0_0g_6, a0_0g_7, a0_0g_8, a0_0g_9, a0_0g_10, a0_0g_11, a0_0g_12, a0_0g_13])), (a0_0_3, .inl (ka0_0_3, 900, .inl (v48nfa0_3)))]) hP hD hCc hk1 hFc hP1 hD1 [.inl 0, .inr 0, .inr 1] (by decide +kernel) rfl (fun hP hD => ?_)
    have hc48 : Ff_X3_appendX a4.toInt v39na0_0.toInt (fl_A v39nfa0_3) = (v48na0_0.toInt, (fl_A v48nfa0_3)) := hraw48_1
    have hF0 := hF0.trans (fl_c2_eq hc48)
    have l48z_v48na0_0 : (16 : Int) ≤ v48na0_0.toInt := by have h1 := hraw48_0; have h2 : (12 : Int) ≤ v39na0_0.toInt := l39z_v39na0_0; omega
    have u48z_v48na0_0 : v48na0_0.toInt ≤ (896 : Int) := by have h1 := hraw48_0; have h2 : v39na0_0.toInt ≤ (892 : Int) := u39z_v39na0_0; omega
    refine lv_aload_n hx hb dX7_feed_51 rfl (lv_at hl 0 rfl) ?_
    refine va_get (D := (dC, dI)) (ci := 7) (v := .ref a0_0) (C := RX7) (T := TX7) (N := 11) hx hb hts zi_X7_feed_7 hown hK hP 0 rfl rfl 0 (by decide) (hts (.fieldLink RX7 12 "WaxTurns" "reade\x72" "LWaxTurns$Reader;") (List.mem_cons_of_mem _ (List.mem_append_left _ (List.mem_append_left _ (List.mem_of_getElem? (i := 0) rfl))))) (fun _ h9 => h9) rfl dX7_feed_52 ?_
    refine lv_iload hx hb dX7_feed_55 (lv_at hl 5 rfl) ?_
    refine zc_cutc (wc := [(a0_0, .inr (3, [.int v48na0_0, a0_0g_1, a0_0g_2, .ref a0_0_3, a0_0g_4, a0_0g_5, a0_0g_6, a0_0g_7, a0_0g_8, a0_0g_9, a0_0g_10, a0_0g_11, a0_0g_12, a0_0g_13])), (a0_0_3, .inl (ka0_0_3, 900, .inl (v48nfa0_3)))]) hP hD hS hA [1, 2] (by decide +kernel) rfl (fun hPc hDc hFc hCc => ?_)
    have hKc := hK.sub (tys' := [(ka0_0_3, .byte)]) [0] rfl
    refine va_callv (va_runV (As := [.int a5]) (rest := []) ⟨hx, hb, hml, hown, hts⟩ (f_X3_appendX l dC dI H.size a0_0 a5 v48na0_0 a0_0g_1 a0_0g_2 a0_0g_4 a0_0g_5 a0_0g_6 a0_0g_7 a0_0g_8 a0_0g_9 a0_0g_10 a0_0g_11 a0_0g_12 a0_0g_13 a0_0_3 ka0_0_3 v48nfa0_3 (Int.le_trans zq218 l48z_v48na0_0) u48z_v48na0_0) (cwV 1 hts gX7_feed_X3_append rfl rfl rfl zd_X3_append ⟨Nat.le_of_ble_eq_true rfl, Nat.le_of_ble_eq_true rfl⟩) ⟨ax_blind (fun _ _ _ _ _ => trivial), zr_3 hKc hPc (q0 := 0) rfl, ax_pre hPc hKc hDc (fun _ _ => trivial)⟩ rfl rfl hl.1 rfl (lv_room (Nat.le_of_ble_eq_true rfl)) dX7_feed_57 ⟨Nat.le_of_ble_eq_true rfl, Nat.le_of_ble_eq_true rfl⟩) hS (fun q _ h => hFc q h) hFc (fun u t H locs ht hvm hw => zx_2 (fun v57na0_0 v57nfa0_3 => zy_3 (fun bv57na0_0 hraw57_0 hraw57_1 hB hz1 hk1 hS1 => zo hB ht hS1 (fun hP1 hK1 hD1 hS => ?_))))
    refine zc_backc (w := [(a0, .inr (7, [.ref a0_0, a0g_1, a0g_2, a0g_3, a0g_4, a0g_5, a0g_6, a0g_7, a0g_8, a0g_9, a0g_10])), (a0_0, .inr (3, [.int v57na0_0, a0_0g_1, a0_0g_2, .ref a0_0_3, a0_0g_4, a0_0g_5, a0_0g_6, a0_0g_7, a0_0g_8, a0_0g_9, a0_0g_10, a0_0g_11, a0_0g_12, a0_0g_13])), (a0_0_3, .inl (ka0_0_3, 900, .inl (v57nfa0_3)))]) hP hD hCc hk1 hFc hP1 hD1 [.inl 0, .inr 0, .inr 1] (by decide +kernel) rfl (fun hP hD => ?_)
    have hc57 : Ff_X3_appendX a5.toInt v48na0_0.toInt (fl_A v48nfa0_3) = (v57na0_0.toInt, (fl_A v57nfa0_3)) := hraw57_1
    have hF0 := hF0.trans (fl_c2_eq hc57)
    have l57z_v57na0_0 : (20 : Int) ≤ v57na0_0.toInt := by have h1 := hraw57_0; have h2 : (16 : Int) ≤ v48na0_0.toInt := l48z_v48na0_0; omega
    have u57z_v57na0_0 : v57na0_0.toInt ≤ (900 : Int) := bv57na0_0.2
    refine lv_aload_n hx hb dX7_feed_60 rfl (lv_at hl 0 rfl) ?_
    refine va_get (D := (dC, dI)) (ci := 7) (v := .ref a0_0) (C := RX7) (T := TX7) (N := 11) hx hb hts zi_X7_feed_7 hown hK hP 0 rfl rfl 0 (by decide) (hts (.fieldLink RX7 12 "WaxTurns" "reade\x72" "LWaxTurns$Reader;") (List.mem_cons_of_mem _ (List.mem_append_left _ (List.mem_append_left _ (List.mem_of_getElem? (i := 0) rfl))))) (fun _ h9 => h9) rfl dX7_feed_61 ?_
    refine va_get (D := (dC, dI)) (ci := 3) (v := .int v57na0_0) (C := RX3) (T := TX3) (N := 14) hx hb hts zi_X7_feed_3 hown hK hP 1 rfl rfl 0 (by decide) (hts (.fieldLink RX7 71 "WaxTurns$Reade\x72" "tapeSize" "I") (List.mem_cons_of_mem _ (List.mem_append_left _ (List.mem_append_left _ (List.mem_of_getElem? (i := 1) rfl))))) (fun _ h9 => h9) rfl dX7_feed_64 ?_
    have hFe : FX = (v57na0_0.toInt, v57na0_0.toInt, (fl_A v57nfa0_3)) := hF0
    exact W.iret (v := v57na0_0) hx hb hr (fun t ht hW => ⟨⟨v57na0_0, (), rfl, ⟨(Or.inr ⟨by omega, by omega⟩), (congrArg Prod.fst hFe).symm⟩, v57na0_0, v57nfa0_3, ⟨Int.le_trans (by decide) l57z_v57na0_0, u57z_v57na0_0⟩, (by constructor <;> intro h9 <;> omega), (congrArg Prod.snd hFe), by rw [ht]; exact hP, va_K.moved hW.alike hK, hD⟩, hS.F ht⟩) hS.2.2 dX7_feed_67
  · have gc13 := ai_nle c13
    have l13f_x9 : (901 : Int) ≤ x9.toInt := ai_ltlo gc13 zq37
    have l13f_a0_0_0 : (881 : Int) ≤ a0_0_0.toInt := by have h1 := wx9; have h2 := l13f_x9; omega
    have hF0 := hF0.trans (if_neg (show ¬ (x9.toInt ≤ 900) from Int.not_le.mpr gc13))
    refine lv_iconst (v := (-1)) hx hb dX7_feed_16 zk_iconst_n1 ?_
    have hFe : FX = ((-1), a0_0_0.toInt, (fl_A fa0_0_3)) := hF0
    exact W.iret (v := (-1)) hx hb hr (fun t ht hW => ⟨⟨(-1), (), rfl, ⟨(Or.inl ⟨rfl, by omega⟩), (congrArg Prod.fst hFe).symm⟩, a0_0_0, fa0_0_3, ⟨Int.le_trans (by decide) l13f_a0_0_0, ba0_0_0_u⟩, (by constructor <;> intro h9 <;> omega), (congrArg Prod.snd hFe), by rw [ht]; exact hP, va_K.moved hW.alike hK, hD⟩, hS.F ht⟩) hS.2.2 dX7_feed_17

set_option maxHeartbeats 4000000 in
set_option maxRecDepth 100000 in
theorem f_X8_feed (l : Launch) (dC : Nat → ClassId) (dI : Nat → Nat → Nat) (sz : Nat) (a0 : Nat) (a1 : Int32) (a2 : Int32) (a3 : Int32) (a4 : Int32) (a5 : Int32) (a0_0 : Int32) (a0_1 : Nat) (a0_2 : Int32) (a0g_3 a0g_4 a0g_5 a0g_6 a0g_7 a0g_8 a0g_9 a0g_10 a0g_11 a0g_12 a0g_13 a0g_14 a0g_15 a0g_16 a0g_17 a0g_18 a0g_19 a0g_20 a0g_21 a0g_22 a0g_23 a0g_24 a0g_25 a0g_26 a0g_27 a0g_28 a0g_29 a0g_30 a0g_31 a0g_32 a0g_33 a0g_34 a0g_35 a0g_36 a0g_37 a0g_38 a0g_39 : Value) (ka0_1 : ClassId) (fa0_1 : Nat → Int32) (ba0_2_l : (0 : Int) ≤ a0_2.toInt) (ba0_2_u : a0_2.toInt ≤ (900 : Int)) : zm l yX8_feed wsX8_feed ({ frames := 0, cells := 0, slots := 0, locals := 0 }) [.ref a0, .int a1, .int a2, .int a3, .int a4, .int a5] dC dI sz [(a0, .inr (8, [Value.int a0_0, Value.ref a0_1, Value.int a0_2, a0g_3, a0g_4, a0g_5, a0g_6, a0g_7, a0g_8, a0g_9, a0g_10, a0g_11, a0g_12, a0g_13, a0g_14, a0g_15, a0g_16, a0g_17, a0g_18, a0g_19, a0g_20, a0g_21, a0g_22, a0g_23, a0g_24, a0g_25, a0g_26, a0g_27, a0g_28, a0g_29, a0g_30, a0g_31, a0g_32, a0g_33, a0g_34, a0g_35, a0g_36, a0g_37, a0g_38, a0g_39])), (a0_1, .inl (ka0_1, 900, .inl (fa0_1)))] [(ka0_1, .int)] (fun A _ => True) (fun A => va_Qi (fun (r : Int32) (_ : Unit) => ((r = (-1) ∧ (880 : Int) < a0_2.toInt) ∨ (r.toInt = a0_2.toInt + 20 ∧ a0_2.toInt ≤ (880 : Int))) ∧ r.toInt = (Ff_X8_feed a1.toInt a2.toInt a3.toInt a4.toInt a5.toInt a0_2.toInt (fl_A fa0_1)).1) (fun (_ : Unit) (t : State) => ∃ na0_0 : Int32, ∃ na0_2 : Int32, ∃ nfa0_1 : Nat → Int32, ((0 : Int) ≤ na0_2.toInt ∧ na0_2.toInt ≤ 900) ∧ ((a0_2.toInt ≤ (880 : Int) → na0_2.toInt = a0_2.toInt + 20) ∧ ((880 : Int) < a0_2.toInt → na0_2.toInt = a0_2.toInt)) ∧ ((Ff_X8_feed a1.toInt a2.toInt a3.toInt a4.toInt a5.toInt a0_2.toInt (fl_A fa0_1)).2 = (na0_0.toInt, na0_2.toInt, (fl_A nfa0_1))) ∧ ax_B dC dI A [(a0, .inr (8, [Value.int na0_0, Value.ref a0_1, Value.int na0_2, a0g_3, a0g_4, a0g_5, a0g_6, a0g_7, a0g_8, a0g_9, a0g_10, a0g_11, a0g_12, a0g_13, a0g_14, a0g_15, a0g_16, a0g_17, a0g_18, a0g_19, a0g_20, a0g_21, a0g_22, a0g_23, a0g_24, a0g_25, a0g_26, a0g_27, a0g_28, a0g_29, a0g_30, a0g_31, a0g_32, a0g_33, a0g_34, a0g_35, a0g_36, a0g_37, a0g_38, a0g_39])), (a0_1, .inl (ka0_1, 900, .inl (nfa0_1)))] [(ka0_1, .int)] t) A) := by
  refine zh (cc := cX8_feed) (maxL := 8) (ret := (some .int)) zn_RX8 rfl (Nat.le_of_ble_eq_true rfl) (fun p e s m below meth c A ls hx hb hml hr hts (hown : s.vm.findClass RX8 = some m.cls) hlocks hA hS hP hK hD hE (hl : lv_has ls 8 [(0, .ref a0), (1, .int a1), (2, .int a2), (3, .int a3), (4, .int a4), (5, .int a5)]) => ?_)
  generalize hFX : Ff_X8_feed a1.toInt a2.toInt a3.toInt a4.toInt a5.toInt a0_2.toInt (fl_A fa0_1) = FX at ⊢
  have hF0 := hFX.symm.trans (Ff_X8_feed.eq_1 a1.toInt a2.toInt a3.toInt a4.toInt a5.toInt a0_2.toInt (fl_A fa0_1))
  refine ai_open (fun K hK0 => ?_)
  refine (hK0 _ _ _).mpr ?_
  refine lv_aload_n hx hb dX8_feed_0 rfl (lv_at hl 0 rfl) ?_
  refine lv_iconst (v := 0) hx hb dX8_feed_1 zk_iconst_0 ?_
  refine va_put (D := (dC, dI)) (ci := 8) (v := .int 0) (ty := .int) (C := RX8) (T := TX8) (N := 40) hx hb hts zi_X8_feed_8 tyX8 tyX8_ok nmX8 hown hK hP hD hS 0 rfl rfl 0 (by decide) (hts (.fieldLink RX8 59 "WaxTurnsModel" "thrown" "I") (List.mem_cons_of_mem _ (List.mem_append_left _ (List.mem_of_getElem? (i := 0) rfl)))) (fun _ h9 => h9) rfl (tyX8_ok 0 (by decide)) rfl rfl (Nat.le_of_ble_eq_true rfl) dX8_feed_2 (fun H locs hP hD hS => ?_)
  refine zs_0 (y := (a0, .inr (8, [Value.int 0, Value.ref a0_1, Value.int a0_2, a0g_3, a0g_4, a0g_5, a0g_6, a0g_7, a0g_8, a0g_9, a0g_10, a0g_11, a0g_12, a0g_13, a0g_14, a0g_15, a0g_16, a0g_17, a0g_18, a0g_19, a0g_20, a0g_21, a0g_22, a0g_23, a0g_24, a0g_25, a0g_26, a0g_27, a0g_28, a0g_29, a0g_30, a0g_31, a0g_32, a0g_33, a0g_34, a0g_35, a0g_36, a0g_37, a0g_38, a0g_39]))) hP hD rfl (fun hP hD => ?_)
  refine lv_aload_n hx hb dX8_feed_5 rfl (lv_at hl 0 rfl) ?_
  refine va_get (D := (dC, dI)) (ci := 8) (v := .int a0_2) (C := RX8) (T := TX8) (N := 40) hx hb hts zi_X8_feed_8 hown hK hP 0 rfl rfl 2 (by decide) (hts (.fieldLink RX8 65 "WaxTurnsModel" "taped" "I") (List.mem_cons_of_mem _ (List.mem_append_left _ (List.mem_of_getElem? (i := 1) rfl)))) (fun _ h9 => h9) rfl dX8_feed_6 ?_
  refine lv_bipush (v := 20) hx hb dX8_feed_9 zk_bipush_20 ?_
  refine lv_iadd hx hb dX8_feed_11 ?_
  refine lv_topi (fun x11 ex11 => ?_)
  have qx11 : x11.toInt = a0_2.toInt + (20 : Int32).toInt := ai_add ex11 ⟨ba0_2_l, ba0_2_u⟩ ⟨zq153, zq154⟩ (by decide) (by decide)
  have bx11 : (20 : Int) ≤ x11.toInt ∧ x11.toInt ≤ 920 := ⟨by rw [qx11]; exact Int.add_le_add ba0_2_l zq153, by rw [qx11]; exact Int.add_le_add ba0_2_u zq154⟩
  have wx11 : x11.toInt = a0_2.toInt + 20 := qx11
  have hF0 := hF0.trans (fl_lt_eq (show x11.toInt = a0_2.toInt + 20 from qx11))
  refine lv_sipush (v := 900) hx hb dX8_feed_12 zk_sipush_900 ?_
  refine lv_icmp_le (tgt := 20) hx hb dX8_feed_15 (by decide) (fun c15 => ?_) (fun c15 => ?_)
  · have gc15 := ai_le c15
    have u15t_x11 : x11.toInt ≤ (900 : Int) := Int.le_trans gc15 zq39
    have u15t_a0_2 : a0_2.toInt ≤ (880 : Int) := by have h1 := wx11; have h2 := u15t_x11; omega
    have hF0 := hF0.trans (if_pos (show x11.toInt ≤ 900 from gc15))
    refine lv_iconst (v := 0) hx hb dX8_feed_20 zk_iconst_0 ?_
    refine lv_istore (lv' := [(6, .int 0), (0, .ref a0), (1, .int a1), (2, .int a2), (3, .int a3), (4, .int a4), (5, .int a5)]) hx hb dX8_feed_21 hl (by decide) rfl (fun ls hl => ?_)
    have J23 : ∀ (n : Nat) (j23l6 : Int32) (j23a0_2 : Int32) (j23a0_1_a : Nat → Int32) (H : Heap) (locs : List Loc) (ls : Array Slot), (21 : Int) - j23l6.toInt ≤ (n : Int) → (0 : Int) ≤ j23l6.toInt → j23l6.toInt ≤ (20 : Int) → (0 : Int) ≤ j23a0_2.toInt → j23a0_2.toInt ≤ (900 : Int) → (j23a0_2.toInt = a0_2.toInt + j23l6.toInt) → (FX = fl_wh (fun t9 => Sf_X8_feed_23_1 a1.toInt a2.toInt a3.toInt a4.toInt a5.toInt t9.1 t9.2.1 t9.2.2) (0, 0, 0, (fun _ => 0)) n (j23l6.toInt, j23a0_2.toInt, (fl_A j23a0_1_a))) → va_P (dC, dI) vwCl [(a0, .inr (8, [Value.int 0, Value.ref a0_1, Value.int j23a0_2, a0g_3, a0g_4, a0g_5, a0g_6, a0g_7, a0g_8, a0g_9, a0g_10, a0g_11, a0g_12, a0g_13, a0g_14, a0g_15, a0g_16, a0g_17, a0g_18, a0g_19, a0g_20, a0g_21, a0g_22, a0g_23, a0g_24, a0g_25, a0g_26, a0g_27, a0g_28, a0g_29, a0g_30, a0g_31, a0g_32, a0g_33, a0g_34, a0g_35, a0g_36, a0g_37, a0g_38, a0g_39])), (a0_1, .inl (ka0_1, 900, .inl (j23a0_1_a)))] H → va_D A [(a0, .inr (8, [Value.int 0, Value.ref a0_1, Value.int j23a0_2, a0g_3, a0g_4, a0g_5, a0g_6, a0g_7, a0g_8, a0g_9, a0g_10, a0g_11, a0g_12, a0g_13, a0g_14, a0g_15, a0g_16, a0g_17, a0g_18, a0g_19, a0g_20, a0g_21, a0g_22, a0g_23, a0g_24, a0g_25, a0g_26, a0g_27, a0g_28, a0g_29, a0g_30, a0g_31, a0g_32, a0g_33, a0g_34, a0g_35, a0g_36, a0g_37, a0g_38, a0g_39])), (a0_1, .inl (ka0_1, 900, .inl (j23a0_1_a)))] → va_S A s.heap H locs → lv_has ls 8 [(0, .ref a0), (1, .int a1), (2, .int a2), (3, .int a3), (4, .int a4), (5, .int a5), (6, .int j23l6)] → K H locs (F0 m 23 ls []) := by
      intro n
      induction n with
      | zero =>
        intro j23l6 j23a0_2 j23a0_1_a H locs ls hm bj23l6_l bj23l6_u bj23a0_2_l bj23a0_2_u fd23 hF0 hP hD hS hl
        first | exact zg_0 hm bj23l6_u (by decide) | (have h8 := ai_min j23l6; have h9 := ai_max j23l6; exact absurd hm (by omega))
      | succ n ih23 =>
        intro j23l6 j23a0_2 j23a0_1_a H locs ls hm bj23l6_l bj23l6_u bj23a0_2_l bj23a0_2_u fd23 hF0 hP hD hS hl
        refine (hK0 _ _ _).mpr ?_
        have hm23 := hm
        obtain ⟨SX23, hSX23⟩ : ∃ q9, Sf_X8_feed_23_1 a1.toInt a2.toInt a3.toInt a4.toInt a5.toInt j23l6.toInt j23a0_2.toInt (fl_A j23a0_1_a) = q9 := ⟨_, rfl⟩
        have hF1 := hSX23.symm.trans (Sf_X8_feed_23_1.eq_1 a1.toInt a2.toInt a3.toInt a4.toInt a5.toInt j23l6.toInt j23a0_2.toInt (fl_A j23a0_1_a))
        refine lv_iload hx hb dX8_feed_23 (lv_at hl 6 rfl) ?_
        refine lv_bipush (v := 20) hx hb dX8_feed_25 zk_bipush_20 ?_
        refine lv_icmp_ge (tgt := 120) hx hb dX8_feed_27 (by decide) (fun c27 => ?_) (fun c27 => ?_)
        · have gc27 := ai_le c27
          have l27t_j23l6 : (20 : Int) ≤ j23l6.toInt := Int.le_trans zq153 gc27
          have hF1 := hF1.trans (if_pos (show 20 ≤ j23l6.toInt from gc27))
          have hF0 := hF0.trans (fl_wh_r (hSX23.trans hF1))
          refine lv_aload_n hx hb dX8_feed_120 rfl (lv_at hl 0 rfl) ?_
          refine va_get (D := (dC, dI)) (ci := 8) (v := .int j23a0_2) (C := RX8) (T := TX8) (N := 40) hx hb hts zi_X8_feed_8 hown hK hP 0 rfl rfl 2 (by decide) (hts (.fieldLink RX8 65 "WaxTurnsModel" "taped" "I") (List.mem_cons_of_mem _ (List.mem_append_left _ (List.mem_of_getElem? (i := 1) rfl)))) (fun _ h9 => h9) rfl dX8_feed_121 ?_
          have hFe : FX = (j23a0_2.toInt, 0, j23a0_2.toInt, (fl_A j23a0_1_a)) := hF0
          exact W.iret (v := j23a0_2) hx hb hr (fun t ht hW => ⟨⟨j23a0_2, (), rfl, ⟨(Or.inr ⟨by omega, by omega⟩), (congrArg Prod.fst hFe).symm⟩, 0, j23a0_2, j23a0_1_a, ⟨bj23a0_2_l, bj23a0_2_u⟩, (by constructor <;> intro h9 <;> omega), (congrArg Prod.snd hFe), by rw [ht]; exact hP, va_K.moved hW.alike hK, hD⟩, hS.F ht⟩) hS.2.2 dX8_feed_124
        · have gc27 := ai_nle c27
          have u27f_j23l6 : j23l6.toInt ≤ (19 : Int) := ai_lthi gc27 zq154
          have hF1 := hF1.trans (if_neg (show ¬ (20 ≤ j23l6.toInt) from Int.not_le.mpr gc27))
          refine lv_iload hx hb dX8_feed_30 (lv_at hl 6 rfl) ?_
          refine lv_iconst (v := 4) hx hb dX8_feed_32 zk_iconst_4 ?_
          refine lv_icmp_ge (tgt := 40) hx hb dX8_feed_33 (by decide) (fun c33 => ?_) (fun c33 => ?_)
          · have gc33 := ai_le c33
            have l33t_j23l6 : (4 : Int) ≤ j23l6.toInt := Int.le_trans zq68 gc33
            have hF1 := hF1.trans (if_pos (show 4 ≤ j23l6.toInt from gc33))
            refine lv_iload hx hb dX8_feed_40 (lv_at hl 6 rfl) ?_
            refine lv_bipush (v := 8) hx hb dX8_feed_42 zk_bipush_8 ?_
            refine lv_icmp_ge (tgt := 51) hx hb dX8_feed_44 (by decide) (fun c44 => ?_) (fun c44 => ?_)
            · have gc44 := ai_le c44
              have l44t_j23l6 : (8 : Int) ≤ j23l6.toInt := Int.le_trans zq116 gc44
              have hF1 := hF1.trans (if_pos (show 8 ≤ j23l6.toInt from gc44))
              refine lv_iload hx hb dX8_feed_51 (lv_at hl 6 rfl) ?_
              refine lv_bipush (v := 12) hx hb dX8_feed_53 zk_bipush_12 ?_
              refine lv_icmp_ge (tgt := 62) hx hb dX8_feed_55 (by decide) (fun c55 => ?_) (fun c55 => ?_)
              · have gc55 := ai_le c55
                have l55t_j23l6 : (12 : Int) ≤ j23l6.toInt := Int.le_trans zq119 gc55
                have hF1 := hF1.trans (if_pos (show 12 ≤ j23l6.toInt from gc55))
                refine lv_iload hx hb dX8_feed_62 (lv_at hl 6 rfl) ?_
                refine lv_bipush (v := 16) hx hb dX8_feed_64 zk_bipush_16 ?_
                refine lv_icmp_ge (tgt := 74) hx hb dX8_feed_66 (by decide) (fun c66 => ?_) (fun c66 => ?_)
                · have gc66 := ai_le c66
                  have l66t_j23l6 : (16 : Int) ≤ j23l6.toInt := Int.le_trans zq110 gc66
                  have hF1 := hF1.trans (if_pos (show 16 ≤ j23l6.toInt from gc66))
                  refine lv_iload hx hb dX8_feed_74 (lv_at hl 5 rfl) ?_
                  refine lv_istore (lv' := [(7, .int a5), (0, .ref a0), (1, .int a1), (2, .int a2), (3, .int a3), (4, .int a4), (5, .int a5), (6, .int j23l6)]) hx hb dX8_feed_76 hl (by decide) rfl (fun ls hl => ?_)
                  refine lv_aload_n hx hb dX8_feed_78 rfl (lv_at hl 1 rfl) ?_
                  refine va_get (D := (dC, dI)) (ci := 8) (v := .ref a0_1) (C := RX8) (T := TX8) (N := 40) hx hb hts zi_X8_feed_8 hown hK hP 0 rfl rfl 1 (by decide) (hts (.fieldLink RX8 7 "WaxTurnsModel" "tape" "[I") (List.mem_cons_of_mem _ (List.mem_append_left _ (List.mem_of_getElem? (i := 2) rfl)))) (fun _ h9 => h9) rfl dX8_feed_79 ?_
                  refine lv_aload_n hx hb dX8_feed_82 rfl (lv_at hl 1 rfl) ?_
                  refine va_get (D := (dC, dI)) (ci := 8) (v := .int j23a0_2) (C := RX8) (T := TX8) (N := 40) hx hb hts zi_X8_feed_8 hown hK hP 0 rfl rfl 2 (by decide) (hts (.fieldLink RX8 65 "WaxTurnsModel" "taped" "I") (List.mem_cons_of_mem _ (List.mem_append_left _ (List.mem_of_getElem? (i := 1) rfl)))) (fun _ h9 => h9) rfl dX8_feed_83 ?_
                  have u83z_j23a0_2 : j23a0_2.toInt ≤ (899 : Int) := by omega
                  refine lv_iload hx hb dX8_feed_86 (lv_at hl 0 rfl) ?_
                  refine lv_bipush (v := 24) hx hb dX8_feed_88 zk_bipush_24 ?_
                  refine lv_bipush (v := 8) hx hb dX8_feed_90 zk_bipush_8 ?_
                  refine lv_iload hx hb dX8_feed_92 (lv_at hl 7 rfl) ?_
                  refine lv_iconst (v := 4) hx hb dX8_feed_94 zk_iconst_4 ?_
                  refine lv_irem hx hb dX8_feed_95 (by decide +kernel) ?_
                  refine lv_topi (fun x95 ex95 => ?_)
                  have qx95 := ai_rem2 ex95 (Int.le_trans zq218 l66t_j23l6) (Int.lt_of_lt_of_le zq178 zq68) zq67
                  have wx95 : x95.toInt = j23l6.toInt % 4 := qx95.1
                  have hF1 := hF1.trans (fl_lt_eq (show x95.toInt = j23l6.toInt % 4 from qx95.1))
                  refine lv_imul hx hb dX8_feed_96 ?_
                  refine lv_topi (fun x96 ex96 => ?_)
                  have qx96 : x96.toInt = (8 : Int32).toInt * x95.toInt ∧ (0 : Int) ≤ x96.toInt ∧ x96.toInt ≤ 24 := ai_mul ex96 ⟨zq116, zq28⟩ ⟨qx95.2.1, qx95.2.2⟩ (by decide) (by decide) zq219
                  have wx96 : x96.toInt = 8 * x95.toInt := qx96.1
                  have hF1 := hF1.trans (fl_lt_eq (show x96.toInt = 8 * x95.toInt from qx96.1))
                  refine lv_isub hx hb dX8_feed_97 ?_
                  refine lv_topi (fun x97 ex97 => ?_)
                  have qx97 : x97.toInt = (24 : Int32).toInt - x96.toInt := ai_sub ex97 ⟨zq132, zq133⟩ ⟨qx96.2.1, qx96.2.2⟩ (by decide) (by decide)
                  have bx97 : (0 : Int) ≤ x97.toInt ∧ x97.toInt ≤ 24 := ⟨by rw [qx97]; exact Int.sub_le_sub zq132 qx96.2.2, by rw [qx97]; exact Int.sub_le_sub zq133 qx96.2.1⟩
                  have hF1 := hF1.trans (fl_lt_eq (show x97.toInt = 24 - x96.toInt from qx97))
                  refine lv_ishr hx hb dX8_feed_98 ?_
                  refine lv_topi (fun x98 ex98 => ?_)
                  have fqx98 := fl_shr_eq ex98
                  have hF1 := hF1.trans (fl_lt_eq (show x98.toInt = fl_shr a5.toInt x97.toInt from fqx98))
                  refine lv_sipush (v := 255) hx hb dX8_feed_99 zk_sipush_255 ?_
                  refine lv_iand hx hb dX8_feed_102 ?_
                  refine lv_topi (fun x102 ex102 => ?_)
                  have fqx102 := fl_and_eq ex102
                  have hF1 := hF1.trans (fl_lt_eq (show x102.toInt = fl_and x98.toInt 255 from fqx102))
                  refine va_iast hx hb hK hP hD hS 1 0 rfl rfl (ai_in bj23a0_2_l u83z_j23a0_2 (by decide) (by decide)) dX8_feed_103 (fun H locs hP hD hS => ?_)
                  obtain ⟨f103, ef103⟩ : ∃ g9 : Nat → Int32, g9 = upd j23a0_1_a (j23a0_2 : Int32).toNatClampNeg x102 := ⟨_, rfl⟩
                  refine zs_1 (y := (a0_1, .inl (ka0_1, 900, .inl (f103)))) hP hD (by rw [ef103]) (fun hP hD => ?_)
                  have fqf103 := fl_up_eq ef103
                  have hF1 := hF1.trans (fl_lt_eq (show (fl_A f103) = fl_up (fl_A j23a0_1_a) (j23a0_2.toInt.toNat) x102.toInt from fqf103))
                  refine lv_aload_n hx hb dX8_feed_104 rfl (lv_at hl 1 rfl) ?_
                  refine lv_dup hx hb dX8_feed_105 rfl ?_
                  refine va_get (D := (dC, dI)) (ci := 8) (v := .int j23a0_2) (C := RX8) (T := TX8) (N := 40) hx hb hts zi_X8_feed_8 hown hK hP 0 rfl rfl 2 (by decide) (hts (.fieldLink RX8 65 "WaxTurnsModel" "taped" "I") (List.mem_cons_of_mem _ (List.mem_append_left _ (List.mem_of_getElem? (i := 1) rfl)))) (fun _ h9 => h9) rfl dX8_feed_106 ?_
                  refine lv_iconst (v := 1) hx hb dX8_feed_109 zk_iconst_1 ?_
                  refine lv_iadd hx hb dX8_feed_110 ?_
                  refine lv_topi (fun x110 ex110 => ?_)
                  have qx110 : x110.toInt = j23a0_2.toInt + (1 : Int32).toInt := ai_add ex110 ⟨bj23a0_2_l, u83z_j23a0_2⟩ ⟨zq1, zq0⟩ (by decide) (by decide)
                  have bx110 : (1 : Int) ≤ x110.toInt ∧ x110.toInt ≤ 900 := ⟨by rw [qx110]; exact Int.add_le_add bj23a0_2_l zq1, by rw [qx110]; exact Int.add_le_add u83z_j23a0_2 zq0⟩
                  have wx110 : x110.toInt = j23a0_2.toInt + 1 := qx110
                  have hF1 := hF1.trans (fl_lt_eq (show x110.toInt = j23a0_2.toInt + 1 from qx110))
                  refine va_put (D := (dC, dI)) (ci := 8) (v := .int x110) (ty := .int) (C := RX8) (T := TX8) (N := 40) hx hb hts zi_X8_feed_8 tyX8 tyX8_ok nmX8 hown hK hP hD hS 0 rfl rfl 2 (by decide) (hts (.fieldLink RX8 65 "WaxTurnsModel" "taped" "I") (List.mem_cons_of_mem _ (List.mem_append_left _ (List.mem_of_getElem? (i := 1) rfl)))) (fun _ h9 => h9) rfl (tyX8_ok 2 (by decide)) rfl rfl (Nat.le_of_ble_eq_true rfl) dX8_feed_111 (fun H locs hP hD hS => ?_)
                  refine zs_0 (y := (a0, .inr (8, [Value.int 0, Value.ref a0_1, Value.int x110, a0g_3, a0g_4, a0g_5, a0g_6, a0g_7, a0g_8, a0g_9, a0g_10, a0g_11, a0g_12, a0g_13, a0g_14, a0g_15, a0g_16, a0g_17, a0g_18, a0g_19, a0g_20, a0g_21, a0g_22, a0g_23, a0g_24, a0g_25, a0g_26, a0g_27, a0g_28, a0g_29, a0g_30, a0g_31, a0g_32, a0g_33, a0g_34, a0g_35, a0g_36, a0g_37, a0g_38, a0g_39]))) hP hD rfl (fun hP hD => ?_)
                  obtain ⟨x114, ex114⟩ : ∃ y : Int32, y = j23l6 + Int32.ofInt 1 := ⟨_, rfl⟩
                  have qx114 : x114.toInt = j23l6.toInt + 1 := ai_inc ex114 (by decide) (by decide) u27f_j23l6 (by decide)
                  have bx114 : (17 : Int) ≤ x114.toInt ∧ x114.toInt ≤ 20 := ⟨by rw [qx114]; exact Int.add_le_add l66t_j23l6 (Int.le_refl _), by rw [qx114]; exact Int.add_le_add u27f_j23l6 (Int.le_refl _)⟩
                  refine lv_iinc (v := x114) (lv' := [(6, .int x114), (7, .int a5), (0, .ref a0), (1, .int a1), (2, .int a2), (3, .int a3), (4, .int a4), (5, .int a5)]) hx hb dX8_feed_114 hl (k := 7) rfl ex114.symm (by decide) rfl (fun ls hl => ?_)
                  have hF1 := hF1.trans (fl_lt_eq (show x114.toInt = j23l6.toInt + 1 from qx114))
                  refine lv_goto (tgt := 23) hx hb dX8_feed_117 (by decide) ?_
                  exact (hK0 _ _ _).mp (ih23 x114 x110 f103 _ _ _ (by first | exact zg_s hm23 qx114 | (have h0 := qx114; omega)) (Int.le_trans zq220 bx114.1) bx114.2 (Int.le_trans zq4 bx110.1) bx110.2 (by omega) (hF0.trans (fl_wh_l (hSX23.trans hF1))) hP hD hS (lv_sub hl [2, 3, 4, 5, 6, 7, 0] rfl))
                · have gc66 := ai_nle c66
                  have u66f_j23l6 : j23l6.toInt ≤ (15 : Int) := ai_lthi gc66 zq111
                  have hF1 := hF1.trans (if_neg (show ¬ (16 ≤ j23l6.toInt) from Int.not_le.mpr gc66))
                  refine lv_iload hx hb dX8_feed_69 (lv_at hl 4 rfl) ?_
                  refine lv_goto (tgt := 76) hx hb dX8_feed_71 (by decide) ?_
                  refine lv_istore (lv' := [(7, .int a4), (0, .ref a0), (1, .int a1), (2, .int a2), (3, .int a3), (4, .int a4), (5, .int a5), (6, .int j23l6)]) hx hb dX8_feed_76 hl (by decide) rfl (fun ls hl => ?_)
                  refine lv_aload_n hx hb dX8_feed_78 rfl (lv_at hl 1 rfl) ?_
                  refine va_get (D := (dC, dI)) (ci := 8) (v := .ref a0_1) (C := RX8) (T := TX8) (N := 40) hx hb hts zi_X8_feed_8 hown hK hP 0 rfl rfl 1 (by decide) (hts (.fieldLink RX8 7 "WaxTurnsModel" "tape" "[I") (List.mem_cons_of_mem _ (List.mem_append_left _ (List.mem_of_getElem? (i := 2) rfl)))) (fun _ h9 => h9) rfl dX8_feed_79 ?_
                  refine lv_aload_n hx hb dX8_feed_82 rfl (lv_at hl 1 rfl) ?_
                  refine va_get (D := (dC, dI)) (ci := 8) (v := .int j23a0_2) (C := RX8) (T := TX8) (N := 40) hx hb hts zi_X8_feed_8 hown hK hP 0 rfl rfl 2 (by decide) (hts (.fieldLink RX8 65 "WaxTurnsModel" "taped" "I") (List.mem_cons_of_mem _ (List.mem_append_left _ (List.mem_of_getElem? (i := 1) rfl)))) (fun _ h9 => h9) rfl dX8_feed_83 ?_
                  have u83z_j23a0_2 : j23a0_2.toInt ≤ (899 : Int) := by omega
                  refine lv_iload hx hb dX8_feed_86 (lv_at hl 0 rfl) ?_
                  refine lv_bipush (v := 24) hx hb dX8_feed_88 zk_bipush_24 ?_
                  refine lv_bipush (v := 8) hx hb dX8_feed_90 zk_bipush_8 ?_
                  refine lv_iload hx hb dX8_feed_92 (lv_at hl 7 rfl) ?_
                  refine lv_iconst (v := 4) hx hb dX8_feed_94 zk_iconst_4 ?_
                  refine lv_irem hx hb dX8_feed_95 (by decide +kernel) ?_
                  refine lv_topi (fun x95 ex95 => ?_)
                  have qx95 := ai_rem2 ex95 (Int.le_trans zq169 l55t_j23l6) (Int.lt_of_lt_of_le zq178 zq68) zq67
                  have wx95 : x95.toInt = j23l6.toInt % 4 := qx95.1
                  have hF1 := hF1.trans (fl_lt_eq (show x95.toInt = j23l6.toInt % 4 from qx95.1))
                  refine lv_imul hx hb dX8_feed_96 ?_
                  refine lv_topi (fun x96 ex96 => ?_)
                  have qx96 : x96.toInt = (8 : Int32).toInt * x95.toInt ∧ (0 : Int) ≤ x96.toInt ∧ x96.toInt ≤ 24 := ai_mul ex96 ⟨zq116, zq28⟩ ⟨qx95.2.1, qx95.2.2⟩ (by decide) (by decide) zq219
                  have wx96 : x96.toInt = 8 * x95.toInt := qx96.1
                  have hF1 := hF1.trans (fl_lt_eq (show x96.toInt = 8 * x95.toInt from qx96.1))
                  refine lv_isub hx hb dX8_feed_97 ?_
                  refine lv_topi (fun x97 ex97 => ?_)
                  have qx97 : x97.toInt = (24 : Int32).toInt - x96.toInt := ai_sub ex97 ⟨zq132, zq133⟩ ⟨qx96.2.1, qx96.2.2⟩ (by decide) (by decide)
                  have bx97 : (0 : Int) ≤ x97.toInt ∧ x97.toInt ≤ 24 := ⟨by rw [qx97]; exact Int.sub_le_sub zq132 qx96.2.2, by rw [qx97]; exact Int.sub_le_sub zq133 qx96.2.1⟩
                  have hF1 := hF1.trans (fl_lt_eq (show x97.toInt = 24 - x96.toInt from qx97))
                  refine lv_ishr hx hb dX8_feed_98 ?_
                  refine lv_topi (fun x98 ex98 => ?_)
                  have fqx98 := fl_shr_eq ex98
                  have hF1 := hF1.trans (fl_lt_eq (show x98.toInt = fl_shr a4.toInt x97.toInt from fqx98))
                  refine lv_sipush (v := 255) hx hb dX8_feed_99 zk_sipush_255 ?_
                  refine lv_iand hx hb dX8_feed_102 ?_
                  refine lv_topi (fun x102 ex102 => ?_)
                  have fqx102 := fl_and_eq ex102
                  have hF1 := hF1.trans (fl_lt_eq (show x102.toInt = fl_and x98.toInt 255 from fqx102))
                  refine va_iast hx hb hK hP hD hS 1 0 rfl rfl (ai_in bj23a0_2_l u83z_j23a0_2 (by decide) (by decide)) dX8_feed_103 (fun H locs hP hD hS => ?_)
                  obtain ⟨f103, ef103⟩ : ∃ g9 : Nat → Int32, g9 = upd j23a0_1_a (j23a0_2 : Int32).toNatClampNeg x102 := ⟨_, rfl⟩
                  refine zs_1 (y := (a0_1, .inl (ka0_1, 900, .inl (f103)))) hP hD (by rw [ef103]) (fun hP hD => ?_)
                  have fqf103 := fl_up_eq ef103
                  have hF1 := hF1.trans (fl_lt_eq (show (fl_A f103) = fl_up (fl_A j23a0_1_a) (j23a0_2.toInt.toNat) x102.toInt from fqf103))
                  refine lv_aload_n hx hb dX8_feed_104 rfl (lv_at hl 1 rfl) ?_
                  refine lv_dup hx hb dX8_feed_105 rfl ?_
                  refine va_get (D := (dC, dI)) (ci := 8) (v := .int j23a0_2) (C := RX8) (T := TX8) (N := 40) hx hb hts zi_X8_feed_8 hown hK hP 0 rfl rfl 2 (by decide) (hts (.fieldLink RX8 65 "WaxTurnsModel" "taped" "I") (List.mem_cons_of_mem _ (List.mem_append_left _ (List.mem_of_getElem? (i := 1) rfl)))) (fun _ h9 => h9) rfl dX8_feed_106 ?_
                  refine lv_iconst (v := 1) hx hb dX8_feed_109 zk_iconst_1 ?_
                  refine lv_iadd hx hb dX8_feed_110 ?_
                  refine lv_topi (fun x110 ex110 => ?_)
                  have qx110 : x110.toInt = j23a0_2.toInt + (1 : Int32).toInt := ai_add ex110 ⟨bj23a0_2_l, u83z_j23a0_2⟩ ⟨zq1, zq0⟩ (by decide) (by decide)
                  have bx110 : (1 : Int) ≤ x110.toInt ∧ x110.toInt ≤ 900 := ⟨by rw [qx110]; exact Int.add_le_add bj23a0_2_l zq1, by rw [qx110]; exact Int.add_le_add u83z_j23a0_2 zq0⟩
                  have wx110 : x110.toInt = j23a0_2.toInt + 1 := qx110
                  have hF1 := hF1.trans (fl_lt_eq (show x110.toInt = j23a0_2.toInt + 1 from qx110))
                  refine va_put (D := (dC, dI)) (ci := 8) (v := .int x110) (ty := .int) (C := RX8) (T := TX8) (N := 40) hx hb hts zi_X8_feed_8 tyX8 tyX8_ok nmX8 hown hK hP hD hS 0 rfl rfl 2 (by decide) (hts (.fieldLink RX8 65 "WaxTurnsModel" "taped" "I") (List.mem_cons_of_mem _ (List.mem_append_left _ (List.mem_of_getElem? (i := 1) rfl)))) (fun _ h9 => h9) rfl (tyX8_ok 2 (by decide)) rfl rfl (Nat.le_of_ble_eq_true rfl) dX8_feed_111 (fun H locs hP hD hS => ?_)
                  refine zs_0 (y := (a0, .inr (8, [Value.int 0, Value.ref a0_1, Value.int x110, a0g_3, a0g_4, a0g_5, a0g_6, a0g_7, a0g_8, a0g_9, a0g_10, a0g_11, a0g_12, a0g_13, a0g_14, a0g_15, a0g_16, a0g_17, a0g_18, a0g_19, a0g_20, a0g_21, a0g_22, a0g_23, a0g_24, a0g_25, a0g_26, a0g_27, a0g_28, a0g_29, a0g_30, a0g_31, a0g_32, a0g_33, a0g_34, a0g_35, a0g_36, a0g_37, a0g_38, a0g_39]))) hP hD rfl (fun hP hD => ?_)
                  obtain ⟨x114, ex114⟩ : ∃ y : Int32, y = j23l6 + Int32.ofInt 1 := ⟨_, rfl⟩
                  have qx114 : x114.toInt = j23l6.toInt + 1 := ai_inc ex114 (by decide) (by decide) u66f_j23l6 (by decide)
                  have bx114 : (13 : Int) ≤ x114.toInt ∧ x114.toInt ≤ 16 := ⟨by rw [qx114]; exact Int.add_le_add l55t_j23l6 (Int.le_refl _), by rw [qx114]; exact Int.add_le_add u66f_j23l6 (Int.le_refl _)⟩
                  refine lv_iinc (v := x114) (lv' := [(6, .int x114), (7, .int a4), (0, .ref a0), (1, .int a1), (2, .int a2), (3, .int a3), (4, .int a4), (5, .int a5)]) hx hb dX8_feed_114 hl (k := 7) rfl ex114.symm (by decide) rfl (fun ls hl => ?_)
                  have hF1 := hF1.trans (fl_lt_eq (show x114.toInt = j23l6.toInt + 1 from qx114))
                  refine lv_goto (tgt := 23) hx hb dX8_feed_117 (by decide) ?_
                  exact (hK0 _ _ _).mp (ih23 x114 x110 f103 _ _ _ (by first | exact zg_s hm23 qx114 | (have h0 := qx114; omega)) (Int.le_trans zq221 bx114.1) (Int.le_trans bx114.2 zq222) (Int.le_trans zq4 bx110.1) bx110.2 (by omega) (hF0.trans (fl_wh_l (hSX23.trans hF1))) hP hD hS (lv_sub hl [2, 3, 4, 5, 6, 7, 0] rfl))
              · have gc55 := ai_nle c55
                have u55f_j23l6 : j23l6.toInt ≤ (11 : Int) := ai_lthi gc55 zq120
                have hF1 := hF1.trans (if_neg (show ¬ (12 ≤ j23l6.toInt) from Int.not_le.mpr gc55))
                refine lv_iload_n hx hb dX8_feed_58 rfl (lv_at hl 3 rfl) ?_
                refine lv_goto (tgt := 76) hx hb dX8_feed_59 (by decide) ?_
                refine lv_istore (lv' := [(7, .int a3), (0, .ref a0), (1, .int a1), (2, .int a2), (3, .int a3), (4, .int a4), (5, .int a5), (6, .int j23l6)]) hx hb dX8_feed_76 hl (by decide) rfl (fun ls hl => ?_)
                refine lv_aload_n hx hb dX8_feed_78 rfl (lv_at hl 1 rfl) ?_
                refine va_get (D := (dC, dI)) (ci := 8) (v := .ref a0_1) (C := RX8) (T := TX8) (N := 40) hx hb hts zi_X8_feed_8 hown hK hP 0 rfl rfl 1 (by decide) (hts (.fieldLink RX8 7 "WaxTurnsModel" "tape" "[I") (List.mem_cons_of_mem _ (List.mem_append_left _ (List.mem_of_getElem? (i := 2) rfl)))) (fun _ h9 => h9) rfl dX8_feed_79 ?_
                refine lv_aload_n hx hb dX8_feed_82 rfl (lv_at hl 1 rfl) ?_
                refine va_get (D := (dC, dI)) (ci := 8) (v := .int j23a0_2) (C := RX8) (T := TX8) (N := 40) hx hb hts zi_X8_feed_8 hown hK hP 0 rfl rfl 2 (by decide) (hts (.fieldLink RX8 65 "WaxTurnsModel" "taped" "I") (List.mem_cons_of_mem _ (List.mem_append_left _ (List.mem_of_getElem? (i := 1) rfl)))) (fun _ h9 => h9) rfl dX8_feed_83 ?_
                have u83z_j23a0_2 : j23a0_2.toInt ≤ (899 : Int) := by omega
                refine lv_iload hx hb dX8_feed_86 (lv_at hl 0 rfl) ?_
                refine lv_bipush (v := 24) hx hb dX8_feed_88 zk_bipush_24 ?_
                refine lv_bipush (v := 8) hx hb dX8_feed_90 zk_bipush_8 ?_
                refine lv_iload hx hb dX8_feed_92 (lv_at hl 7 rfl) ?_
                refine lv_iconst (v := 4) hx hb dX8_feed_94 zk_iconst_4 ?_
                refine lv_irem hx hb dX8_feed_95 (by decide +kernel) ?_
                refine lv_topi (fun x95 ex95 => ?_)
                have qx95 := ai_rem2 ex95 (Int.le_trans zq20 l44t_j23l6) (Int.lt_of_lt_of_le zq178 zq68) zq67
                have wx95 : x95.toInt = j23l6.toInt % 4 := qx95.1
                have hF1 := hF1.trans (fl_lt_eq (show x95.toInt = j23l6.toInt % 4 from qx95.1))
                refine lv_imul hx hb dX8_feed_96 ?_
                refine lv_topi (fun x96 ex96 => ?_)
                have qx96 : x96.toInt = (8 : Int32).toInt * x95.toInt ∧ (0 : Int) ≤ x96.toInt ∧ x96.toInt ≤ 24 := ai_mul ex96 ⟨zq116, zq28⟩ ⟨qx95.2.1, qx95.2.2⟩ (by decide) (by decide) zq219
                have wx96 : x96.toInt = 8 * x95.toInt := qx96.1
                have hF1 := hF1.trans (fl_lt_eq (show x96.toInt = 8 * x95.toInt from qx96.1))
                refine lv_isub hx hb dX8_feed_97 ?_
                refine lv_topi (fun x97 ex97 => ?_)
                have qx97 : x97.toInt = (24 : Int32).toInt - x96.toInt := ai_sub ex97 ⟨zq132, zq133⟩ ⟨qx96.2.1, qx96.2.2⟩ (by decide) (by decide)
                have bx97 : (0 : Int) ≤ x97.toInt ∧ x97.toInt ≤ 24 := ⟨by rw [qx97]; exact Int.sub_le_sub zq132 qx96.2.2, by rw [qx97]; exact Int.sub_le_sub zq133 qx96.2.1⟩
                have hF1 := hF1.trans (fl_lt_eq (show x97.toInt = 24 - x96.toInt from qx97))
                refine lv_ishr hx hb dX8_feed_98 ?_
                refine lv_topi (fun x98 ex98 => ?_)
                have fqx98 := fl_shr_eq ex98
                have hF1 := hF1.trans (fl_lt_eq (show x98.toInt = fl_shr a3.toInt x97.toInt from fqx98))
                refine lv_sipush (v := 255) hx hb dX8_feed_99 zk_sipush_255 ?_
                refine lv_iand hx hb dX8_feed_102 ?_
                refine lv_topi (fun x102 ex102 => ?_)
                have fqx102 := fl_and_eq ex102
                have hF1 := hF1.trans (fl_lt_eq (show x102.toInt = fl_and x98.toInt 255 from fqx102))
                refine va_iast hx hb hK hP hD hS 1 0 rfl rfl (ai_in bj23a0_2_l u83z_j23a0_2 (by decide) (by decide)) dX8_feed_103 (fun H locs hP hD hS => ?_)
                obtain ⟨f103, ef103⟩ : ∃ g9 : Nat → Int32, g9 = upd j23a0_1_a (j23a0_2 : Int32).toNatClampNeg x102 := ⟨_, rfl⟩
                refine zs_1 (y := (a0_1, .inl (ka0_1, 900, .inl (f103)))) hP hD (by rw [ef103]) (fun hP hD => ?_)
                have fqf103 := fl_up_eq ef103
                have hF1 := hF1.trans (fl_lt_eq (show (fl_A f103) = fl_up (fl_A j23a0_1_a) (j23a0_2.toInt.toNat) x102.toInt from fqf103))
                refine lv_aload_n hx hb dX8_feed_104 rfl (lv_at hl 1 rfl) ?_
                refine lv_dup hx hb dX8_feed_105 rfl ?_
                refine va_get (D := (dC, dI)) (ci := 8) (v := .int j23a0_2) (C := RX8) (T := TX8) (N := 40) hx hb hts zi_X8_feed_8 hown hK hP 0 rfl rfl 2 (by decide) (hts (.fieldLink RX8 65 "WaxTurnsModel" "taped" "I") (List.mem_cons_of_mem _ (List.mem_append_left _ (List.mem_of_getElem? (i := 1) rfl)))) (fun _ h9 => h9) rfl dX8_feed_106 ?_
                refine lv_iconst (v := 1) hx hb dX8_feed_109 zk_iconst_1 ?_
                refine lv_iadd hx hb dX8_feed_110 ?_
                refine lv_topi (fun x110 ex110 => ?_)
                have qx110 : x110.toInt = j23a0_2.toInt + (1 : Int32).toInt := ai_add ex110 ⟨bj23a0_2_l, u83z_j23a0_2⟩ ⟨zq1, zq0⟩ (by decide) (by decide)
                have bx110 : (1 : Int) ≤ x110.toInt ∧ x110.toInt ≤ 900 := ⟨by rw [qx110]; exact Int.add_le_add bj23a0_2_l zq1, by rw [qx110]; exact Int.add_le_add u83z_j23a0_2 zq0⟩
                have wx110 : x110.toInt = j23a0_2.toInt + 1 := qx110
                have hF1 := hF1.trans (fl_lt_eq (show x110.toInt = j23a0_2.toInt + 1 from qx110))
                refine va_put (D := (dC, dI)) (ci := 8) (v := .int x110) (ty := .int) (C := RX8) (T := TX8) (N := 40) hx hb hts zi_X8_feed_8 tyX8 tyX8_ok nmX8 hown hK hP hD hS 0 rfl rfl 2 (by decide) (hts (.fieldLink RX8 65 "WaxTurnsModel" "taped" "I") (List.mem_cons_of_mem _ (List.mem_append_left _ (List.mem_of_getElem? (i := 1) rfl)))) (fun _ h9 => h9) rfl (tyX8_ok 2 (by decide)) rfl rfl (Nat.le_of_ble_eq_true rfl) dX8_feed_111 (fun H locs hP hD hS => ?_)
                refine zs_0 (y := (a0, .inr (8, [Value.int 0, Value.ref a0_1, Value.int x110, a0g_3, a0g_4, a0g_5, a0g_6, a0g_7, a0g_8, a0g_9, a0g_10, a0g_11, a0g_12, a0g_13, a0g_14, a0g_15, a0g_16, a0g_17, a0g_18, a0g_19, a0g_20, a0g_21, a0g_22, a0g_23, a0g_24, a0g_25, a0g_26, a0g_27, a0g_28, a0g_29, a0g_30, a0g_31, a0g_32, a0g_33, a0g_34, a0g_35, a0g_36, a0g_37, a0g_38, a0g_39]))) hP hD rfl (fun hP hD => ?_)
                obtain ⟨x114, ex114⟩ : ∃ y : Int32, y = j23l6 + Int32.ofInt 1 := ⟨_, rfl⟩
                have qx114 : x114.toInt = j23l6.toInt + 1 := ai_inc ex114 (by decide) (by decide) u55f_j23l6 (by decide)
                have bx114 : (9 : Int) ≤ x114.toInt ∧ x114.toInt ≤ 12 := ⟨by rw [qx114]; exact Int.add_le_add l44t_j23l6 (Int.le_refl _), by rw [qx114]; exact Int.add_le_add u55f_j23l6 (Int.le_refl _)⟩
                refine lv_iinc (v := x114) (lv' := [(6, .int x114), (7, .int a3), (0, .ref a0), (1, .int a1), (2, .int a2), (3, .int a3), (4, .int a4), (5, .int a5)]) hx hb dX8_feed_114 hl (k := 7) rfl ex114.symm (by decide) rfl (fun ls hl => ?_)
                have hF1 := hF1.trans (fl_lt_eq (show x114.toInt = j23l6.toInt + 1 from qx114))
                refine lv_goto (tgt := 23) hx hb dX8_feed_117 (by decide) ?_
                exact (hK0 _ _ _).mp (ih23 x114 x110 f103 _ _ _ (by first | exact zg_s hm23 qx114 | (have h0 := qx114; omega)) (Int.le_trans zq7 bx114.1) (Int.le_trans bx114.2 zq223) (Int.le_trans zq4 bx110.1) bx110.2 (by omega) (hF0.trans (fl_wh_l (hSX23.trans hF1))) hP hD hS (lv_sub hl [2, 3, 4, 5, 6, 7, 0] rfl))
            · have gc44 := ai_nle c44
              have u44f_j23l6 : j23l6.toInt ≤ (7 : Int) := ai_lthi gc44 zq28
              have hF1 := hF1.trans (if_neg (show ¬ (8 ≤ j23l6.toInt) from Int.not_le.mpr gc44))
              refine lv_iload_n hx hb dX8_feed_47 rfl (lv_at hl 2 rfl) ?_
              refine lv_goto (tgt := 76) hx hb dX8_feed_48 (by decide) ?_
              refine lv_istore (lv' := [(7, .int a2), (0, .ref a0), (1, .int a1), (2, .int a2), (3, .int a3), (4, .int a4), (5, .int a5), (6, .int j23l6)]) hx hb dX8_feed_76 hl (by decide) rfl (fun ls hl => ?_)
              refine lv_aload_n hx hb dX8_feed_78 rfl (lv_at hl 1 rfl) ?_
              refine va_get (D := (dC, dI)) (ci := 8) (v := .ref a0_1) (C := RX8) (T := TX8) (N := 40) hx hb hts zi_X8_feed_8 hown hK hP 0 rfl rfl 1 (by decide) (hts (.fieldLink RX8 7 "WaxTurnsModel" "tape" "[I") (List.mem_cons_of_mem _ (List.mem_append_left _ (List.mem_of_getElem? (i := 2) rfl)))) (fun _ h9 => h9) rfl dX8_feed_79 ?_
              refine lv_aload_n hx hb dX8_feed_82 rfl (lv_at hl 1 rfl) ?_
              refine va_get (D := (dC, dI)) (ci := 8) (v := .int j23a0_2) (C := RX8) (T := TX8) (N := 40) hx hb hts zi_X8_feed_8 hown hK hP 0 rfl rfl 2 (by decide) (hts (.fieldLink RX8 65 "WaxTurnsModel" "taped" "I") (List.mem_cons_of_mem _ (List.mem_append_left _ (List.mem_of_getElem? (i := 1) rfl)))) (fun _ h9 => h9) rfl dX8_feed_83 ?_
              have u83z_j23a0_2 : j23a0_2.toInt ≤ (899 : Int) := by omega
              refine lv_iload hx hb dX8_feed_86 (lv_at hl 0 rfl) ?_
              refine lv_bipush (v := 24) hx hb dX8_feed_88 zk_bipush_24 ?_
              refine lv_bipush (v := 8) hx hb dX8_feed_90 zk_bipush_8 ?_
              refine lv_iload hx hb dX8_feed_92 (lv_at hl 7 rfl) ?_
              refine lv_iconst (v := 4) hx hb dX8_feed_94 zk_iconst_4 ?_
              refine lv_irem hx hb dX8_feed_95 (by decide +kernel) ?_
              refine lv_topi (fun x95 ex95 => ?_)
              have qx95 := ai_rem2 ex95 (Int.le_trans zq101 l33t_j23l6) (Int.lt_of_lt_of_le zq178 zq68) zq67
              have wx95 : x95.toInt = j23l6.toInt % 4 := qx95.1
              have hF1 := hF1.trans (fl_lt_eq (show x95.toInt = j23l6.toInt % 4 from qx95.1))
              refine lv_imul hx hb dX8_feed_96 ?_
              refine lv_topi (fun x96 ex96 => ?_)
              have qx96 : x96.toInt = (8 : Int32).toInt * x95.toInt ∧ (0 : Int) ≤ x96.toInt ∧ x96.toInt ≤ 24 := ai_mul ex96 ⟨zq116, zq28⟩ ⟨qx95.2.1, qx95.2.2⟩ (by decide) (by decide) zq219
              have wx96 : x96.toInt = 8 * x95.toInt := qx96.1
              have hF1 := hF1.trans (fl_lt_eq (show x96.toInt = 8 * x95.toInt from qx96.1))
              refine lv_isub hx hb dX8_feed_97 ?_
              refine lv_topi (fun x97 ex97 => ?_)
              have qx97 : x97.toInt = (24 : Int32).toInt - x96.toInt := ai_sub ex97 ⟨zq132, zq133⟩ ⟨qx96.2.1, qx96.2.2⟩ (by decide) (by decide)
              have bx97 : (0 : Int) ≤ x97.toInt ∧ x97.toInt ≤ 24 := ⟨by rw [qx97]; exact Int.sub_le_sub zq132 qx96.2.2, by rw [qx97]; exact Int.sub_le_sub zq133 qx96.2.1⟩
              have hF1 := hF1.trans (fl_lt_eq (show x97.toInt = 24 - x96.toInt from qx97))
              refine lv_ishr hx hb dX8_feed_98 ?_
              refine lv_topi (fun x98 ex98 => ?_)
              have fqx98 := fl_shr_eq ex98
              have hF1 := hF1.trans (fl_lt_eq (show x98.toInt = fl_shr a2.toInt x97.toInt from fqx98))
              refine lv_sipush (v := 255) hx hb dX8_feed_99 zk_sipush_255 ?_
              refine lv_iand hx hb dX8_feed_102 ?_
              refine lv_topi (fun x102 ex102 => ?_)
              have fqx102 := fl_and_eq ex102
              have hF1 := hF1.trans (fl_lt_eq (show x102.toInt = fl_and x98.toInt 255 from fqx102))
              refine va_iast hx hb hK hP hD hS 1 0 rfl rfl (ai_in bj23a0_2_l u83z_j23a0_2 (by decide) (by decide)) dX8_feed_103 (fun H locs hP hD hS => ?_)
              obtain ⟨f103, ef103⟩ : ∃ g9 : Nat → Int32, g9 = upd j23a0_1_a (j23a0_2 : Int32).toNatClampNeg x102 := ⟨_, rfl⟩
              refine zs_1 (y := (a0_1, .inl (ka0_1, 900, .inl (f103)))) hP hD (by rw [ef103]) (fun hP hD => ?_)
              have fqf103 := fl_up_eq ef103
              have hF1 := hF1.trans (fl_lt_eq (show (fl_A f103) = fl_up (fl_A j23a0_1_a) (j23a0_2.toInt.toNat) x102.toInt from fqf103))
              refine lv_aload_n hx hb dX8_feed_104 rfl (lv_at hl 1 rfl) ?_
              refine lv_dup hx hb dX8_feed_105 rfl ?_
              refine va_get (D := (dC, dI)) (ci := 8) (v := .int j23a0_2) (C := RX8) (T := TX8) (N := 40) hx hb hts zi_X8_feed_8 hown hK hP 0 rfl rfl 2 (by decide) (hts (.fieldLink RX8 65 "WaxTurnsModel" "taped" "I") (List.mem_cons_of_mem _ (List.mem_append_left _ (List.mem_of_getElem? (i := 1) rfl)))) (fun _ h9 => h9) rfl dX8_feed_106 ?_
              refine lv_iconst (v := 1) hx hb dX8_feed_109 zk_iconst_1 ?_
              refine lv_iadd hx hb dX8_feed_110 ?_
              refine lv_topi (fun x110 ex110 => ?_)
              have qx110 : x110.toInt = j23a0_2.toInt + (1 : Int32).toInt := ai_add ex110 ⟨bj23a0_2_l, u83z_j23a0_2⟩ ⟨zq1, zq0⟩ (by decide) (by decide)
              have bx110 : (1 : Int) ≤ x110.toInt ∧ x110.toInt ≤ 900 := ⟨by rw [qx110]; exact Int.add_le_add bj23a0_2_l zq1, by rw [qx110]; exact Int.add_le_add u83z_j23a0_2 zq0⟩
              have wx110 : x110.toInt = j23a0_2.toInt + 1 := qx110
              have hF1 := hF1.trans (fl_lt_eq (show x110.toInt = j23a0_2.toInt + 1 from qx110))
              refine va_put (D := (dC, dI)) (ci := 8) (v := .int x110) (ty := .int) (C := RX8) (T := TX8) (N := 40) hx hb hts zi_X8_feed_8 tyX8 tyX8_ok nmX8 hown hK hP hD hS 0 rfl rfl 2 (by decide) (hts (.fieldLink RX8 65 "WaxTurnsModel" "taped" "I") (List.mem_cons_of_mem _ (List.mem_append_left _ (List.mem_of_getElem? (i := 1) rfl)))) (fun _ h9 => h9) rfl (tyX8_ok 2 (by decide)) rfl rfl (Nat.le_of_ble_eq_true rfl) dX8_feed_111 (fun H locs hP hD hS => ?_)
              refine zs_0 (y := (a0, .inr (8, [Value.int 0, Value.ref a0_1, Value.int x110, a0g_3, a0g_4, a0g_5, a0g_6, a0g_7, a0g_8, a0g_9, a0g_10, a0g_11, a0g_12, a0g_13, a0g_14, a0g_15, a0g_16, a0g_17, a0g_18, a0g_19, a0g_20, a0g_21, a0g_22, a0g_23, a0g_24, a0g_25, a0g_26, a0g_27, a0g_28, a0g_29, a0g_30, a0g_31, a0g_32, a0g_33, a0g_34, a0g_35, a0g_36, a0g_37, a0g_38, a0g_39]))) hP hD rfl (fun hP hD => ?_)
              obtain ⟨x114, ex114⟩ : ∃ y : Int32, y = j23l6 + Int32.ofInt 1 := ⟨_, rfl⟩
              have qx114 : x114.toInt = j23l6.toInt + 1 := ai_inc ex114 (by decide) (by decide) u44f_j23l6 (by decide)
              have bx114 : (5 : Int) ≤ x114.toInt ∧ x114.toInt ≤ 8 := ⟨by rw [qx114]; exact Int.add_le_add l33t_j23l6 (Int.le_refl _), by rw [qx114]; exact Int.add_le_add u44f_j23l6 (Int.le_refl _)⟩
              refine lv_iinc (v := x114) (lv' := [(6, .int x114), (7, .int a2), (0, .ref a0), (1, .int a1), (2, .int a2), (3, .int a3), (4, .int a4), (5, .int a5)]) hx hb dX8_feed_114 hl (k := 7) rfl ex114.symm (by decide) rfl (fun ls hl => ?_)
              have hF1 := hF1.trans (fl_lt_eq (show x114.toInt = j23l6.toInt + 1 from qx114))
              refine lv_goto (tgt := 23) hx hb dX8_feed_117 (by decide) ?_
              exact (hK0 _ _ _).mp (ih23 x114 x110 f103 _ _ _ (by first | exact zg_s hm23 qx114 | (have h0 := qx114; omega)) (Int.le_trans zq224 bx114.1) (Int.le_trans bx114.2 zq225) (Int.le_trans zq4 bx110.1) bx110.2 (by omega) (hF0.trans (fl_wh_l (hSX23.trans hF1))) hP hD hS (lv_sub hl [2, 3, 4, 5, 6, 7, 0] rfl))
          · have gc33 := ai_nle c33
            have u33f_j23l6 : j23l6.toInt ≤ (3 : Int) := ai_lthi gc33 zq67
            have hF1 := hF1.trans (if_neg (show ¬ (4 ≤ j23l6.toInt) from Int.not_le.mpr gc33))
            refine lv_iload_n hx hb dX8_feed_36 rfl (lv_at hl 1 rfl) ?_
            refine lv_goto (tgt := 76) hx hb dX8_feed_37 (by decide) ?_
            refine lv_istore (lv' := [(7, .int a1), (0, .ref a0), (1, .int a1), (2, .int a2), (3, .int a3), (4, .int a4), (5, .int a5), (6, .int j23l6)]) hx hb dX8_feed_76 hl (by decide) rfl (fun ls hl => ?_)
            refine lv_aload_n hx hb dX8_feed_78 rfl (lv_at hl 1 rfl) ?_
            refine va_get (D := (dC, dI)) (ci := 8) (v := .ref a0_1) (C := RX8) (T := TX8) (N := 40) hx hb hts zi_X8_feed_8 hown hK hP 0 rfl rfl 1 (by decide) (hts (.fieldLink RX8 7 "WaxTurnsModel" "tape" "[I") (List.mem_cons_of_mem _ (List.mem_append_left _ (List.mem_of_getElem? (i := 2) rfl)))) (fun _ h9 => h9) rfl dX8_feed_79 ?_
            refine lv_aload_n hx hb dX8_feed_82 rfl (lv_at hl 1 rfl) ?_
            refine va_get (D := (dC, dI)) (ci := 8) (v := .int j23a0_2) (C := RX8) (T := TX8) (N := 40) hx hb hts zi_X8_feed_8 hown hK hP 0 rfl rfl 2 (by decide) (hts (.fieldLink RX8 65 "WaxTurnsModel" "taped" "I") (List.mem_cons_of_mem _ (List.mem_append_left _ (List.mem_of_getElem? (i := 1) rfl)))) (fun _ h9 => h9) rfl dX8_feed_83 ?_
            have u83z_j23a0_2 : j23a0_2.toInt ≤ (899 : Int) := by omega
            refine lv_iload hx hb dX8_feed_86 (lv_at hl 0 rfl) ?_
            refine lv_bipush (v := 24) hx hb dX8_feed_88 zk_bipush_24 ?_
            refine lv_bipush (v := 8) hx hb dX8_feed_90 zk_bipush_8 ?_
            refine lv_iload hx hb dX8_feed_92 (lv_at hl 7 rfl) ?_
            refine lv_iconst (v := 4) hx hb dX8_feed_94 zk_iconst_4 ?_
            refine lv_irem hx hb dX8_feed_95 (by decide +kernel) ?_
            refine lv_topi (fun x95 ex95 => ?_)
            have qx95 := ai_rem2 ex95 bj23l6_l (Int.lt_of_lt_of_le zq178 zq68) zq67
            have wx95 : x95.toInt = j23l6.toInt % 4 := qx95.1
            have hF1 := hF1.trans (fl_lt_eq (show x95.toInt = j23l6.toInt % 4 from qx95.1))
            refine lv_imul hx hb dX8_feed_96 ?_
            refine lv_topi (fun x96 ex96 => ?_)
            have qx96 : x96.toInt = (8 : Int32).toInt * x95.toInt ∧ (0 : Int) ≤ x96.toInt ∧ x96.toInt ≤ 24 := ai_mul ex96 ⟨zq116, zq28⟩ ⟨qx95.2.1, qx95.2.2⟩ (by decide) (by decide) zq219
            have wx96 : x96.toInt = 8 * x95.toInt := qx96.1
            have hF1 := hF1.trans (fl_lt_eq (show x96.toInt = 8 * x95.toInt from qx96.1))
            refine lv_isub hx hb dX8_feed_97 ?_
            refine lv_topi (fun x97 ex97 => ?_)
            have qx97 : x97.toInt = (24 : Int32).toInt - x96.toInt := ai_sub ex97 ⟨zq132, zq133⟩ ⟨qx96.2.1, qx96.2.2⟩ (by decide) (by decide)
            have bx97 : (0 : Int) ≤ x97.toInt ∧ x97.toInt ≤ 24 := ⟨by rw [qx97]; exact Int.sub_le_sub zq132 qx96.2.2, by rw [qx97]; exact Int.sub_le_sub zq133 qx96.2.1⟩
            have hF1 := hF1.trans (fl_lt_eq (show x97.toInt = 24 - x96.toInt from qx97))
            refine lv_ishr hx hb dX8_feed_98 ?_
            refine lv_topi (fun x98 ex98 => ?_)
            have fqx98 := fl_shr_eq ex98
            have hF1 := hF1.trans (fl_lt_eq (show x98.toInt = fl_shr a1.toInt x97.toInt from fqx98))
            refine lv_sipush (v := 255) hx hb dX8_feed_99 zk_sipush_255 ?_
            refine lv_iand hx hb dX8_feed_102 ?_
            refine lv_topi (fun x102 ex102 => ?_)
            have fqx102 := fl_and_eq ex102
            have hF1 := hF1.trans (fl_lt_eq (show x102.toInt = fl_and x98.toInt 255 from fqx102))
            refine va_iast hx hb hK hP hD hS 1 0 rfl rfl (ai_in bj23a0_2_l u83z_j23a0_2 (by decide) (by decide)) dX8_feed_103 (fun H locs hP hD hS => ?_)
            obtain ⟨f103, ef103⟩ : ∃ g9 : Nat → Int32, g9 = upd j23a0_1_a (j23a0_2 : Int32).toNatClampNeg x102 := ⟨_, rfl⟩
            refine zs_1 (y := (a0_1, .inl (ka0_1, 900, .inl (f103)))) hP hD (by rw [ef103]) (fun hP hD => ?_)
            have fqf103 := fl_up_eq ef103
            have hF1 := hF1.trans (fl_lt_eq (show (fl_A f103) = fl_up (fl_A j23a0_1_a) (j23a0_2.toInt.toNat) x102.toInt from fqf103))
            refine lv_aload_n hx hb dX8_feed_104 rfl (lv_at hl 1 rfl) ?_
            refine lv_dup hx hb dX8_feed_105 rfl ?_
            refine va_get (D := (dC, dI)) (ci := 8) (v := .int j23a0_2) (C := RX8) (T := TX8) (N := 40) hx hb hts zi_X8_feed_8 hown hK hP 0 rfl rfl 2 (by decide) (hts (.fieldLink RX8 65 "WaxTurnsModel" "taped" "I") (List.mem_cons_of_mem _ (List.mem_append_left _ (List.mem_of_getElem? (i := 1) rfl)))) (fun _ h9 => h9) rfl dX8_feed_106 ?_
            refine lv_iconst (v := 1) hx hb dX8_feed_109 zk_iconst_1 ?_
            refine lv_iadd hx hb dX8_feed_110 ?_
            refine lv_topi (fun x110 ex110 => ?_)
            have qx110 : x110.toInt = j23a0_2.toInt + (1 : Int32).toInt := ai_add ex110 ⟨bj23a0_2_l, u83z_j23a0_2⟩ ⟨zq1, zq0⟩ (by decide) (by decide)
            have bx110 : (1 : Int) ≤ x110.toInt ∧ x110.toInt ≤ 900 := ⟨by rw [qx110]; exact Int.add_le_add bj23a0_2_l zq1, by rw [qx110]; exact Int.add_le_add u83z_j23a0_2 zq0⟩
            have wx110 : x110.toInt = j23a0_2.toInt + 1 := qx110
            have hF1 := hF1.trans (fl_lt_eq (show x110.toInt = j23a0_2.toInt + 1 from qx110))
            refine va_put (D := (dC, dI)) (ci := 8) (v := .int x110) (ty := .int) (C := RX8) (T := TX8) (N := 40) hx hb hts zi_X8_feed_8 tyX8 tyX8_ok nmX8 hown hK hP hD hS 0 rfl rfl 2 (by decide) (hts (.fieldLink RX8 65 "WaxTurnsModel" "taped" "I") (List.mem_cons_of_mem _ (List.mem_append_left _ (List.mem_of_getElem? (i := 1) rfl)))) (fun _ h9 => h9) rfl (tyX8_ok 2 (by decide)) rfl rfl (Nat.le_of_ble_eq_true rfl) dX8_feed_111 (fun H locs hP hD hS => ?_)
            refine zs_0 (y := (a0, .inr (8, [Value.int 0, Value.ref a0_1, Value.int x110, a0g_3, a0g_4, a0g_5, a0g_6, a0g_7, a0g_8, a0g_9, a0g_10, a0g_11, a0g_12, a0g_13, a0g_14, a0g_15, a0g_16, a0g_17, a0g_18, a0g_19, a0g_20, a0g_21, a0g_22, a0g_23, a0g_24, a0g_25, a0g_26, a0g_27, a0g_28, a0g_29, a0g_30, a0g_31, a0g_32, a0g_33, a0g_34, a0g_35, a0g_36, a0g_37, a0g_38, a0g_39]))) hP hD rfl (fun hP hD => ?_)
            obtain ⟨x114, ex114⟩ : ∃ y : Int32, y = j23l6 + Int32.ofInt 1 := ⟨_, rfl⟩
            have qx114 : x114.toInt = j23l6.toInt + 1 := ai_inc ex114 (by decide) (by decide) u33f_j23l6 (by decide)
            have bx114 : (1 : Int) ≤ x114.toInt ∧ x114.toInt ≤ 4 := ⟨by rw [qx114]; exact Int.add_le_add bj23l6_l (Int.le_refl _), by rw [qx114]; exact Int.add_le_add u33f_j23l6 (Int.le_refl _)⟩
            refine lv_iinc (v := x114) (lv' := [(6, .int x114), (7, .int a1), (0, .ref a0), (1, .int a1), (2, .int a2), (3, .int a3), (4, .int a4), (5, .int a5)]) hx hb dX8_feed_114 hl (k := 7) rfl ex114.symm (by decide) rfl (fun ls hl => ?_)
            have hF1 := hF1.trans (fl_lt_eq (show x114.toInt = j23l6.toInt + 1 from qx114))
            refine lv_goto (tgt := 23) hx hb dX8_feed_117 (by decide) ?_
            exact (hK0 _ _ _).mp (ih23 x114 x110 f103 _ _ _ (by first | exact zg_s hm23 qx114 | (have h0 := qx114; omega)) (Int.le_trans zq4 bx114.1) (Int.le_trans bx114.2 zq226) (Int.le_trans zq4 bx110.1) bx110.2 (by omega) (hF0.trans (fl_wh_l (hSX23.trans hF1))) hP hD hS (lv_sub hl [2, 3, 4, 5, 6, 7, 0] rfl))
    exact (hK0 _ _ _).mp (J23 21 0 a0_2 fa0_1 _ _ _ (by first | decide +kernel | (have h1 : (0 : Int) ≤ (0 : Int32).toInt := zq5; have h2 : (0 : Int32).toInt ≤ (0 : Int) := zq6; omega)) zq5 (Int.le_trans zq6 zq191) ba0_2_l (Int.le_trans u15t_a0_2 zq227) (by have h1 : (0 : Int32).toInt = 0 := (by decide); omega) (by rw [show (0 : Int32).toInt = 0 from by decide]; exact hF0) hP hD hS (lv_sub hl [1, 2, 3, 4, 5, 6, 0] rfl))
  · have gc15 := ai_nle c15
    have l15f_x11 : (901 : Int) ≤ x11.toInt := ai_ltlo gc15 zq37
    have l15f_a0_2 : (881 : Int) ≤ a0_2.toInt := by have h1 := wx11; have h2 := l15f_x11; omega
    have hF0 := hF0.trans (if_neg (show ¬ (x11.toInt ≤ 900) from Int.not_le.mpr gc15))
    refine lv_iconst (v := (-1)) hx hb dX8_feed_18 zk_iconst_n1 ?_
    have hFe : FX = ((-1), 0, a0_2.toInt, (fl_A fa0_1)) := hF0
    exact W.iret (v := (-1)) hx hb hr (fun t ht hW => ⟨⟨(-1), (), rfl, ⟨(Or.inl ⟨rfl, by omega⟩), (congrArg Prod.fst hFe).symm⟩, 0, a0_2, fa0_1, ⟨Int.le_trans (by decide) l15f_a0_2, ba0_2_u⟩, (by constructor <;> intro h9 <;> omega), (congrArg Prod.snd hFe), by rw [ht]; exact hP, va_K.moved hW.alike hK, hD⟩, hS.F ht⟩) hS.2.2 dX8_feed_19
end P313_01_f
