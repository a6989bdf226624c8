section P311_04_f
set_option maxHeartbeats 4000000 in
set_option maxRecDepth 100000 in
theorem f_X3_read (l : Launch) (dC : Nat → ClassId) (dI : Nat → Nat → Nat) (sz : Nat) (a0 : Nat) (a1 : Int32) (a0_0 : Int32) (a0_1 : Int32) (a0_2 : Int32) (a0_3 : Nat) (a0_4 : Nat) (a0_5 : Nat) (a0_6 : Int32) (a0_7 : Int32) (a0_8 : Int32) (a0_9 : Int32) (a0_10 : Int32) (a0_11 : Int64) (a0_12 : Int32) (a0_13 : Int32) (a0_5_0 : Int32) (a0_5_1 : Int32) (a0_5_2 : Int32) (a0_5_3 : Int32) (a0_5_4 : Int32) (a0_5_5 : Int32) (a0_5_6 : Int32) (a0_5_7 : Int32) (a0_5_8 : Int32) (a0_5_9 : Int32) (a0_5_10 : Nat) (a0_5_11 : Nat) (a0_5_12 : Nat) (a0_5_13 : Nat) (a0_5_14 : Nat) (a0_5_14_0 : Int32) (a0_5_14g_1 : Value) (a0_5_14_2 : Nat) (a0_5_14_3 : Nat) (ka0_5_10 : ClassId) (fa0_5_10 : Nat → Int32) (ka0_5_11 : ClassId) (fa0_5_11 : Nat → Int32) (ka0_3 : ClassId) (fa0_3 : Nat → Int32) (ka0_4 : ClassId) (fa0_4 : Nat → Int64) (ka0_5_14_2 : ClassId) (fa0_5_14_2 : Nat → Int32) (ka0_5_14_3 : ClassId) (fa0_5_14_3 : Nat → Int32) (ka0_5_13 : ClassId) (fa0_5_13 : Nat → Int32) (ka0_5_12 : ClassId) (fa0_5_12 : Nat → Int32) (ad : Nat → Nat) (ba1_l : (0 : Int) ≤ a1.toInt) (ba1_u : a1.toInt ≤ (900 : Int)) (ba0_0_l : (0 : Int) ≤ a0_0.toInt) (ba0_0_u : a0_0.toInt ≤ (900 : Int)) (ba0_6_l : (0 : Int) ≤ a0_6.toInt) (ba0_6_u : a0_6.toInt ≤ (12 : Int)) (ba0_7_l : (0 : Int) ≤ a0_7.toInt) (ba0_7_u : a0_7.toInt ≤ (900 : Int)) (ba0_8_l : (0 : Int) ≤ a0_8.toInt) (ba0_8_u : a0_8.toInt ≤ (900 : Int)) (ba0_9_l : (0 : Int) ≤ a0_9.toInt) (ba0_9_u : a0_9.toInt ≤ (900 : Int)) (ba0_10_l : (0 : Int) ≤ a0_10.toInt) (ba0_10_u : a0_10.toInt ≤ (4 : Int)) (ba0_5_0_l : (0 : Int) ≤ a0_5_0.toInt) (ba0_5_0_u : a0_5_0.toInt ≤ (9 : Int)) (ba0_5_4_l : (0 : Int) ≤ a0_5_4.toInt) (ba0_5_4_u : a0_5_4.toInt ≤ (1 : Int)) (ba0_5_5_l : (0 : Int) ≤ a0_5_5.toInt) (ba0_5_5_u : a0_5_5.toInt ≤ (8 : Int)) (ba0_5_6_l : (0 : Int) ≤ a0_5_6.toInt) (ba0_5_6_u : a0_5_6.toInt ≤ (8 : Int)) (ba0_5_7_l : (0 : Int) ≤ a0_5_7.toInt) (ba0_5_7_u : a0_5_7.toInt ≤ (8 : Int)) (ba0_5_9_l : (0 : Int) ≤ a0_5_9.toInt) (ba0_5_9_u : a0_5_9.toInt ≤ (6 : Int)) (ba0_5_14_0_l : (0 : Int) ≤ a0_5_14_0.toInt) (ba0_5_14_0_u : a0_5_14_0.toInt ≤ (3 : Int)) (bfa0_5_14_2 : (∀ k, (0 : Int) ≤ (fa0_5_14_2 k).toInt ∧ (fa0_5_14_2 k).toInt ≤ 80)) (bfa0_5_14_3 : (∀ k, (0 : Int) ≤ (fa0_5_14_3 k).toInt ∧ (fa0_5_14_3 k).toInt ≤ 80)) (bfa0_5_13 : (∀ k, (0 : Int) ≤ (fa0_5_13 k).toInt ∧ (fa0_5_13 k).toInt ≤ 999)) : zm l yX3_read wsX3_read ({ frames := 8, cells := 0, slots := 0, locals := 174 }) [.ref a0, .int a1] dC dI sz [(a0, .inr (3, [.int a0_0, .int a0_1, .int a0_2, .ref a0_3, .ref a0_4, .ref a0_5, .int a0_6, .int a0_7, .int a0_8, .int a0_9, .int a0_10, .long a0_11, .int a0_12, .int a0_13])), (a0_5, .inr (0, [.int a0_5_0, .int a0_5_1, .int a0_5_2, .int a0_5_3, .int a0_5_4, .int a0_5_5, .int a0_5_6, .int a0_5_7, .int a0_5_8, .int a0_5_9, .ref a0_5_10, .ref a0_5_11, .ref a0_5_12, .ref a0_5_13, .ref a0_5_14])), (a0_5_14, .inr (6, [.int a0_5_14_0, a0_5_14g_1, .ref a0_5_14_2, .ref a0_5_14_3])), (a0_5_10, .inl (ka0_5_10, 9, .inl (fa0_5_10))), (a0_5_11, .inl (ka0_5_11, 9, .inl (fa0_5_11))), (a0_3, .inl (ka0_3, 900, .inl (fa0_3))), (a0_4, .inl (ka0_4, 12, .inr (.inl (fa0_4)))), (a0_5_14_2, .inl (ka0_5_14_2, 3, .inl (fa0_5_14_2))), (a0_5_14_3, .inl (ka0_5_14_3, 3, .inl (fa0_5_14_3))), (a0_5_13, .inl (ka0_5_13, 6, .inl (fa0_5_13))), (a0_5_12, .inl (ka0_5_12, 6, .inl (fa0_5_12)))] [(ka0_5_10, .int), (ka0_5_11, .int), (ka0_3, .byte), (ka0_4, .long), (ka0_5_14_2, .int), (ka0_5_14_3, .int), (ka0_5_13, .int), (ka0_5_12, .int)] (fun A U => sxc_T ad A U ∧ va_Nw (.methodLinkNest RX3 223 yX7_within RX7) U ∧ va_Nw (.methodLinkNest RX3 196 yX7_hasBit RX7) U) (fun A => va_Qi (fun (r : Int32) (_ : Unit) => ((r = 1) ∨ (r = 0)) ∧ r.toInt = (Ff_X3_read a1.toInt a0_0.toInt a0_11.toInt a0_12.toInt a0_13.toInt a0_5_1.toInt a0_5_2.toInt a0_5_3.toInt a0_5_5.toInt a0_5_6.toInt a0_5_7.toInt (fl_A fa0_5_10) (fl_A fa0_5_11) (fl_A fa0_3) (fl_L fa0_4) (fl_A fa0_5_14_2) (fl_A fa0_5_14_3) (fl_A fa0_5_13) (fl_A fa0_5_12)).1) (fun (_ : Unit) (t : State) => ∃ na0_1 : Int32, ∃ na0_2 : Int32, ∃ na0_6 : Int32, ∃ na0_7 : Int32, ∃ na0_8 : Int32, ∃ na0_9 : Int32, ∃ na0_10 : Int32, ∃ na0_11 : Int64, ∃ na0_12 : Int32, ∃ na0_13 : Int32, ∃ na0_5_0 : Int32, ∃ na0_5_1 : Int32, ∃ na0_5_2 : Int32, ∃ na0_5_3 : Int32, ∃ na0_5_4 : Int32, ∃ na0_5_5 : Int32, ∃ na0_5_6 : Int32, ∃ na0_5_7 : Int32, ∃ na0_5_8 : Int32, ∃ na0_5_9 : Int32, ∃ na0_5_14_0 : Int32, ∃ nfa0_5_10 : Nat → Int32, ∃ nfa0_5_11 : Nat → Int32, ∃ nfa0_4 : Nat → Int64, ∃ nfa0_5_14_2 : Nat → Int32, ∃ nfa0_5_14_3 : Nat → Int32, ∃ nfa0_5_13 : Nat → Int32, ∃ nfa0_5_12 : Nat → Int32, ((0 : Int) ≤ na0_6.toInt ∧ na0_6.toInt ≤ 12) ∧ ((0 : Int) ≤ na0_7.toInt ∧ na0_7.toInt ≤ 900) ∧ ((0 : Int) ≤ na0_8.toInt ∧ na0_8.toInt ≤ 900) ∧ ((0 : Int) ≤ na0_9.toInt ∧ na0_9.toInt ≤ 900) ∧ ((0 : Int) ≤ na0_10.toInt ∧ na0_10.toInt ≤ 4) ∧ ((0 : Int) ≤ na0_5_0.toInt ∧ na0_5_0.toInt ≤ 9) ∧ ((0 : Int) ≤ na0_5_4.toInt ∧ na0_5_4.toInt ≤ 1) ∧ ((0 : Int) ≤ na0_5_5.toInt ∧ na0_5_5.toInt ≤ 8) ∧ ((0 : Int) ≤ na0_5_6.toInt ∧ na0_5_6.toInt ≤ 8) ∧ ((0 : Int) ≤ na0_5_7.toInt ∧ na0_5_7.toInt ≤ 8) ∧ ((0 : Int) ≤ na0_5_9.toInt ∧ na0_5_9.toInt ≤ 6) ∧ ((0 : Int) ≤ na0_5_14_0.toInt ∧ na0_5_14_0.toInt ≤ 3) ∧ (∀ k, (0 : Int) ≤ (nfa0_5_14_2 k).toInt ∧ (nfa0_5_14_2 k).toInt ≤ 80) ∧ (∀ k, (0 : Int) ≤ (nfa0_5_14_3 k).toInt ∧ (nfa0_5_14_3 k).toInt ≤ 80) ∧ (∀ k, (0 : Int) ≤ (nfa0_5_13 k).toInt ∧ (nfa0_5_13 k).toInt ≤ 999) ∧ ((Ff_X3_read a1.toInt a0_0.toInt a0_11.toInt a0_12.toInt a0_13.toInt a0_5_1.toInt a0_5_2.toInt a0_5_3.toInt a0_5_5.toInt a0_5_6.toInt a0_5_7.toInt (fl_A fa0_5_10) (fl_A fa0_5_11) (fl_A fa0_3) (fl_L fa0_4) (fl_A fa0_5_14_2) (fl_A fa0_5_14_3) (fl_A fa0_5_13) (fl_A fa0_5_12)).2 = (na0_1.toInt, na0_2.toInt, na0_6.toInt, na0_7.toInt, na0_8.toInt, na0_9.toInt, na0_10.toInt, na0_11.toInt, na0_12.toInt, na0_13.toInt, na0_5_0.toInt, na0_5_1.toInt, na0_5_2.toInt, na0_5_3.toInt, na0_5_4.toInt, na0_5_5.toInt, na0_5_6.toInt, na0_5_7.toInt, na0_5_8.toInt, na0_5_9.toInt, na0_5_14_0.toInt, (fl_A nfa0_5_10), (fl_A nfa0_5_11), (fl_L nfa0_4), (fl_A nfa0_5_14_2), (fl_A nfa0_5_14_3), (fl_A nfa0_5_13), (fl_A nfa0_5_12))) ∧ ax_B dC dI A [(a0, .inr (3, [.int 0, .int na0_1, .int na0_2, .ref a0_3, .ref a0_4, .ref a0_5, .int na0_6, .int na0_7, .int na0_8, .int na0_9, .int na0_10, .long na0_11, .int na0_12, .int na0_13])), (a0_5, .inr (0, [.int na0_5_0, .int na0_5_1, .int na0_5_2, .int na0_5_3, .int na0_5_4, .int na0_5_5, .int na0_5_6, .int na0_5_7, .int na0_5_8, .int na0_5_9, .ref a0_5_10, .ref a0_5_11, .ref a0_5_12, .ref a0_5_13, .ref a0_5_14])), (a0_5_14, .inr (6, [.int na0_5_14_0, a0_5_14g_1, .ref a0_5_14_2, .ref a0_5_14_3])), (a0_5_10, .inl (ka0_5_10, 9, .inl (nfa0_5_10))), (a0_5_11, .inl (ka0_5_11, 9, .inl (nfa0_5_11))), (a0_3, .inl (ka0_3, 900, .inl (fa0_3))), (a0_4, .inl (ka0_4, 12, .inr (.inl (nfa0_4)))), (a0_5_14_2, .inl (ka0_5_14_2, 3, .inl (nfa0_5_14_2))), (a0_5_14_3, .inl (ka0_5_14_3, 3, .inl (nfa0_5_14_3))), (a0_5_13, .inl (ka0_5_13, 6, .inl (nfa0_5_13))), (a0_5_12, .inl (ka0_5_12, 6, .inl (nfa0_5_12)))] [(ka0_5_10, .int), (ka0_5_11, .int), (ka0_3, .byte), (ka0_4, .long), (ka0_5_14_2, .int), (ka0_5_14_3, .int), (ka0_5_13, .int), (ka0_5_12, .int)] t) A) := by
  refine zh (cc := cX3_read) (maxL := 4) (ret := (some .boolean)) zn_RX3 rfl (Nat.le_of_ble_eq_true rfl) (fun p e s m below meth c A ls hx hb hml hr hts (hown : s.vm.findClass RX3 = some m.cls) hlocks hA hS hP hK hD hE (hl : lv_has ls 4 [(0, .ref a0), (1, .int a1)]) => ?_)
  obtain ⟨hE0, hE1, hE2⟩ := hE
  generalize hFX : Ff_X3_read a1.toInt a0_0.toInt a0_11.toInt a0_12.toInt a0_13.toInt a0_5_1.toInt a0_5_2.toInt a0_5_3.toInt a0_5_5.toInt a0_5_6.toInt a0_5_7.toInt (fl_A fa0_5_10) (fl_A fa0_5_11) (fl_A fa0_3) (fl_L fa0_4) (fl_A fa0_5_14_2) (fl_A fa0_5_14_3) (fl_A fa0_5_13) (fl_A fa0_5_12) = FX at ⊢
  have hF0 := hFX.symm.trans (Ff_X3_read.eq_1 a1.toInt a0_0.toInt a0_11.toInt a0_12.toInt a0_13.toInt a0_5_1.toInt a0_5_2.toInt a0_5_3.toInt a0_5_5.toInt a0_5_6.toInt a0_5_7.toInt (fl_A fa0_5_10) (fl_A fa0_5_11) (fl_A fa0_3) (fl_L fa0_4) (fl_A fa0_5_14_2) (fl_A fa0_5_14_3) (fl_A fa0_5_13) (fl_A fa0_5_12))
  refine ai_open (fun K hK0 => ?_)
  refine (hK0 _ _ _).mpr ?_
  refine lv_aload_n hx hb dX3_read_0 rfl (lv_at hl 0 rfl) ?_
  refine lv_iload_n hx hb dX3_read_1 rfl (lv_at hl 1 rfl) ?_
  refine lv_aload_n hx hb dX3_read_2 rfl (lv_at hl 0 rfl) ?_
  refine va_get (D := (dC, dI)) (ci := 3) (v := .int a0_0) (C := RX3) (T := TX3) (N := 14) hx hb hts zi_X3_read_3 hown hK hP 0 rfl rfl 0 (by decide) (hts (.fieldLink RX3 26 "WaxTurns$Reade\x72" "tapeSize" "I") (zm_X3_read_r1 (List.mem_of_getElem? (i := 0) rfl))) (fun _ h9 => h9) rfl dX3_read_3 ?_
  refine va_mmin hx hb (by rw [hml]; exact hl.1.symm) hown (hts (.methodLink RX3 30 Lib.Math.min.name) (zm_X3_read_r1 (List.mem_of_getElem? (i := 1) rfl))) (hts (.static Lib.Math.min.name) (zm_X3_read_r1 (List.mem_of_getElem? (i := 2) rfl))) (hts (.initialized "java/lang/Math") (zm_X3_read_r1 (List.mem_of_getElem? (i := 3) rfl))) (hts _ mnX3_read) (Nat.le_of_ble_eq_true rfl) (Nat.le_of_ble_eq_true rfl) (Nat.le_of_ble_eq_true rfl) (Nat.le_of_ble_eq_true rfl) dX3_read_6 ?_
  refine lv_topi (fun x6 ex6 => ?_)
  have qx6 := ai_mmin ex6
  have bx6 : (0 : Int) ≤ x6.toInt ∧ x6.toInt ≤ 900 := by have h1 := ba1_l; have h2 := ba0_0_l; have h3 := ba1_u; have h4 := ba0_0_u; omega
  have fqx6 := fl_min_eq ex6
  have hF0 := hF0.trans (fl_lt_eq (show x6.toInt = fl_min a1.toInt a0_0.toInt from fqx6))
  refine va_put (D := (dC, dI)) (ci := 3) (v := .int x6) (ty := .int) (C := RX3) (T := TX3) (N := 14) hx hb hts zi_X3_read_3 tyX3 tyX3_ok nmX3 hown hK hP hD hS 0 rfl rfl 7 (by decide) (hts (.fieldLink RX3 36 "WaxTurns$Reade\x72" "end" "I") (zm_X3_read_r1 (List.mem_of_getElem? (i := 5) rfl))) (fun _ h9 => h9) rfl (tyX3_ok 7 (by decide)) rfl rfl (Nat.le_of_ble_eq_true rfl) dX3_read_9 (fun H locs hP hD hS => ?_)
  refine zs_0 (y := (a0, .inr (3, [.int a0_0, .int a0_1, .int a0_2, .ref a0_3, .ref a0_4, .ref a0_5, .int a0_6, .int x6, .int a0_8, .int a0_9, .int a0_10, .long a0_11, .int a0_12, .int a0_13]))) hP hD rfl (fun hP hD => ?_)
  refine lv_aload_n hx hb dX3_read_12 rfl (lv_at hl 0 rfl) ?_
  refine lv_iconst (v := 0) hx hb dX3_read_13 zk_iconst_0 ?_
  refine va_put (D := (dC, dI)) (ci := 3) (v := .int 0) (ty := .int) (C := RX3) (T := TX3) (N := 14) hx hb hts zi_X3_read_3 tyX3 tyX3_ok nmX3 hown hK hP hD hS 0 rfl rfl 0 (by decide) (hts (.fieldLink RX3 26 "WaxTurns$Reade\x72" "tapeSize" "I") (zm_X3_read_r1 (List.mem_of_getElem? (i := 0) rfl))) (fun _ h9 => h9) rfl (tyX3_ok 0 (by decide)) rfl rfl (Nat.le_of_ble_eq_true rfl) dX3_read_14 (fun H locs hP hD hS => ?_)
  refine zs_0 (y := (a0, .inr (3, [.int 0, .int a0_1, .int a0_2, .ref a0_3, .ref a0_4, .ref a0_5, .int a0_6, .int x6, .int a0_8, .int a0_9, .int a0_10, .long a0_11, .int a0_12, .int a0_13]))) hP hD rfl (fun hP hD => ?_)
  refine lv_aload_n hx hb dX3_read_17 rfl (lv_at hl 0 rfl) ?_
  refine va_get (D := (dC, dI)) (ci := 3) (v := .ref a0_5) (C := RX3) (T := TX3) (N := 14) hx hb hts zi_X3_read_3 hown hK hP 0 rfl rfl 5 (by decide) (hts (.fieldLink RX3 22 "WaxTurns$Reade\x72" "draft" "LWaxTurns$Hall;") (zm_X3_read_r1 (List.mem_of_getElem? (i := 6) rfl))) (fun _ h9 => h9) rfl dX3_read_18 ?_
  refine zc_cutc (wc := [(a0_5, .inr (0, [.int a0_5_0, .int a0_5_1, .int a0_5_2, .int a0_5_3, .int a0_5_4, .int a0_5_5, .int a0_5_6, .int a0_5_7, .int a0_5_8, .int a0_5_9, .ref a0_5_10, .ref a0_5_11, .ref a0_5_12, .ref a0_5_13, .ref a0_5_14])), (a0_5_14, .inr (6, [.int a0_5_14_0, a0_5_14g_1, .ref a0_5_14_2, .ref a0_5_14_3])), (a0_5_10, .inl (ka0_5_10, 9, .inl (fa0_5_10))), (a0_5_11, .inl (ka0_5_11, 9, .inl (fa0_5_11)))]) hP hD hS hA [1, 2, 3, 4] (by decide +kernel) rfl (fun hPc hDc hFc hCc => ?_)
  have hKc := hK.sub (tys' := [(ka0_5_10, .int), (ka0_5_11, .int)]) [0, 1] rfl
  refine va_callv (va_runV (As := []) (rest := []) ⟨hx, hb, hml, hown, hts⟩ (f_X0_clear l dC dI H.size a0_5 a0_5_0 (.int a0_5_1) (.int a0_5_2) (.int a0_5_3) (.int a0_5_5) (.int a0_5_6) (.int a0_5_7) (.ref a0_5_12) (.ref a0_5_13) a0_5_4 a0_5_8 a0_5_9 a0_5_10 a0_5_11 a0_5_14 a0_5_14_0 a0_5_14g_1 (.ref a0_5_14_2) (.ref a0_5_14_3) ka0_5_10 fa0_5_10 ka0_5_11 fa0_5_11 ba0_5_0_l ba0_5_0_u ba0_5_4_l ba0_5_4_u ba0_5_9_l ba0_5_9_u ba0_5_14_0_l ba0_5_14_0_u) (cwV 0 hts gX3_read_X0_clear rfl rfl rfl zd_X0_clear ⟨Nat.le_of_ble_eq_true rfl, Nat.le_of_ble_eq_true rfl⟩) ⟨ax_blind (fun _ _ _ _ _ => trivial), zr_0 hKc hPc (q0 := 0) rfl, ax_pre hPc hKc hDc (fun _ _ => trivial)⟩ rfl rfl hl.1 rfl (lv_room (Nat.le_of_ble_eq_true rfl)) dX3_read_21 ⟨Nat.le_of_ble_eq_true rfl, Nat.le_of_ble_eq_true rfl⟩) hS (fun q _ h => hFc q h) hFc (fun u t H locs ht hvm hw => zx_7 (fun v21na0_0 v21na0_4 v21na0_8 v21na0_9 v21na0_14_0 v21nfa0_10 v21nfa0_11 => zy_5 (fun bv21na0_0 bv21na0_4 bv21na0_9 bv21na0_14_0 hraw21_0 hB hz1 hk1 hS1 => zo hB ht hS1 (fun hP1 hK1 hD1 hS => ?_))))
  refine zc_backc (w := [(a0, .inr (3, [.int 0, .int a0_1, .int a0_2, .ref a0_3, .ref a0_4, .ref a0_5, .int a0_6, .int x6, .int a0_8, .int a0_9, .int a0_10, .long a0_11, .int a0_12, .int a0_13])), (a0_5, .inr (0, [.int v21na0_0, .int a0_5_1, .int a0_5_2, .int a0_5_3, .int v21na0_4, .int a0_5_5, .int a0_5_6, .int a0_5_7, .int v21na0_8, .int v21na0_9, .ref a0_5_10, .ref a0_5_11, .ref a0_5_12, .ref a0_5_13, .ref a0_5_14])), (a0_5_14, .inr (6, [.int v21na0_14_0, a0_5_14g_1, .ref a0_5_14_2, .ref a0_5_14_3])), (a0_5_10, .inl (ka0_5_10, 9, .inl (v21nfa0_10))), (a0_5_11, .inl (ka0_5_11, 9, .inl (v21nfa0_11))), (a0_3, .inl (ka0_3, 900, .inl (fa0_3))), (a0_4, .inl (ka0_4, 12, .inr (.inl (fa0_4)))), (a0_5_14_2, .inl (ka0_5_14_2, 3, .inl (fa0_5_14_2))), (a0_5_14_3, .inl (ka0_5_14_3, 3, .inl (fa0_5_14_3))), (a0_5_13, .inl (ka0_5_13, 6, .inl (fa0_5_13))), (a0_5_12, .inl (ka0_5_12, 6, .inl (fa0_5_12)))]) hP hD hCc hk1 hFc hP1 hD1 [.inl 0, .inr 0, .inr 1, .inr 2, .inr 3, .inl 5, .inl 6, .inl 7, .inl 8, .inl 9, .inl 10] (by decide +kernel) rfl (fun hP hD => ?_)
  have hc21 : Ff_X0_clear (fl_A fa0_5_10) (fl_A fa0_5_11) = (v21na0_0.toInt, v21na0_4.toInt, v21na0_8.toInt, v21na0_9.toInt, v21na0_14_0.toInt, (fl_A v21nfa0_10), (fl_A v21nfa0_11)) := hraw21_0
  have hF0 := hF0.trans (fl_c7_eq hc21)
  refine lv_aload_n hx hb dX3_read_24 rfl (lv_at hl 0 rfl) ?_
  refine lv_iconst (v := 0) hx hb dX3_read_25 zk_iconst_0 ?_
  refine va_put (D := (dC, dI)) (ci := 3) (v := .int 0) (ty := .int) (C := RX3) (T := TX3) (N := 14) hx hb hts zi_X3_read_3 tyX3 tyX3_ok nmX3 hown hK hP hD hS 0 rfl rfl 6 (by decide) (hts (.fieldLink RX3 42 "WaxTurns$Reade\x72" "nameCount" "I") (zm_X3_read_r1 (List.mem_of_getElem? (i := 7) rfl))) (fun _ h9 => h9) rfl (tyX3_ok 6 (by decide)) rfl rfl (Nat.le_of_ble_eq_true rfl) dX3_read_26 (fun H locs hP hD hS => ?_)
  refine zs_0 (y := (a0, .inr (3, [.int 0, .int a0_1, .int a0_2, .ref a0_3, .ref a0_4, .ref a0_5, .int 0, .int x6, .int a0_8, .int a0_9, .int a0_10, .long a0_11, .int a0_12, .int a0_13]))) hP hD rfl (fun hP hD => ?_)
  refine lv_aload_n hx hb dX3_read_29 rfl (lv_at hl 0 rfl) ?_
  refine lv_iconst (v := 0) hx hb dX3_read_30 zk_iconst_0 ?_
  refine va_put (D := (dC, dI)) (ci := 3) (v := .int 0) (ty := .int) (C := RX3) (T := TX3) (N := 14) hx hb hts zi_X3_read_3 tyX3 tyX3_ok nmX3 hown hK hP hD hS 0 rfl rfl 1 (by decide) (hts (.fieldLink RX3 45 "WaxTurns$Reade\x72" "faultNumbe\x72" "I") (zm_X3_read_r1 (List.mem_of_getElem? (i := 8) rfl))) (fun _ h9 => h9) rfl (tyX3_ok 1 (by decide)) rfl rfl (Nat.le_of_ble_eq_true rfl) dX3_read_31 (fun H locs hP hD hS => ?_)
  refine zs_0 (y := (a0, .inr (3, [.int 0, .int 0, .int a0_2, .ref a0_3, .ref a0_4, .ref a0_5, .int 0, .int x6, .int a0_8, .int a0_9, .int a0_10, .long a0_11, .int a0_12, .int a0_13]))) hP hD rfl (fun hP hD => ?_)
  refine lv_aload_n hx hb dX3_read_34 rfl (lv_at hl 0 rfl) ?_
  refine lv_iconst (v := (-1)) hx hb dX3_read_35 zk_iconst_n1 ?_
  refine va_put (D := (dC, dI)) (ci := 3) (v := .int (-1)) (ty := .int) (C := RX3) (T := TX3) (N := 14) hx hb hts zi_X3_read_3 tyX3 tyX3_ok nmX3 hown hK hP hD hS 0 rfl rfl 2 (by decide) (hts (.fieldLink RX3 48 "WaxTurns$Reade\x72" "faultPlace" "I") (zm_X3_read_r1 (List.mem_of_getElem? (i := 9) rfl))) (fun _ h9 => h9) rfl (tyX3_ok 2 (by decide)) rfl rfl (Nat.le_of_ble_eq_true rfl) dX3_read_36 (fun H locs hP hD hS => ?_)
  refine zs_0 (y := (a0, .inr (3, [.int 0, .int 0, .int (-1), .ref a0_3, .ref a0_4, .ref a0_5, .int 0, .int x6, .int a0_8, .int a0_9, .int a0_10, .long a0_11, .int a0_12, .int a0_13]))) hP hD rfl (fun hP hD => ?_)
  refine lv_aload_n hx hb dX3_read_39 rfl (lv_at hl 0 rfl) ?_
  refine lv_iconst (v := 0) hx hb dX3_read_40 zk_iconst_0 ?_
  refine va_put (D := (dC, dI)) (ci := 3) (v := .int 0) (ty := .int) (C := RX3) (T := TX3) (N := 14) hx hb hts zi_X3_read_3 tyX3 tyX3_ok nmX3 hown hK hP hD hS 0 rfl rfl 9 (by decide) (hts (.fieldLink RX3 51 "WaxTurns$Reade\x72" "behind" "I") (zm_X3_read_r1 (List.mem_of_getElem? (i := 10) rfl))) (fun _ h9 => h9) rfl (tyX3_ok 9 (by decide)) rfl rfl (Nat.le_of_ble_eq_true rfl) dX3_read_41 (fun H locs hP hD hS => ?_)
  refine zs_0 (y := (a0, .inr (3, [.int 0, .int 0, .int (-1), .ref a0_3, .ref a0_4, .ref a0_5, .int 0, .int x6, .int a0_8, .int 0, .int a0_10, .long a0_11, .int a0_12, .int a0_13]))) hP hD rfl (fun hP hD => ?_)
  refine lv_aload_n hx hb dX3_read_44 rfl (lv_at hl 0 rfl) ?_
  refine zc_cutc (wc := [(a0, .inr (3, [.int 0, .int 0, .int (-1), .ref a0_3, .ref a0_4, .ref a0_5, .int 0, .int x6, .int a0_8, .int 0, .int a0_10, .long a0_11, .int a0_12, .int a0_13])), (a0_3, .inl (ka0_3, 900, .inl (fa0_3)))]) hP hD hS hA [0, 5] (by decide +kernel) rfl (fun hPc hDc hFc hCc => ?_)
  have hKc := hK.sub (tys' := [(ka0_3, .byte)]) [2] rfl
  refine va_callv (va_runV (As := []) (rest := []) ⟨hx, hb, hml, hown, hts⟩ (f_X3_advance l dC dI H.size a0 (.int 0) (.int 0) (.int (-1)) (.ref a0_4) (.ref a0_5) (.int 0) (.int a0_13) a0_3 x6 a0_8 0 a0_10 a0_11 a0_12 ka0_3 fa0_3 bx6.1 bx6.2 ba0_8_l ba0_8_u zq5 (Int.le_trans zq6 zq40) ba0_10_l ba0_10_u) (cwV 0 hts gX3_read_X3_advance rfl rfl rfl zd_X3_advance ⟨Nat.le_of_ble_eq_true rfl, Nat.le_of_ble_eq_true rfl⟩) ⟨ax_blind (fun _ _ _ _ _ => trivial), zr_3 hKc hPc (q0 := 0) rfl, ax_pre hPc hKc hDc (fun _ _ => trivial)⟩ rfl rfl hl.1 rfl (lv_room (Nat.le_of_ble_eq_true rfl)) dX3_read_45 ⟨Nat.le_of_ble_eq_true rfl, Nat.le_of_ble_eq_true rfl⟩) hS (fun q _ h => hFc q h) hFc (fun u t H locs ht hvm hw => zx_5 (fun v45na0_8 v45na0_9 v45na0_10 v45na0_11 v45na0_12 => zy_4 (fun bv45na0_8 bv45na0_9 bv45na0_10 hraw45_0 hB hz1 hk1 hS1 => zo hB ht hS1 (fun hP1 hK1 hD1 hS => ?_))))
  refine zc_backc (w := [(a0, .inr (3, [.int 0, .int 0, .int (-1), .ref a0_3, .ref a0_4, .ref a0_5, .int 0, .int x6, .int v45na0_8, .int v45na0_9, .int v45na0_10, .long v45na0_11, .int v45na0_12, .int a0_13])), (a0_5, .inr (0, [.int v21na0_0, .int a0_5_1, .int a0_5_2, .int a0_5_3, .int v21na0_4, .int a0_5_5, .int a0_5_6, .int a0_5_7, .int v21na0_8, .int v21na0_9, .ref a0_5_10, .ref a0_5_11, .ref a0_5_12, .ref a0_5_13, .ref a0_5_14])), (a0_5_14, .inr (6, [.int v21na0_14_0, a0_5_14g_1, .ref a0_5_14_2, .ref a0_5_14_3])), (a0_5_10, .inl (ka0_5_10, 9, .inl (v21nfa0_10))), (a0_5_11, .inl (ka0_5_11, 9, .inl (v21nfa0_11))), (a0_3, .inl (ka0_3, 900, .inl (fa0_3))), (a0_4, .inl (ka0_4, 12, .inr (.inl (fa0_4)))), (a0_5_14_2, .inl (ka0_5_14_2, 3, .inl (fa0_5_14_2))), (a0_5_14_3, .inl (ka0_5_14_3, 3, .inl (fa0_5_14_3))), (a0_5_13, .inl (ka0_5_13, 6, .inl (fa0_5_13))), (a0_5_12, .inl (ka0_5_12, 6, .inl (fa0_5_12)))]) hP hD hCc hk1 hFc hP1 hD1 [.inr 0, .inl 1, .inl 2, .inl 3, .inl 4, .inr 1, .inl 6, .inl 7, .inl 8, .inl 9, .inl 10] (by decide +kernel) rfl (fun hP hD => ?_)
  rw [show (0 : Int32).toInt = 0 from by decide] at hraw45_0
  have hc45 : Ff_X3_advance x6.toInt 0 a0_11.toInt a0_12.toInt (fl_A fa0_3) = (v45na0_8.toInt, v45na0_9.toInt, v45na0_10.toInt, v45na0_11.toInt, v45na0_12.toInt) := hraw45_0
  have hF0 := hF0.trans (fl_c5_eq hc45)
  refine lv_aload_n hx hb dX3_read_48 rfl (lv_at hl 0 rfl) ?_
  refine zc_cutc (wc := [(a0, .inr (3, [.int 0, .int 0, .int (-1), .ref a0_3, .ref a0_4, .ref a0_5, .int 0, .int x6, .int v45na0_8, .int v45na0_9, .int v45na0_10, .long v45na0_11, .int v45na0_12, .int a0_13])), (a0_5, .inr (0, [.int v21na0_0, .int a0_5_1, .int a0_5_2, .int a0_5_3, .int v21na0_4, .int a0_5_5, .int a0_5_6, .int a0_5_7, .int v21na0_8, .int v21na0_9, .ref a0_5_10, .ref a0_5_11, .ref a0_5_12, .ref a0_5_13, .ref a0_5_14])), (a0_3, .inl (ka0_3, 900, .inl (fa0_3))), (a0_4, .inl (ka0_4, 12, .inr (.inl (fa0_4)))), (a0_5_10, .inl (ka0_5_10, 9, .inl (v21nfa0_10))), (a0_5_11, .inl (ka0_5_11, 9, .inl (v21nfa0_11))), (a0_5_14, .inr (6, [.int v21na0_14_0, a0_5_14g_1, .ref a0_5_14_2, .ref a0_5_14_3])), (a0_5_14_2, .inl (ka0_5_14_2, 3, .inl (fa0_5_14_2))), (a0_5_14_3, .inl (ka0_5_14_3, 3, .inl (fa0_5_14_3))), (a0_5_13, .inl (ka0_5_13, 6, .inl (fa0_5_13))), (a0_5_12, .inl (ka0_5_12, 6, .inl (fa0_5_12)))]) hP hD hS hA [0, 1, 5, 6, 3, 4, 2, 7, 8, 9, 10] (by decide +kernel) rfl (fun hPc hDc hFc hCc => ?_)
  have hKc := hK.sub (tys' := [(ka0_3, .byte), (ka0_4, .long), (ka0_5_10, .int), (ka0_5_11, .int), (ka0_5_14_2, .int), (ka0_5_14_3, .int), (ka0_5_13, .int), (ka0_5_12, .int)]) [2, 3, 0, 1, 4, 5, 6, 7] rfl
  refine va_calli (va_runV (As := []) (rest := []) ⟨hx, hb, hml, hown, hts⟩ (f_X3_readLine l dC dI H.size a0 (.int 0) 0 (-1) a0_3 a0_4 a0_5 0 x6 v45na0_8 v45na0_9 v45na0_10 v45na0_11 v45na0_12 a0_13 v21na0_0 a0_5_1 a0_5_2 a0_5_3 v21na0_4 a0_5_5 a0_5_6 a0_5_7 v21na0_8 v21na0_9 a0_5_10 a0_5_11 a0_5_12 a0_5_13 a0_5_14 ka0_3 fa0_3 ka0_4 fa0_4 ka0_5_10 v21nfa0_10 ka0_5_11 v21nfa0_11 v21na0_14_0 a0_5_14g_1 a0_5_14_2 a0_5_14_3 ka0_5_14_2 fa0_5_14_2 ka0_5_14_3 fa0_5_14_3 ka0_5_13 fa0_5_13 ka0_5_12 fa0_5_12 ad zq5 (Int.le_trans zq6 zq169) bx6.1 bx6.2 bv45na0_8.1 bv45na0_8.2 bv45na0_9.1 bv45na0_9.2 bv45na0_10.1 bv45na0_10.2 bv21na0_0.1 bv21na0_0.2 bv21na0_4.1 bv21na0_4.2 ba0_5_5_l ba0_5_5_u ba0_5_6_l ba0_5_6_u ba0_5_7_l ba0_5_7_u bv21na0_9.1 bv21na0_9.2 bv21na0_14_0.1 bv21na0_14_0.2 bfa0_5_14_2 bfa0_5_14_3 bfa0_5_13) (cwV 0 hts gX3_read_X3_readLine rfl rfl rfl zd_X3_readLine ⟨Nat.le_of_ble_eq_true rfl, Nat.le_of_ble_eq_true rfl⟩) ⟨ax_blind (fun _ _ _ _ hq => ⟨sxc_T_same _ _ _ _ (hq.1), va_Nw.same rfl rfl (hq.2.1), va_Nw.same rfl rfl (hq.2.2)⟩), zr_3 hKc hPc (q0 := 0) rfl, ax_preE hPc hKc hDc (fun U hU hW => ⟨sxc_T_to hE0 hS.2.1 hFc hU hW, va_Nw.warmM hW hE1, va_Nw.warmM hW hE2⟩)⟩ rfl rfl hl.1 rfl (lv_room (Nat.le_of_ble_eq_true rfl)) dX3_read_49 ⟨Nat.le_of_ble_eq_true rfl, Nat.le_of_ble_eq_true rfl⟩) hS (fun q _ h => hFc q h) hFc (fun r49 u t H locs ht hvm hw => zx_27 (fun v49na0_1 v49na0_2 v49na0_6 v49na0_8 v49na0_9 v49na0_10 v49na0_11 v49na0_12 v49na0_13 v49na0_5_0 v49na0_5_1 v49na0_5_2 v49na0_5_3 v49na0_5_4 v49na0_5_5 v49na0_5_6 v49na0_5_7 v49na0_5_8 v49na0_5_9 v49nfa0_4 v49nfa0_5_10 v49nfa0_5_11 v49na0_5_14_0 v49nfa0_5_14_2 v49nfa0_5_14_3 v49nfa0_5_13 v49nfa0_5_12 => zy_15 (fun bv49na0_6 bv49na0_8 bv49na0_9 bv49na0_10 bv49na0_5_0 bv49na0_5_4 bv49na0_5_5 bv49na0_5_6 bv49na0_5_7 bv49na0_5_9 bv49na0_5_14_0 bv49nfa0_5_14_2 bv49nfa0_5_14_3 bv49nfa0_5_13 hraw49_0 hB hz1 hk1 hS1 => zo hB ht hS1 (fun hP1 hK1 hD1 hS => ?_))))
  refine zc_backc (w := [(a0, .inr (3, [.int 0, .int v49na0_1, .int v49na0_2, .ref a0_3, .ref a0_4, .ref a0_5, .int v49na0_6, .int x6, .int v49na0_8, .int v49na0_9, .int v49na0_10, .long v49na0_11, .int v49na0_12, .int v49na0_13])), (a0_5, .inr (0, [.int v49na0_5_0, .int v49na0_5_1, .int v49na0_5_2, .int v49na0_5_3, .int v49na0_5_4, .int v49na0_5_5, .int v49na0_5_6, .int v49na0_5_7, .int v49na0_5_8, .int v49na0_5_9, .ref a0_5_10, .ref a0_5_11, .ref a0_5_12, .ref a0_5_13, .ref a0_5_14])), (a0_5_14, .inr (6, [.int v49na0_5_14_0, a0_5_14g_1, .ref a0_5_14_2, .ref a0_5_14_3])), (a0_5_10, .inl (ka0_5_10, 9, .inl (v49nfa0_5_10))), (a0_5_11, .inl (ka0_5_11, 9, .inl (v49nfa0_5_11))), (a0_3, .inl (ka0_3, 900, .inl (fa0_3))), (a0_4, .inl (ka0_4, 12, .inr (.inl (v49nfa0_4)))), (a0_5_14_2, .inl (ka0_5_14_2, 3, .inl (v49nfa0_5_14_2))), (a0_5_14_3, .inl (ka0_5_14_3, 3, .inl (v49nfa0_5_14_3))), (a0_5_13, .inl (ka0_5_13, 6, .inl (v49nfa0_5_13))), (a0_5_12, .inl (ka0_5_12, 6, .inl (v49nfa0_5_12)))]) hP hD hCc hk1 hFc hP1 hD1 [.inr 0, .inr 1, .inr 6, .inr 4, .inr 5, .inr 2, .inr 3, .inr 7, .inr 8, .inr 9, .inr 10] (by decide +kernel) rfl (fun hP hD => ?_)
  obtain ⟨hw, hfr49⟩ := hw
  rw [show (0 : Int32).toInt = 0 from by decide, show ((-1) : Int32).toInt = (-1) from by decide] at hfr49 hraw49_0
  have hc49 : Ff_X3_readLine 0 (-1) 0 x6.toInt v45na0_8.toInt v45na0_9.toInt v45na0_10.toInt v45na0_11.toInt v45na0_12.toInt a0_13.toInt v21na0_0.toInt a0_5_1.toInt a0_5_2.toInt a0_5_3.toInt v21na0_4.toInt a0_5_5.toInt a0_5_6.toInt a0_5_7.toInt v21na0_8.toInt v21na0_9.toInt (fl_A fa0_3) (fl_L fa0_4) (fl_A v21nfa0_10) (fl_A v21nfa0_11) v21na0_14_0.toInt (fl_A fa0_5_14_2) (fl_A fa0_5_14_3) (fl_A fa0_5_13) (fl_A fa0_5_12) = (r49.toInt, v49na0_1.toInt, v49na0_2.toInt, v49na0_6.toInt, v49na0_8.toInt, v49na0_9.toInt, v49na0_10.toInt, v49na0_11.toInt, v49na0_12.toInt, v49na0_13.toInt, v49na0_5_0.toInt, v49na0_5_1.toInt, v49na0_5_2.toInt, v49na0_5_3.toInt, v49na0_5_4.toInt, v49na0_5_5.toInt, v49na0_5_6.toInt, v49na0_5_7.toInt, v49na0_5_8.toInt, v49na0_5_9.toInt, (fl_L v49nfa0_4), (fl_A v49nfa0_5_10), (fl_A v49nfa0_5_11), v49na0_5_14_0.toInt, (fl_A v49nfa0_5_14_2), (fl_A v49nfa0_5_14_3), (fl_A v49nfa0_5_13), (fl_A v49nfa0_5_12)) := Prod.ext hfr49.symm hraw49_0
  have hF0 := hF0.trans (fl_c28_eq hc49)
  rcases hw with hw | hw
  · subst hw
    have hF0 := hF0.trans (if_pos (by decide))
    refine lv_istore_n (lv' := [(2, .int 1), (0, .ref a0), (1, .int a1)]) hx hb dX3_read_52 rfl hl (by decide) rfl (fun ls hl => ?_)
    refine lv_iconst (v := 1) hx hb dX3_read_53 zk_iconst_1 ?_
    refine lv_istore_n (lv' := [(3, .int 1), (2, .int 1), (0, .ref a0), (1, .int a1)]) hx hb dX3_read_54 rfl hl (by decide) rfl (fun ls hl => ?_)
    have J55 : ∀ (n : Nat) (j55l3 : Int32) (j55l2 : Int32) (j55a0_1 : Int32) (j55a0_2 : Int32) (j55a0_6 : Int32) (j55a0_8 : Int32) (j55a0_9 : Int32) (j55a0_10 : Int32) (j55a0_11 : Int64) (j55a0_12 : Int32) (j55a0_13 : Int32) (j55a0_5_0 : Int32) (j55a0_5_1 : Int32) (j55a0_5_2 : Int32) (j55a0_5_3 : Int32) (j55a0_5_4 : Int32) (j55a0_5_5 : Int32) (j55a0_5_6 : Int32) (j55a0_5_7 : Int32) (j55a0_5_8 : Int32) (j55a0_5_9 : Int32) (j55a0_5_14_0 : Int32) (j55a0_5_10_a : Nat → Int32) (j55a0_5_11_a : Nat → Int32) (j55a0_4_a : Nat → Int64) (j55a0_5_14_2_a : Nat → Int32) (j55a0_5_14_3_a : Nat → Int32) (j55a0_5_13_a : Nat → Int32) (j55a0_5_12_a : Nat → Int32) (H : Heap) (locs : List Loc) (ls : Array Slot), (901 : Int) - j55l3.toInt ≤ (n : Int) → (1 : Int) ≤ j55l3.toInt → j55l3.toInt ≤ (900 : Int) → (0 : Int) ≤ j55l2.toInt → j55l2.toInt ≤ (1 : Int) → (0 : Int) ≤ j55a0_6.toInt → j55a0_6.toInt ≤ (12 : Int) → (0 : Int) ≤ j55a0_8.toInt → j55a0_8.toInt ≤ (900 : Int) → (0 : Int) ≤ j55a0_9.toInt → j55a0_9.toInt ≤ (900 : Int) → (0 : Int) ≤ j55a0_10.toInt → j55a0_10.toInt ≤ (4 : Int) → (0 : Int) ≤ j55a0_5_0.toInt → j55a0_5_0.toInt ≤ (9 : Int) → (0 : Int) ≤ j55a0_5_4.toInt → j55a0_5_4.toInt ≤ (1 : Int) → (0 : Int) ≤ j55a0_5_5.toInt → j55a0_5_5.toInt ≤ (8 : Int) → (0 : Int) ≤ j55a0_5_6.toInt → j55a0_5_6.toInt ≤ (8 : Int) → (0 : Int) ≤ j55a0_5_7.toInt → j55a0_5_7.toInt ≤ (8 : Int) → (0 : Int) ≤ j55a0_5_9.toInt → j55a0_5_9.toInt ≤ (6 : Int) → (0 : Int) ≤ j55a0_5_14_0.toInt → j55a0_5_14_0.toInt ≤ (3 : Int) → (∀ k, (0 : Int) ≤ (j55a0_5_14_2_a k).toInt ∧ (j55a0_5_14_2_a k).toInt ≤ 80) → (∀ k, (0 : Int) ≤ (j55a0_5_14_3_a k).toInt ∧ (j55a0_5_14_3_a k).toInt ≤ 80) → (∀ k, (0 : Int) ≤ (j55a0_5_13_a k).toInt ∧ (j55a0_5_13_a k).toInt ≤ 999) → (FX = fl_wh (fun t9 => Sf_X3_read_55_1 (fl_A fa0_3) x6.toInt t9.1 t9.2.1 t9.2.2.1 t9.2.2.2.1 t9.2.2.2.2.1 t9.2.2.2.2.2.1 t9.2.2.2.2.2.2.1 t9.2.2.2.2.2.2.2.1 t9.2.2.2.2.2.2.2.2.1 t9.2.2.2.2.2.2.2.2.2.1 t9.2.2.2.2.2.2.2.2.2.2.1 t9.2.2.2.2.2.2.2.2.2.2.2.1 t9.2.2.2.2.2.2.2.2.2.2.2.2.1 t9.2.2.2.2.2.2.2.2.2.2.2.2.2.1 t9.2.2.2.2.2.2.2.2.2.2.2.2.2.2.1 t9.2.2.2.2.2.2.2.2.2.2.2.2.2.2.2.1 t9.2.2.2.2.2.2.2.2.2.2.2.2.2.2.2.2.1 t9.2.2.2.2.2.2.2.2.2.2.2.2.2.2.2.2.2.1 t9.2.2.2.2.2.2.2.2.2.2.2.2.2.2.2.2.2.2.1 t9.2.2.2.2.2.2.2.2.2.2.2.2.2.2.2.2.2.2.2.1 t9.2.2.2.2.2.2.2.2.2.2.2.2.2.2.2.2.2.2.2.2.1 t9.2.2.2.2.2.2.2.2.2.2.2.2.2.2.2.2.2.2.2.2.2.1 t9.2.2.2.2.2.2.2.2.2.2.2.2.2.2.2.2.2.2.2.2.2.2.1 t9.2.2.2.2.2.2.2.2.2.2.2.2.2.2.2.2.2.2.2.2.2.2.2.1 t9.2.2.2.2.2.2.2.2.2.2.2.2.2.2.2.2.2.2.2.2.2.2.2.2.1 t9.2.2.2.2.2.2.2.2.2.2.2.2.2.2.2.2.2.2.2.2.2.2.2.2.2.1 t9.2.2.2.2.2.2.2.2.2.2.2.2.2.2.2.2.2.2.2.2.2.2.2.2.2.2.1 t9.2.2.2.2.2.2.2.2.2.2.2.2.2.2.2.2.2.2.2.2.2.2.2.2.2.2.2.1 t9.2.2.2.2.2.2.2.2.2.2.2.2.2.2.2.2.2.2.2.2.2.2.2.2.2.2.2.2) (0, 0, 0, 0, 0, 0, 0, 0, 0, 0, 0, 0, 0, 0, 0, 0, 0, 0, 0, 0, 0, 0, (fun _ => 0), (fun _ => 0), (fun _ => 0), (fun _ => 0), (fun _ => 0), (fun _ => 0), (fun _ => 0)) n (j55l3.toInt, j55l2.toInt, j55a0_1.toInt, j55a0_2.toInt, j55a0_6.toInt, j55a0_8.toInt, j55a0_9.toInt, j55a0_10.toInt, j55a0_11.toInt, j55a0_12.toInt, j55a0_13.toInt, j55a0_5_0.toInt, j55a0_5_1.toInt, j55a0_5_2.toInt, j55a0_5_3.toInt, j55a0_5_4.toInt, j55a0_5_5.toInt, j55a0_5_6.toInt, j55a0_5_7.toInt, j55a0_5_8.toInt, j55a0_5_9.toInt, j55a0_5_14_0.toInt, (fl_A j55a0_5_10_a), (fl_A j55a0_5_11_a), (fl_L j55a0_4_a), (fl_A j55a0_5_14_2_a), (fl_A j55a0_5_14_3_a), (fl_A j55a0_5_13_a), (fl_A j55a0_5_12_a))) → va_P (dC, dI) vwCl [(a0, .inr (3, [.int 0, .int j55a0_1, .int j55a0_2, .ref a0_3, .ref a0_4, .ref a0_5, .int j55a0_6, .int x6, .int j55a0_8, .int j55a0_9, .int j55a0_10, .long j55a0_11, .int j55a0_12, .int j55a0_13])), (a0_5, .inr (0, [.int j55a0_5_0, .int j55a0_5_1, .int j55a0_5_2, .int j55a0_5_3, .int j55a0_5_4, .int j55a0_5_5, .int j55a0_5_6, .int j55a0_5_7, .int j55a0_5_8, .int j55a0_5_9, .ref a0_5_10, .ref a0_5_11, .ref a0_5_12, .ref a0_5_13, .ref a0_5_14])), (a0_5_14, .inr (6, [.int j55a0_5_14_0, a0_5_14g_1, .ref a0_5_14_2, .ref a0_5_14_3])), (a0_5_10, .inl (ka0_5_10, 9, .inl (j55a0_5_10_a))), (a0_5_11, .inl (ka0_5_11, 9, .inl (j55a0_5_11_a))), (a0_3, .inl (ka0_3, 900, .inl (fa0_3))), (a0_4, .inl (ka0_4, 12, .inr (.inl (j55a0_4_a)))), (a0_5_14_2, .inl (ka0_5_14_2, 3, .inl (j55a0_5_14_2_a))), (a0_5_14_3, .inl (ka0_5_14_3, 3, .inl (j55a0_5_14_3_a))), (a0_5_13, .inl (ka0_5_13, 6, .inl (j55a0_5_13_a))), (a0_5_12, .inl (ka0_5_12, 6, .inl (j55a0_5_12_a)))] H → va_D A [(a0, .inr (3, [.int 0, .int j55a0_1, .int j55a0_2, .ref a0_3, .ref a0_4, .ref a0_5, .int j55a0_6, .int x6, .int j55a0_8, .int j55a0_9, .int j55a0_10, .long j55a0_11, .int j55a0_12, .int j55a0_13])), (a0_5, .inr (0, [.int j55a0_5_0, .int j55a0_5_1, .int j55a0_5_2, .int j55a0_5_3, .int j55a0_5_4, .int j55a0_5_5, .int j55a0_5_6, .int j55a0_5_7, .int j55a0_5_8, .int j55a0_5_9, .ref a0_5_10, .ref a0_5_11, .ref a0_5_12, .ref a0_5_13, .ref a0_5_14])), (a0_5_14, .inr (6, [.int j55a0_5_14_0, a0_5_14g_1, .ref a0_5_14_2, .ref a0_5_14_3])), (a0_5_10, .inl (ka0_5_10, 9, .inl (j55a0_5_10_a))), (a0_5_11, .inl (ka0_5_11, 9, .inl (j55a0_5_11_a))), (a0_3, .inl (ka0_3, 900, .inl (fa0_3))), (a0_4, .inl (ka0_4, 12, .inr (.inl (j55a0_4_a)))), (a0_5_14_2, .inl (ka0_5_14_2, 3, .inl (j55a0_5_14_2_a))), (a0_5_14_3, .inl (ka0_5_14_3, 3, .inl (j55a0_5_14_3_a))), (a0_5_13, .inl (ka0_5_13, 6, .inl (j55a0_5_13_a))), (a0_5_12, .inl (ka0_5_12, 6, .inl (j55a0_5_12_a)))] → va_S A s.heap H locs → lv_has ls 4 [(0, .ref a0), (2, .int j55l2), (3, .int j55l3)] → K H locs (F0 m 55 ls []) := by
      intro n
      induction n with
      | zero =>
        intro j55l3 j55l2 j55a0_1 j55a0_2 j55a0_6 j55a0_8 j55a0_9 j55a0_10 j55a0_11 j55a0_12 j55a0_13 j55a0_5_0 j55a0_5_1 j55a0_5_2 j55a0_5_3 j55a0_5_4 j55a0_5_5 j55a0_5_6 j55a0_5_7 j55a0_5_8 j55a0_5_9 j55a0_5_14_0 j55a0_5_10_a j55a0_5_11_a j55a0_4_a j55a0_5_14_2_a j55a0_5_14_3_a j55a0_5_13_a j55a0_5_12_a H locs ls hm bj55l3_l bj55l3_u bj55l2_l bj55l2_u bj55a0_6_l bj55a0_6_u bj55a0_8_l bj55a0_8_u bj55a0_9_l bj55a0_9_u bj55a0_10_l bj55a0_10_u bj55a0_5_0_l bj55a0_5_0_u bj55a0_5_4_l bj55a0_5_4_u bj55a0_5_5_l bj55a0_5_5_u bj55a0_5_6_l bj55a0_5_6_u bj55a0_5_7_l bj55a0_5_7_u bj55a0_5_9_l bj55a0_5_9_u bj55a0_5_14_0_l bj55a0_5_14_0_u bj55a0_5_14_2_a bj55a0_5_14_3_a bj55a0_5_13_a hF0 hP hD hS hl
        first | exact zg_0 hm bj55l3_u (by decide) | (have h8 := ai_min j55l3; have h9 := ai_max j55l3; exact absurd hm (by omega))
      | succ n ih55 =>
        intro j55l3 j55l2 j55a0_1 j55a0_2 j55a0_6 j55a0_8 j55a0_9 j55a0_10 j55a0_11 j55a0_12 j55a0_13 j55a0_5_0 j55a0_5_1 j55a0_5_2 j55a0_5_3 j55a0_5_4 j55a0_5_5 j55a0_5_6 j55a0_5_7 j55a0_5_8 j55a0_5_9 j55a0_5_14_0 j55a0_5_10_a j55a0_5_11_a j55a0_4_a j55a0_5_14_2_a j55a0_5_14_3_a j55a0_5_13_a j55a0_5_12_a H locs ls hm bj55l3_l bj55l3_u bj55l2_l bj55l2_u bj55a0_6_l bj55a0_6_u bj55a0_8_l bj55a0_8_u bj55a0_9_l bj55a0_9_u bj55a0_10_l bj55a0_10_u bj55a0_5_0_l bj55a0_5_0_u bj55a0_5_4_l bj55a0_5_4_u bj55a0_5_5_l bj55a0_5_5_u bj55a0_5_6_l bj55a0_5_6_u bj55a0_5_7_l bj55a0_5_7_u bj55a0_5_9_l bj55a0_5_9_u bj55a0_5_14_0_l bj55a0_5_14_0_u bj55a0_5_14_2_a bj55a0_5_14_3_a bj55a0_5_13_a hF0 hP hD hS hl
        refine (hK0 _ _ _).mpr ?_
        have hm55 := hm
        obtain ⟨SX55, hSX55⟩ : ∃ q9, Sf_X3_read_55_1 (fl_A fa0_3) x6.toInt j55l3.toInt j55l2.toInt j55a0_1.toInt j55a0_2.toInt j55a0_6.toInt j55a0_8.toInt j55a0_9.toInt j55a0_10.toInt j55a0_11.toInt j55a0_12.toInt j55a0_13.toInt j55a0_5_0.toInt j55a0_5_1.toInt j55a0_5_2.toInt j55a0_5_3.toInt j55a0_5_4.toInt j55a0_5_5.toInt j55a0_5_6.toInt j55a0_5_7.toInt j55a0_5_8.toInt j55a0_5_9.toInt j55a0_5_14_0.toInt (fl_A j55a0_5_10_a) (fl_A j55a0_5_11_a) (fl_L j55a0_4_a) (fl_A j55a0_5_14_2_a) (fl_A j55a0_5_14_3_a) (fl_A j55a0_5_13_a) (fl_A j55a0_5_12_a) = q9 := ⟨_, rfl⟩
        have hF1 := hSX55.symm.trans (Sf_X3_read_55_1.eq_1 (fl_A fa0_3) x6.toInt j55l3.toInt j55l2.toInt j55a0_1.toInt j55a0_2.toInt j55a0_6.toInt j55a0_8.toInt j55a0_9.toInt j55a0_10.toInt j55a0_11.toInt j55a0_12.toInt j55a0_13.toInt j55a0_5_0.toInt j55a0_5_1.toInt j55a0_5_2.toInt j55a0_5_3.toInt j55a0_5_4.toInt j55a0_5_5.toInt j55a0_5_6.toInt j55a0_5_7.toInt j55a0_5_8.toInt j55a0_5_9.toInt j55a0_5_14_0.toInt (fl_A j55a0_5_10_a) (fl_A j55a0_5_11_a) (fl_L j55a0_4_a) (fl_A j55a0_5_14_2_a) (fl_A j55a0_5_14_3_a) (fl_A j55a0_5_13_a) (fl_A j55a0_5_12_a))
        refine lv_iload_n hx hb dX3_read_55 rfl (lv_at hl 1 rfl) ?_
        have J89 : ∀ (H : Heap) (locs : List Loc) (ls : Array Slot), (FX = Gf_X3_read_89_1 x6.toInt j55l2.toInt j55a0_1.toInt j55a0_2.toInt j55a0_6.toInt j55a0_8.toInt j55a0_9.toInt j55a0_10.toInt j55a0_11.toInt j55a0_12.toInt j55a0_13.toInt j55a0_5_0.toInt j55a0_5_1.toInt j55a0_5_2.toInt j55a0_5_3.toInt j55a0_5_4.toInt j55a0_5_5.toInt j55a0_5_6.toInt j55a0_5_7.toInt j55a0_5_8.toInt j55a0_5_9.toInt j55a0_5_14_0.toInt (fl_A j55a0_5_10_a) (fl_A j55a0_5_11_a) (fl_L j55a0_4_a) (fl_A j55a0_5_14_2_a) (fl_A j55a0_5_14_3_a) (fl_A j55a0_5_13_a) (fl_A j55a0_5_12_a)) → va_P (dC, dI) vwCl [(a0, .inr (3, [.int 0, .int j55a0_1, .int j55a0_2, .ref a0_3, .ref a0_4, .ref a0_5, .int j55a0_6, .int x6, .int j55a0_8, .int j55a0_9, .int j55a0_10, .long j55a0_11, .int j55a0_12, .int j55a0_13])), (a0_5, .inr (0, [.int j55a0_5_0, .int j55a0_5_1, .int j55a0_5_2, .int j55a0_5_3, .int j55a0_5_4, .int j55a0_5_5, .int j55a0_5_6, .int j55a0_5_7, .int j55a0_5_8, .int j55a0_5_9, .ref a0_5_10, .ref a0_5_11, .ref a0_5_12, .ref a0_5_13, .ref a0_5_14])), (a0_5_14, .inr (6, [.int j55a0_5_14_0, a0_5_14g_1, .ref a0_5_14_2, .ref a0_5_14_3])), (a0_5_10, .inl (ka0_5_10, 9, .inl (j55a0_5_10_a))), (a0_5_11, .inl (ka0_5_11, 9, .inl (j55a0_5_11_a))), (a0_3, .inl (ka0_3, 900, .inl (fa0_3))), (a0_4, .inl (ka0_4, 12, .inr (.inl (j55a0_4_a)))), (a0_5_14_2, .inl (ka0_5_14_2, 3, .inl (j55a0_5_14_2_a))), (a0_5_14_3, .inl (ka0_5_14_3, 3, .inl (j55a0_5_14_3_a))), (a0_5_13, .inl (ka0_5_13, 6, .inl (j55a0_5_13_a))), (a0_5_12, .inl (ka0_5_12, 6, .inl (j55a0_5_12_a)))] H → va_D A [(a0, .inr (3, [.int 0, .int j55a0_1, .int j55a0_2, .ref a0_3, .ref a0_4, .ref a0_5, .int j55a0_6, .int x6, .int j55a0_8, .int j55a0_9, .int j55a0_10, .long j55a0_11, .int j55a0_12, .int j55a0_13])), (a0_5, .inr (0, [.int j55a0_5_0, .int j55a0_5_1, .int j55a0_5_2, .int j55a0_5_3, .int j55a0_5_4, .int j55a0_5_5, .int j55a0_5_6, .int j55a0_5_7, .int j55a0_5_8, .int j55a0_5_9, .ref a0_5_10, .ref a0_5_11, .ref a0_5_12, .ref a0_5_13, .ref a0_5_14])), (a0_5_14, .inr (6, [.int j55a0_5_14_0, a0_5_14g_1, .ref a0_5_14_2, .ref a0_5_14_3])), (a0_5_10, .inl (ka0_5_10, 9, .inl (j55a0_5_10_a))), (a0_5_11, .inl (ka0_5_11, 9, .inl (j55a0_5_11_a))), (a0_3, .inl (ka0_3, 900, .inl (fa0_3))), (a0_4, .inl (ka0_4, 12, .inr (.inl (j55a0_4_a)))), (a0_5_14_2, .inl (ka0_5_14_2, 3, .inl (j55a0_5_14_2_a))), (a0_5_14_3, .inl (ka0_5_14_3, 3, .inl (j55a0_5_14_3_a))), (a0_5_13, .inl (ka0_5_13, 6, .inl (j55a0_5_13_a))), (a0_5_12, .inl (ka0_5_12, 6, .inl (j55a0_5_12_a)))] → va_S A s.heap H locs → lv_has ls 4 [(0, .ref a0), (2, .int j55l2)] → K H locs (F0 m 89 ls []) := by
          intro  H locs ls  hF0 hP hD hS hl
          refine (hK0 _ _ _).mpr ?_
          have hF0 := hF0.trans (Gf_X3_read_89_1.eq_1 x6.toInt j55l2.toInt j55a0_1.toInt j55a0_2.toInt j55a0_6.toInt j55a0_8.toInt j55a0_9.toInt j55a0_10.toInt j55a0_11.toInt j55a0_12.toInt j55a0_13.toInt j55a0_5_0.toInt j55a0_5_1.toInt j55a0_5_2.toInt j55a0_5_3.toInt j55a0_5_4.toInt j55a0_5_5.toInt j55a0_5_6.toInt j55a0_5_7.toInt j55a0_5_8.toInt j55a0_5_9.toInt j55a0_5_14_0.toInt (fl_A j55a0_5_10_a) (fl_A j55a0_5_11_a) (fl_L j55a0_4_a) (fl_A j55a0_5_14_2_a) (fl_A j55a0_5_14_3_a) (fl_A j55a0_5_13_a) (fl_A j55a0_5_12_a))
          refine lv_iload_n hx hb dX3_read_89 rfl (lv_at hl 1 rfl) ?_
          refine lv_if_ne (tgt := 95) hx hb dX3_read_90 (by decide) (fun c90 => ?_) (fun c90 => ?_)
          · have gc90 := ai_ne c90
            have l90t_j55l2 : (1 : Int) ≤ j55l2.toInt := (by first | exact zg_l bj55l2_l gc90 (by decide) (by decide) | (have h1 := bj55l2_l; have h2 : (0 : Int32).toInt = 0 := (by decide); rw [h2] at gc90; omega))
            have hF0 := hF0.trans (if_neg (show ¬ (j55l2.toInt = 0) from  gc90))
            refine lv_aload_n hx hb dX3_read_95 rfl (lv_at hl 0 rfl) ?_
            refine va_get (D := (dC, dI)) (ci := 3) (v := .int j55a0_10) (C := RX3) (T := TX3) (N := 14) hx hb hts zi_X3_read_3 hown hK hP 0 rfl rfl 10 (by decide) (hts (.fieldLink RX3 61 "WaxTurns$Reade\x72" "token" "I") (zm_X3_read_r1 (List.mem_of_getElem? (i := 11) rfl))) (fun _ h9 => h9) rfl dX3_read_96 ?_
            refine lv_if_eq (tgt := 108) hx hb dX3_read_99 (by decide) (fun c99 => ?_) (fun c99 => ?_)
            · have gc99 := ai_eq c99
              have u99t_j55a0_10 : j55a0_10.toInt ≤ (0 : Int) := Int.le_trans (Int.le_of_eq gc99) zq6
              have l99t_j55a0_10 : (0 : Int) ≤ j55a0_10.toInt := bj55a0_10_l
              have hF0 := hF0.trans (if_pos (show j55a0_10.toInt = 0 from gc99))
              refine lv_aload_n hx hb dX3_read_108 rfl (lv_at hl 0 rfl) ?_
              refine va_get (D := (dC, dI)) (ci := 3) (v := .ref a0_5) (C := RX3) (T := TX3) (N := 14) hx hb hts zi_X3_read_3 hown hK hP 0 rfl rfl 5 (by decide) (hts (.fieldLink RX3 22 "WaxTurns$Reade\x72" "draft" "LWaxTurns$Hall;") (zm_X3_read_r1 (List.mem_of_getElem? (i := 6) rfl))) (fun _ h9 => h9) rfl dX3_read_109 ?_
              refine va_get (D := (dC, dI)) (ci := 0) (v := .int j55a0_5_4) (C := RX0) (T := TX0) (N := 15) hx hb hts zi_X3_read_0 hown hK hP 1 rfl rfl 4 (by decide) (hts (.fieldLink RX3 68 "WaxTurns$Hall" "lawTold" "Z") (zm_X3_read_r1 (List.mem_of_getElem? (i := 12) rfl))) (fun _ h9 => h9) rfl dX3_read_112 ?_
              refine lv_if_ne (tgt := 127) hx hb dX3_read_115 (by decide) (fun c115 => ?_) (fun c115 => ?_)
              · have gc115 := ai_ne c115
                have l115t_j55a0_5_4 : (1 : Int) ≤ j55a0_5_4.toInt := (by first | exact zg_l bj55a0_5_4_l gc115 (by decide) (by decide) | (have h1 := bj55a0_5_4_l; have h2 : (0 : Int32).toInt = 0 := (by decide); rw [h2] at gc115; omega))
                have hF0 := hF0.trans (if_neg (show ¬ (j55a0_5_4.toInt = 0) from  gc115))
                refine lv_iconst (v := 1) hx hb dX3_read_127 zk_iconst_1 ?_
                refine lv_goto (tgt := 132) hx hb dX3_read_128 (by decide) ?_
                have hFe : FX = (1, j55a0_1.toInt, j55a0_2.toInt, j55a0_6.toInt, x6.toInt, j55a0_8.toInt, j55a0_9.toInt, j55a0_10.toInt, j55a0_11.toInt, j55a0_12.toInt, j55a0_13.toInt, j55a0_5_0.toInt, j55a0_5_1.toInt, j55a0_5_2.toInt, j55a0_5_3.toInt, j55a0_5_4.toInt, j55a0_5_5.toInt, j55a0_5_6.toInt, j55a0_5_7.toInt, j55a0_5_8.toInt, j55a0_5_9.toInt, j55a0_5_14_0.toInt, (fl_A j55a0_5_10_a), (fl_A j55a0_5_11_a), (fl_L j55a0_4_a), (fl_A j55a0_5_14_2_a), (fl_A j55a0_5_14_3_a), (fl_A j55a0_5_13_a), (fl_A j55a0_5_12_a)) := hF0
                exact W.zret (v := 1) hx hb hr rfl (fun t ht hW => ⟨⟨1, (), rfl, ⟨(Or.inl (rfl)), (congrArg Prod.fst hFe).symm⟩, j55a0_1, j55a0_2, j55a0_6, x6, j55a0_8, j55a0_9, j55a0_10, j55a0_11, j55a0_12, j55a0_13, j55a0_5_0, j55a0_5_1, j55a0_5_2, j55a0_5_3, j55a0_5_4, j55a0_5_5, j55a0_5_6, j55a0_5_7, j55a0_5_8, j55a0_5_9, j55a0_5_14_0, j55a0_5_10_a, j55a0_5_11_a, j55a0_4_a, j55a0_5_14_2_a, j55a0_5_14_3_a, j55a0_5_13_a, j55a0_5_12_a, ⟨bj55a0_6_l, bj55a0_6_u⟩, ⟨bx6.1, bx6.2⟩, ⟨bj55a0_8_l, bj55a0_8_u⟩, ⟨bj55a0_9_l, bj55a0_9_u⟩, ⟨l99t_j55a0_10, Int.le_trans u99t_j55a0_10 (by decide)⟩, ⟨bj55a0_5_0_l, bj55a0_5_0_u⟩, ⟨Int.le_trans (by decide) l115t_j55a0_5_4, bj55a0_5_4_u⟩, ⟨bj55a0_5_5_l, bj55a0_5_5_u⟩, ⟨bj55a0_5_6_l, bj55a0_5_6_u⟩, ⟨bj55a0_5_7_l, bj55a0_5_7_u⟩, ⟨bj55a0_5_9_l, bj55a0_5_9_u⟩, ⟨bj55a0_5_14_0_l, bj55a0_5_14_0_u⟩, bj55a0_5_14_2_a, bj55a0_5_14_3_a, bj55a0_5_13_a, (congrArg Prod.snd hFe), by rw [ht]; exact hP, va_K.moved hW.alike hK, hD⟩, hS.F ht⟩) hS.2.2 dX3_read_132
              · have gc115 := ai_eq c115
                have u115f_j55a0_5_4 : j55a0_5_4.toInt ≤ (0 : Int) := Int.le_trans (Int.le_of_eq gc115) zq6
                have l115f_j55a0_5_4 : (0 : Int) ≤ j55a0_5_4.toInt := bj55a0_5_4_l
                have hF0 := hF0.trans (if_pos (show j55a0_5_4.toInt = 0 from gc115))
                refine lv_aload_n hx hb dX3_read_118 rfl (lv_at hl 0 rfl) ?_
                refine lv_bipush (v := 6) hx hb dX3_read_119 zk_bipush_6 ?_
                refine va_calli (va_runV (As := [.int 6]) (rest := []) ⟨hx, hb, hml, hown, hts⟩ (f_X3_fails l dC dI H.size a0 6 (.int 0) (.ref a0_3) (.ref a0_4) (.ref a0_5) (.int j55a0_6) (.int x6) (.int j55a0_9) (.int j55a0_10) (.long j55a0_11) (.int j55a0_12) (.int j55a0_13) j55a0_1 j55a0_2 j55a0_8 bj55a0_8_l bj55a0_8_u) (cwV 1 hts gX3_read_X3_fails rfl rfl rfl zd_X3_fails ⟨Nat.le_of_ble_eq_true rfl, Nat.le_of_ble_eq_true rfl⟩) ⟨ax_blind (fun _ _ _ _ _ => trivial), zr_3 (zp_K hK) (zp_P1 hP) (q0 := 0) rfl, ax_pre (zp_P1 hP) (zp_K hK) (zp_D1 hD) (fun _ _ => trivial)⟩ rfl rfl hl.1 rfl (lv_room (Nat.le_of_ble_eq_true rfl)) dX3_read_121 ⟨Nat.le_of_ble_eq_true rfl, Nat.le_of_ble_eq_true rfl⟩) hS (fun q _ h => zp_F1 hD hS hA q h) (zp_F1 hD hS hA) (fun r121 u t H locs ht hvm hw => zx_2 (fun v121na0_1 v121na0_2 => zy_1 (fun hraw121_0 hB hz1 hk1 hS1 => zo1 hB ht hP hD hk1 (zp_F1 hD hS hA) hS1 (fun hP hK1 hD hS => ?_))))
                obtain ⟨hw, hfr121⟩ := hw
                rw [show (6 : Int32).toInt = 6 from by decide] at hfr121 hraw121_0
                have hc121 : Ff_X3_fails 6 j55a0_8.toInt = (r121.toInt, v121na0_1.toInt, v121na0_2.toInt) := Prod.ext hfr121.symm hraw121_0
                have hF0 := hF0.trans (fl_c3_eq hc121)
                have hw : r121 = 0 := hw
                have hw := hw.symm
                subst hw
                refine lv_if_eq (tgt := 131) hx hb dX3_read_124 (by decide) (fun _ => ?_) (fun c124 => absurd (by decide +kernel) c124)
                refine lv_iconst (v := 0) hx hb dX3_read_131 zk_iconst_0 ?_
                have hFe : FX = (0, v121na0_1.toInt, v121na0_2.toInt, j55a0_6.toInt, x6.toInt, j55a0_8.toInt, j55a0_9.toInt, j55a0_10.toInt, j55a0_11.toInt, j55a0_12.toInt, j55a0_13.toInt, j55a0_5_0.toInt, j55a0_5_1.toInt, j55a0_5_2.toInt, j55a0_5_3.toInt, j55a0_5_4.toInt, j55a0_5_5.toInt, j55a0_5_6.toInt, j55a0_5_7.toInt, j55a0_5_8.toInt, j55a0_5_9.toInt, j55a0_5_14_0.toInt, (fl_A j55a0_5_10_a), (fl_A j55a0_5_11_a), (fl_L j55a0_4_a), (fl_A j55a0_5_14_2_a), (fl_A j55a0_5_14_3_a), (fl_A j55a0_5_13_a), (fl_A j55a0_5_12_a)) := hF0
                exact W.zret (v := 0) hx hb hr rfl (fun t ht hW => ⟨⟨0, (), rfl, ⟨(Or.inr (rfl)), (congrArg Prod.fst hFe).symm⟩, v121na0_1, v121na0_2, j55a0_6, x6, j55a0_8, j55a0_9, j55a0_10, j55a0_11, j55a0_12, j55a0_13, j55a0_5_0, j55a0_5_1, j55a0_5_2, j55a0_5_3, j55a0_5_4, j55a0_5_5, j55a0_5_6, j55a0_5_7, j55a0_5_8, j55a0_5_9, j55a0_5_14_0, j55a0_5_10_a, j55a0_5_11_a, j55a0_4_a, j55a0_5_14_2_a, j55a0_5_14_3_a, j55a0_5_13_a, j55a0_5_12_a, ⟨bj55a0_6_l, bj55a0_6_u⟩, ⟨bx6.1, bx6.2⟩, ⟨bj55a0_8_l, bj55a0_8_u⟩, ⟨bj55a0_9_l, bj55a0_9_u⟩, ⟨l99t_j55a0_10, Int.le_trans u99t_j55a0_10 (by decide)⟩, ⟨bj55a0_5_0_l, bj55a0_5_0_u⟩, ⟨l115f_j55a0_5_4, Int.le_trans u115f_j55a0_5_4 (by decide)⟩, ⟨bj55a0_5_5_l, bj55a0_5_5_u⟩, ⟨bj55a0_5_6_l, bj55a0_5_6_u⟩, ⟨bj55a0_5_7_l, bj55a0_5_7_u⟩, ⟨bj55a0_5_9_l, bj55a0_5_9_u⟩, ⟨bj55a0_5_14_0_l, bj55a0_5_14_0_u⟩, bj55a0_5_14_2_a, bj55a0_5_14_3_a, bj55a0_5_13_a, (congrArg Prod.snd hFe), by rw [ht]; exact hP, va_K.moved hW.alike hK, hD⟩, hS.F ht⟩) hS.2.2 dX3_read_132
            · have gc99 := ai_ne c99
              have l99f_j55a0_10 : (1 : Int) ≤ j55a0_10.toInt := (by first | exact zg_l bj55a0_10_l gc99 (by decide) (by decide) | (have h1 := bj55a0_10_l; have h2 : (0 : Int32).toInt = 0 := (by decide); rw [h2] at gc99; omega))
              have hF0 := hF0.trans (if_neg (show ¬ (j55a0_10.toInt = 0) from  gc99))
              refine lv_aload_n hx hb dX3_read_102 rfl (lv_at hl 0 rfl) ?_
              refine lv_iconst (v := 1) hx hb dX3_read_103 zk_iconst_1 ?_
              refine va_calli (va_runV (As := [.int 1]) (rest := []) ⟨hx, hb, hml, hown, hts⟩ (f_X3_fails l dC dI H.size a0 1 (.int 0) (.ref a0_3) (.ref a0_4) (.ref a0_5) (.int j55a0_6) (.int x6) (.int j55a0_9) (.int j55a0_10) (.long j55a0_11) (.int j55a0_12) (.int j55a0_13) j55a0_1 j55a0_2 j55a0_8 bj55a0_8_l bj55a0_8_u) (cwV 1 hts gX3_read_X3_fails rfl rfl rfl zd_X3_fails ⟨Nat.le_of_ble_eq_true rfl, Nat.le_of_ble_eq_true rfl⟩) ⟨ax_blind (fun _ _ _ _ _ => trivial), zr_3 (zp_K hK) (zp_P1 hP) (q0 := 0) rfl, ax_pre (zp_P1 hP) (zp_K hK) (zp_D1 hD) (fun _ _ => trivial)⟩ rfl rfl hl.1 rfl (lv_room (Nat.le_of_ble_eq_true rfl)) dX3_read_104 ⟨Nat.le_of_ble_eq_true rfl, Nat.le_of_ble_eq_true rfl⟩) hS (fun q _ h => zp_F1 hD hS hA q h) (zp_F1 hD hS hA) (fun r104 u t H locs ht hvm hw => zx_2 (fun v104na0_1 v104na0_2 => zy_1 (fun hraw104_0 hB hz1 hk1 hS1 => zo1 hB ht hP hD hk1 (zp_F1 hD hS hA) hS1 (fun hP hK1 hD hS => ?_))))
              obtain ⟨hw, hfr104⟩ := hw
              rw [show (1 : Int32).toInt = 1 from by decide] at hfr104 hraw104_0
              have hc104 : Ff_X3_fails 1 j55a0_8.toInt = (r104.toInt, v104na0_1.toInt, v104na0_2.toInt) := Prod.ext hfr104.symm hraw104_0
              have hF0 := hF0.trans (fl_c3_eq hc104)
              have hw : r104 = 0 := hw
              have hw := hw.symm
              subst hw
              have hFe : FX = (0, v104na0_1.toInt, v104na0_2.toInt, j55a0_6.toInt, x6.toInt, j55a0_8.toInt, j55a0_9.toInt, j55a0_10.toInt, j55a0_11.toInt, j55a0_12.toInt, j55a0_13.toInt, j55a0_5_0.toInt, j55a0_5_1.toInt, j55a0_5_2.toInt, j55a0_5_3.toInt, j55a0_5_4.toInt, j55a0_5_5.toInt, j55a0_5_6.toInt, j55a0_5_7.toInt, j55a0_5_8.toInt, j55a0_5_9.toInt, j55a0_5_14_0.toInt, (fl_A j55a0_5_10_a), (fl_A j55a0_5_11_a), (fl_L j55a0_4_a), (fl_A j55a0_5_14_2_a), (fl_A j55a0_5_14_3_a), (fl_A j55a0_5_13_a), (fl_A j55a0_5_12_a)) := hF0
              exact W.zret (v := 0) hx hb hr rfl (fun t ht hW => ⟨⟨0, (), rfl, ⟨(Or.inr (rfl)), (congrArg Prod.fst hFe).symm⟩, v104na0_1, v104na0_2, j55a0_6, x6, j55a0_8, j55a0_9, j55a0_10, j55a0_11, j55a0_12, j55a0_13, j55a0_5_0, j55a0_5_1, j55a0_5_2, j55a0_5_3, j55a0_5_4, j55a0_5_5, j55a0_5_6, j55a0_5_7, j55a0_5_8, j55a0_5_9, j55a0_5_14_0, j55a0_5_10_a, j55a0_5_11_a, j55a0_4_a, j55a0_5_14_2_a, j55a0_5_14_3_a, j55a0_5_13_a, j55a0_5_12_a, ⟨bj55a0_6_l, bj55a0_6_u⟩, ⟨bx6.1, bx6.2⟩, ⟨bj55a0_8_l, bj55a0_8_u⟩, ⟨bj55a0_9_l, bj55a0_9_u⟩, ⟨Int.le_trans (by decide) l99f_j55a0_10, bj55a0_10_u⟩, ⟨bj55a0_5_0_l, bj55a0_5_0_u⟩, ⟨bj55a0_5_4_l, bj55a0_5_4_u⟩, ⟨bj55a0_5_5_l, bj55a0_5_5_u⟩, ⟨bj55a0_5_6_l, bj55a0_5_6_u⟩, ⟨bj55a0_5_7_l, bj55a0_5_7_u⟩, ⟨bj55a0_5_9_l, bj55a0_5_9_u⟩, ⟨bj55a0_5_14_0_l, bj55a0_5_14_0_u⟩, bj55a0_5_14_2_a, bj55a0_5_14_3_a, bj55a0_5_13_a, (congrArg Prod.snd hFe), by rw [ht]; exact hP, va_K.moved hW.alike hK, hD⟩, hS.F ht⟩) hS.2.2 dX3_read_107
          · have gc90 := ai_eq c90
            have u90f_j55l2 : j55l2.toInt ≤ (0 : Int) := Int.le_trans (Int.le_of_eq gc90) zq6
            have l90f_j55l2 : (0 : Int) ≤ j55l2.toInt := bj55l2_l
            have hF0 := hF0.trans (if_pos (show j55l2.toInt = 0 from gc90))
            refine lv_iconst (v := 0) hx hb dX3_read_93 zk_iconst_0 ?_
            have hFe : FX = (0, j55a0_1.toInt, j55a0_2.toInt, j55a0_6.toInt, x6.toInt, j55a0_8.toInt, j55a0_9.toInt, j55a0_10.toInt, j55a0_11.toInt, j55a0_12.toInt, j55a0_13.toInt, j55a0_5_0.toInt, j55a0_5_1.toInt, j55a0_5_2.toInt, j55a0_5_3.toInt, j55a0_5_4.toInt, j55a0_5_5.toInt, j55a0_5_6.toInt, j55a0_5_7.toInt, j55a0_5_8.toInt, j55a0_5_9.toInt, j55a0_5_14_0.toInt, (fl_A j55a0_5_10_a), (fl_A j55a0_5_11_a), (fl_L j55a0_4_a), (fl_A j55a0_5_14_2_a), (fl_A j55a0_5_14_3_a), (fl_A j55a0_5_13_a), (fl_A j55a0_5_12_a)) := hF0
            exact W.zret (v := 0) hx hb hr rfl (fun t ht hW => ⟨⟨0, (), rfl, ⟨(Or.inr (rfl)), (congrArg Prod.fst hFe).symm⟩, j55a0_1, j55a0_2, j55a0_6, x6, j55a0_8, j55a0_9, j55a0_10, j55a0_11, j55a0_12, j55a0_13, j55a0_5_0, j55a0_5_1, j55a0_5_2, j55a0_5_3, j55a0_5_4, j55a0_5_5, j55a0_5_6, j55a0_5_7, j55a0_5_8, j55a0_5_9, j55a0_5_14_0, j55a0_5_10_a, j55a0_5_11_a, j55a0_4_a, j55a0_5_14_2_a, j55a0_5_14_3_a, j55a0_5_13_a, j55a0_5_12_a, ⟨bj55a0_6_l, bj55a0_6_u⟩, ⟨bx6.1, bx6.2⟩, ⟨bj55a0_8_l, bj55a0_8_u⟩, ⟨bj55a0_9_l, bj55a0_9_u⟩, ⟨bj55a0_10_l, bj55a0_10_u⟩, ⟨bj55a0_5_0_l, bj55a0_5_0_u⟩, ⟨bj55a0_5_4_l, bj55a0_5_4_u⟩, ⟨bj55a0_5_5_l, bj55a0_5_5_u⟩, ⟨bj55a0_5_6_l, bj55a0_5_6_u⟩, ⟨bj55a0_5_7_l, bj55a0_5_7_u⟩, ⟨bj55a0_5_9_l, bj55a0_5_9_u⟩, ⟨bj55a0_5_14_0_l, bj55a0_5_14_0_u⟩, bj55a0_5_14_2_a, bj55a0_5_14_3_a, bj55a0_5_13_a, (congrArg Prod.snd hFe), by rw [ht]; exact hP, va_K.moved hW.alike hK, hD⟩, hS.F ht⟩) hS.2.2 dX3_read_94
        refine lv_if_eq (tgt := 89) hx hb dX3_read_56 (by decide) (fun c56 => ?_) (fun c56 => ?_)
        · have gc56 := ai_eq c56
          have u56t_j55l2 : j55l2.toInt ≤ (0 : Int) := Int.le_trans (Int.le_of_eq gc56) zq6
          have l56t_j55l2 : (0 : Int) ≤ j55l2.toInt := bj55l2_l
          have hF1 := hF1.trans (if_pos (show j55l2.toInt = 0 from gc56))
          have hF0 := hF0.trans (fl_wh_r (hSX55.trans hF1))
          exact (hK0 _ _ _).mp (J89  _ _ _   hF0 hP hD hS (lv_sub hl [0, 1] rfl))
        · have gc56 := ai_ne c56
          have l56f_j55l2 : (1 : Int) ≤ j55l2.toInt := (by first | exact zg_l bj55l2_l gc56 (by decide) (by decide) | (have h1 := bj55l2_l; have h2 : (0 : Int32).toInt = 0 := (by decide); rw [h2] at gc56; omega))
          have hF1 := hF1.trans (if_neg (show ¬ (j55l2.toInt = 0) from  gc56))
          refine lv_aload_n hx hb dX3_read_59 rfl (lv_at hl 0 rfl) ?_
          refine va_get (D := (dC, dI)) (ci := 3) (v := .int j55a0_10) (C := RX3) (T := TX3) (N := 14) hx hb hts zi_X3_read_3 hown hK hP 0 rfl rfl 10 (by decide) (hts (.fieldLink RX3 61 "WaxTurns$Reade\x72" "token" "I") (zm_X3_read_r1 (List.mem_of_getElem? (i := 11) rfl))) (fun _ h9 => h9) rfl dX3_read_60 ?_
          refine lv_iconst (v := 3) hx hb dX3_read_63 zk_iconst_3 ?_
          refine lv_icmp_ne (tgt := 89) hx hb dX3_read_64 (by decide) (fun c64 => ?_) (fun c64 => ?_)
          · have gc64 := ai_ne c64
            have hF1 := hF1.trans (if_neg (show ¬ (j55a0_10.toInt = 3) from  gc64))
            have hF0 := hF0.trans (fl_wh_r (hSX55.trans hF1))
            exact (hK0 _ _ _).mp (J89  _ _ _   hF0 hP hD hS (lv_sub hl [0, 1] rfl))
          · have gc64 := ai_eq c64
            have u64f_j55a0_10 : j55a0_10.toInt ≤ (3 : Int) := Int.le_trans (Int.le_of_eq gc64) zq9
            have l64f_j55a0_10 : (3 : Int) ≤ j55a0_10.toInt := Int.le_trans zq8 (Int.le_of_eq gc64.symm)
            have hF1 := hF1.trans (if_pos (show j55a0_10.toInt = 3 from gc64))
            refine lv_iload_n hx hb dX3_read_67 rfl (lv_at hl 2 rfl) ?_
            refine lv_sipush (v := 900) hx hb dX3_read_68 zk_sipush_900 ?_
            refine lv_icmp_ge (tgt := 89) hx hb dX3_read_71 (by decide) (fun c71 => ?_) (fun c71 => ?_)
            · have gc71 := ai_le c71
              have l71t_j55l3 : (900 : Int) ≤ j55l3.toInt := Int.le_trans zq37 gc71
              have hF1 := hF1.trans (if_pos (show 900 ≤ j55l3.toInt from gc71))
              have hF0 := hF0.trans (fl_wh_r (hSX55.trans hF1))
              exact (hK0 _ _ _).mp (J89  _ _ _   hF0 hP hD hS (lv_sub hl [0, 1] rfl))
            · have gc71 := ai_nle c71
              have u71f_j55l3 : j55l3.toInt ≤ (899 : Int) := ai_lthi gc71 zq39
              have hF1 := hF1.trans (if_neg (show ¬ (900 ≤ j55l3.toInt) from Int.not_le.mpr gc71))
              refine lv_aload_n hx hb dX3_read_74 rfl (lv_at hl 0 rfl) ?_
              refine zc_cutc (wc := [(a0, .inr (3, [.int 0, .int j55a0_1, .int j55a0_2, .ref a0_3, .ref a0_4, .ref a0_5, .int j55a0_6, .int x6, .int j55a0_8, .int j55a0_9, .int j55a0_10, .long j55a0_11, .int j55a0_12, .int j55a0_13])), (a0_3, .inl (ka0_3, 900, .inl (fa0_3)))]) hP hD hS hA [0, 5] (by decide +kernel) rfl (fun hPc hDc hFc hCc => ?_)
              have hKc := hK.sub (tys' := [(ka0_3, .byte)]) [2] rfl
              refine va_callv (va_runV (As := []) (rest := []) ⟨hx, hb, hml, hown, hts⟩ (f_X3_advance l dC dI H.size a0 (.int 0) (.int j55a0_1) (.int j55a0_2) (.ref a0_4) (.ref a0_5) (.int j55a0_6) (.int j55a0_13) a0_3 x6 j55a0_8 j55a0_9 j55a0_10 j55a0_11 j55a0_12 ka0_3 fa0_3 bx6.1 bx6.2 bj55a0_8_l bj55a0_8_u bj55a0_9_l bj55a0_9_u (Int.le_trans zq11 l64f_j55a0_10) (Int.le_trans u64f_j55a0_10 zq230)) (cwV 0 hts gX3_read_X3_advance rfl rfl rfl zd_X3_advance ⟨Nat.le_of_ble_eq_true rfl, Nat.le_of_ble_eq_true rfl⟩) ⟨ax_blind (fun _ _ _ _ _ => trivial), zr_3 hKc hPc (q0 := 0) rfl, ax_pre hPc hKc hDc (fun _ _ => trivial)⟩ rfl rfl hl.1 rfl (lv_room (Nat.le_of_ble_eq_true rfl)) dX3_read_75 ⟨Nat.le_of_ble_eq_true rfl, Nat.le_of_ble_eq_true rfl⟩) hS (fun q _ h => hFc q h) hFc (fun u t H locs ht hvm hw => zx_5 (fun v75na0_8 v75na0_9 v75na0_10 v75na0_11 v75na0_12 => zy_4 (fun bv75na0_8 bv75na0_9 bv75na0_10 hraw75_0 hB hz1 hk1 hS1 => zo hB ht hS1 (fun hP1 hK1 hD1 hS => ?_))))
              refine zc_backc (w := [(a0, .inr (3, [.int 0, .int j55a0_1, .int j55a0_2, .ref a0_3, .ref a0_4, .ref a0_5, .int j55a0_6, .int x6, .int v75na0_8, .int v75na0_9, .int v75na0_10, .long v75na0_11, .int v75na0_12, .int j55a0_13])), (a0_5, .inr (0, [.int j55a0_5_0, .int j55a0_5_1, .int j55a0_5_2, .int j55a0_5_3, .int j55a0_5_4, .int j55a0_5_5, .int j55a0_5_6, .int j55a0_5_7, .int j55a0_5_8, .int j55a0_5_9, .ref a0_5_10, .ref a0_5_11, .ref a0_5_12, .ref a0_5_13, .ref a0_5_14])), (a0_5_14, .inr (6, [.int j55a0_5_14_0, a0_5_14g_1, .ref a0_5_14_2, .ref a0_5_14_3])), (a0_5_10, .inl (ka0_5_10, 9, .inl (j55a0_5_10_a))), (a0_5_11, .inl (ka0_5_11, 9, .inl (j55a0_5_11_a))), (a0_3, .inl (ka0_3, 900, .inl (fa0_3))), (a0_4, .inl (ka0_4, 12, .inr (.inl (j55a0_4_a)))), (a0_5_14_2, .inl (ka0_5_14_2, 3, .inl (j55a0_5_14_2_a))), (a0_5_14_3, .inl (ka0_5_14_3, 3, .inl (j55a0_5_14_3_a))), (a0_5_13, .inl (ka0_5_13, 6, .inl (j55a0_5_13_a))), (a0_5_12, .inl (ka0_5_12, 6, .inl (j55a0_5_12_a)))]) hP hD hCc hk1 hFc hP1 hD1 [.inr 0, .inl 1, .inl 2, .inl 3, .inl 4, .inr 1, .inl 6, .inl 7, .inl 8, .inl 9, .inl 10] (by decide +kernel) rfl (fun hP hD => ?_)
              have hc75 : Ff_X3_advance x6.toInt j55a0_9.toInt j55a0_11.toInt j55a0_12.toInt (fl_A fa0_3) = (v75na0_8.toInt, v75na0_9.toInt, v75na0_10.toInt, v75na0_11.toInt, v75na0_12.toInt) := hraw75_0
              have hF1 := hF1.trans (fl_c5_eq hc75)
              refine lv_aload_n hx hb dX3_read_78 rfl (lv_at hl 0 rfl) ?_
              refine zc_cutc (wc := [(a0, .inr (3, [.int 0, .int j55a0_1, .int j55a0_2, .ref a0_3, .ref a0_4, .ref a0_5, .int j55a0_6, .int x6, .int v75na0_8, .int v75na0_9, .int v75na0_10, .long v75na0_11, .int v75na0_12, .int j55a0_13])), (a0_5, .inr (0, [.int j55a0_5_0, .int j55a0_5_1, .int j55a0_5_2, .int j55a0_5_3, .int j55a0_5_4, .int j55a0_5_5, .int j55a0_5_6, .int j55a0_5_7, .int j55a0_5_8, .int j55a0_5_9, .ref a0_5_10, .ref a0_5_11, .ref a0_5_12, .ref a0_5_13, .ref a0_5_14])), (a0_3, .inl (ka0_3, 900, .inl (fa0_3))), (a0_4, .inl (ka0_4, 12, .inr (.inl (j55a0_4_a)))), (a0_5_10, .inl (ka0_5_10, 9, .inl (j55a0_5_10_a))), (a0_5_11, .inl (ka0_5_11, 9, .inl (j55a0_5_11_a))), (a0_5_14, .inr (6, [.int j55a0_5_14_0, a0_5_14g_1, .ref a0_5_14_2, .ref a0_5_14_3])), (a0_5_14_2, .inl (ka0_5_14_2, 3, .inl (j55a0_5_14_2_a))), (a0_5_14_3, .inl (ka0_5_14_3, 3, .inl (j55a0_5_14_3_a))), (a0_5_13, .inl (ka0_5_13, 6, .inl (j55a0_5_13_a))), (a0_5_12, .inl (ka0_5_12, 6, .inl (j55a0_5_12_a)))]) hP hD hS hA [0, 1, 5, 6, 3, 4, 2, 7, 8, 9, 10] (by decide +kernel) rfl (fun hPc hDc hFc hCc => ?_)
              have hKc := hK.sub (tys' := [(ka0_3, .byte), (ka0_4, .long), (ka0_5_10, .int), (ka0_5_11, .int), (ka0_5_14_2, .int), (ka0_5_14_3, .int), (ka0_5_13, .int), (ka0_5_12, .int)]) [2, 3, 0, 1, 4, 5, 6, 7] rfl
              refine va_calli (va_runV (As := []) (rest := []) ⟨hx, hb, hml, hown, hts⟩ (f_X3_readLine l dC dI H.size a0 (.int 0) j55a0_1 j55a0_2 a0_3 a0_4 a0_5 j55a0_6 x6 v75na0_8 v75na0_9 v75na0_10 v75na0_11 v75na0_12 j55a0_13 j55a0_5_0 j55a0_5_1 j55a0_5_2 j55a0_5_3 j55a0_5_4 j55a0_5_5 j55a0_5_6 j55a0_5_7 j55a0_5_8 j55a0_5_9 a0_5_10 a0_5_11 a0_5_12 a0_5_13 a0_5_14 ka0_3 fa0_3 ka0_4 j55a0_4_a ka0_5_10 j55a0_5_10_a ka0_5_11 j55a0_5_11_a j55a0_5_14_0 a0_5_14g_1 a0_5_14_2 a0_5_14_3 ka0_5_14_2 j55a0_5_14_2_a ka0_5_14_3 j55a0_5_14_3_a ka0_5_13 j55a0_5_13_a ka0_5_12 j55a0_5_12_a ad bj55a0_6_l bj55a0_6_u bx6.1 bx6.2 bv75na0_8.1 bv75na0_8.2 bv75na0_9.1 bv75na0_9.2 bv75na0_10.1 bv75na0_10.2 bj55a0_5_0_l bj55a0_5_0_u bj55a0_5_4_l bj55a0_5_4_u bj55a0_5_5_l bj55a0_5_5_u bj55a0_5_6_l bj55a0_5_6_u bj55a0_5_7_l bj55a0_5_7_u bj55a0_5_9_l bj55a0_5_9_u bj55a0_5_14_0_l bj55a0_5_14_0_u bj55a0_5_14_2_a bj55a0_5_14_3_a bj55a0_5_13_a) (cwV 0 hts gX3_read_X3_readLine rfl rfl rfl zd_X3_readLine ⟨Nat.le_of_ble_eq_true rfl, Nat.le_of_ble_eq_true rfl⟩) ⟨ax_blind (fun _ _ _ _ hq => ⟨sxc_T_same _ _ _ _ (hq.1), va_Nw.same rfl rfl (hq.2.1), va_Nw.same rfl rfl (hq.2.2)⟩), zr_3 hKc hPc (q0 := 0) rfl, ax_preE hPc hKc hDc (fun U hU hW => ⟨sxc_T_to hE0 hS.2.1 hFc hU hW, va_Nw.warmM hW hE1, va_Nw.warmM hW hE2⟩)⟩ rfl rfl hl.1 rfl (lv_room (Nat.le_of_ble_eq_true rfl)) dX3_read_79 ⟨Nat.le_of_ble_eq_true rfl, Nat.le_of_ble_eq_true rfl⟩) hS (fun q _ h => hFc q h) hFc (fun r79 u t H locs ht hvm hw => zx_27 (fun v79na0_1 v79na0_2 v79na0_6 v79na0_8 v79na0_9 v79na0_10 v79na0_11 v79na0_12 v79na0_13 v79na0_5_0 v79na0_5_1 v79na0_5_2 v79na0_5_3 v79na0_5_4 v79na0_5_5 v79na0_5_6 v79na0_5_7 v79na0_5_8 v79na0_5_9 v79nfa0_4 v79nfa0_5_10 v79nfa0_5_11 v79na0_5_14_0 v79nfa0_5_14_2 v79nfa0_5_14_3 v79nfa0_5_13 v79nfa0_5_12 => zy_15 (fun bv79na0_6 bv79na0_8 bv79na0_9 bv79na0_10 bv79na0_5_0 bv79na0_5_4 bv79na0_5_5 bv79na0_5_6 bv79na0_5_7 bv79na0_5_9 bv79na0_5_14_0 bv79nfa0_5_14_2 bv79nfa0_5_14_3 bv79nfa0_5_13 hraw79_0 hB hz1 hk1 hS1 => zo hB ht hS1 (fun hP1 hK1 hD1 hS => ?_))))
              refine zc_backc (w := [(a0, .inr (3, [.int 0, .int v79na0_1, .int v79na0_2, .ref a0_3, .ref a0_4, .ref a0_5, .int v79na0_6, .int x6, .int v79na0_8, .int v79na0_9, .int v79na0_10, .long v79na0_11, .int v79na0_12, .int v79na0_13])), (a0_5, .inr (0, [.int v79na0_5_0, .int v79na0_5_1, .int v79na0_5_2, .int v79na0_5_3, .int v79na0_5_4, .int v79na0_5_5, .int v79na0_5_6, .int v79na0_5_7, .int v79na0_5_8, .int v79na0_5_9, .ref a0_5_10, .ref a0_5_11, .ref a0_5_12, .ref a0_5_13, .ref a0_5_14])), (a0_5_14, .inr (6, [.int v79na0_5_14_0, a0_5_14g_1, .ref a0_5_14_2, .ref a0_5_14_3])), (a0_5_10, .inl (ka0_5_10, 9, .inl (v79nfa0_5_10))), (a0_5_11, .inl (ka0_5_11, 9, .inl (v79nfa0_5_11))), (a0_3, .inl (ka0_3, 900, .inl (fa0_3))), (a0_4, .inl (ka0_4, 12, .inr (.inl (v79nfa0_4)))), (a0_5_14_2, .inl (ka0_5_14_2, 3, .inl (v79nfa0_5_14_2))), (a0_5_14_3, .inl (ka0_5_14_3, 3, .inl (v79nfa0_5_14_3))), (a0_5_13, .inl (ka0_5_13, 6, .inl (v79nfa0_5_13))), (a0_5_12, .inl (ka0_5_12, 6, .inl (v79nfa0_5_12)))]) hP hD hCc hk1 hFc hP1 hD1 [.inr 0, .inr 1, .inr 6, .inr 4, .inr 5, .inr 2, .inr 3, .inr 7, .inr 8, .inr 9, .inr 10] (by decide +kernel) rfl (fun hP hD => ?_)
              obtain ⟨hw, hfr79⟩ := hw
              have hc79 : Ff_X3_readLine j55a0_1.toInt j55a0_2.toInt j55a0_6.toInt x6.toInt v75na0_8.toInt v75na0_9.toInt v75na0_10.toInt v75na0_11.toInt v75na0_12.toInt j55a0_13.toInt j55a0_5_0.toInt j55a0_5_1.toInt j55a0_5_2.toInt j55a0_5_3.toInt j55a0_5_4.toInt j55a0_5_5.toInt j55a0_5_6.toInt j55a0_5_7.toInt j55a0_5_8.toInt j55a0_5_9.toInt (fl_A fa0_3) (fl_L j55a0_4_a) (fl_A j55a0_5_10_a) (fl_A j55a0_5_11_a) j55a0_5_14_0.toInt (fl_A j55a0_5_14_2_a) (fl_A j55a0_5_14_3_a) (fl_A j55a0_5_13_a) (fl_A j55a0_5_12_a) = (r79.toInt, v79na0_1.toInt, v79na0_2.toInt, v79na0_6.toInt, v79na0_8.toInt, v79na0_9.toInt, v79na0_10.toInt, v79na0_11.toInt, v79na0_12.toInt, v79na0_13.toInt, v79na0_5_0.toInt, v79na0_5_1.toInt, v79na0_5_2.toInt, v79na0_5_3.toInt, v79na0_5_4.toInt, v79na0_5_5.toInt, v79na0_5_6.toInt, v79na0_5_7.toInt, v79na0_5_8.toInt, v79na0_5_9.toInt, (fl_L v79nfa0_4), (fl_A v79nfa0_5_10), (fl_A v79nfa0_5_11), v79na0_5_14_0.toInt, (fl_A v79nfa0_5_14_2), (fl_A v79nfa0_5_14_3), (fl_A v79nfa0_5_13), (fl_A v79nfa0_5_12)) := Prod.ext hfr79.symm hraw79_0
              have hF1 := hF1.trans (fl_c28_eq hc79)
              rcases hw with hw | hw
              · subst hw
                have hF1 := hF1.trans (if_pos (by decide))
                refine lv_istore_n (lv' := [(2, .int 1), (0, .ref a0), (3, .int j55l3)]) hx hb dX3_read_82 rfl hl (by decide) rfl (fun ls hl => ?_)
                obtain ⟨x83, ex83⟩ : ∃ y : Int32, y = j55l3 + Int32.ofInt 1 := ⟨_, rfl⟩
                have qx83 : x83.toInt = j55l3.toInt + 1 := ai_inc ex83 (by decide) (by decide) u71f_j55l3 (by decide)
                have bx83 : (2 : Int) ≤ x83.toInt ∧ x83.toInt ≤ 900 := ⟨by rw [qx83]; exact Int.add_le_add bj55l3_l (Int.le_refl _), by rw [qx83]; exact Int.add_le_add u71f_j55l3 (Int.le_refl _)⟩
                refine lv_iinc (v := x83) (lv' := [(3, .int x83), (2, .int 1), (0, .ref a0)]) hx hb dX3_read_83 hl (k := 2) rfl ex83.symm (by decide) rfl (fun ls hl => ?_)
                have hF1 := hF1.trans (fl_lt_eq (show x83.toInt = j55l3.toInt + 1 from qx83))
                refine lv_goto (tgt := 55) hx hb dX3_read_86 (by decide) ?_
                exact (hK0 _ _ _).mp (ih55 x83 1 v79na0_1 v79na0_2 v79na0_6 v79na0_8 v79na0_9 v79na0_10 v79na0_11 v79na0_12 v79na0_13 v79na0_5_0 v79na0_5_1 v79na0_5_2 v79na0_5_3 v79na0_5_4 v79na0_5_5 v79na0_5_6 v79na0_5_7 v79na0_5_8 v79na0_5_9 v79na0_5_14_0 v79nfa0_5_10 v79nfa0_5_11 v79nfa0_4 v79nfa0_5_14_2 v79nfa0_5_14_3 v79nfa0_5_13 v79nfa0_5_12 _ _ _ (by first | exact zg_s hm55 qx83 | (have h0 := qx83; omega)) (Int.le_trans zq54 bx83.1) bx83.2 (Int.le_trans zq4 zq1) zq0 bv79na0_6.1 bv79na0_6.2 bv79na0_8.1 bv79na0_8.2 bv79na0_9.1 bv79na0_9.2 bv79na0_10.1 bv79na0_10.2 bv79na0_5_0.1 bv79na0_5_0.2 bv79na0_5_4.1 bv79na0_5_4.2 bv79na0_5_5.1 bv79na0_5_5.2 bv79na0_5_6.1 bv79na0_5_6.2 bv79na0_5_7.1 bv79na0_5_7.2 bv79na0_5_9.1 bv79na0_5_9.2 bv79na0_5_14_0.1 bv79na0_5_14_0.2 bv79nfa0_5_14_2 bv79nfa0_5_14_3 bv79nfa0_5_13 (by rw [show (1 : Int32).toInt = 1 from by decide]; exact (hF0.trans (fl_wh_l (hSX55.trans hF1)))) hP hD hS (lv_sub hl [2, 1, 0] rfl))
              · subst hw
                have hF1 := hF1.trans (if_neg (by decide))
                refine lv_istore_n (lv' := [(2, .int 0), (0, .ref a0), (3, .int j55l3)]) hx hb dX3_read_82 rfl hl (by decide) rfl (fun ls hl => ?_)
                obtain ⟨x83, ex83⟩ : ∃ y : Int32, y = j55l3 + Int32.ofInt 1 := ⟨_, rfl⟩
                have qx83 : x83.toInt = j55l3.toInt + 1 := ai_inc ex83 (by decide) (by decide) u71f_j55l3 (by decide)
                have bx83 : (2 : Int) ≤ x83.toInt ∧ x83.toInt ≤ 900 := ⟨by rw [qx83]; exact Int.add_le_add bj55l3_l (Int.le_refl _), by rw [qx83]; exact Int.add_le_add u71f_j55l3 (Int.le_refl _)⟩
                refine lv_iinc (v := x83) (lv' := [(3, .int x83), (2, .int 0), (0, .ref a0)]) hx hb dX3_read_83 hl (k := 2) rfl ex83.symm (by decide) rfl (fun ls hl => ?_)
                have hF1 := hF1.trans (fl_lt_eq (show x83.toInt = j55l3.toInt + 1 from qx83))
                refine lv_goto (tgt := 55) hx hb dX3_read_86 (by decide) ?_
                exact (hK0 _ _ _).mp (ih55 x83 0 v79na0_1 v79na0_2 v79na0_6 v79na0_8 v79na0_9 v79na0_10 v79na0_11 v79na0_12 v79na0_13 v79na0_5_0 v79na0_5_1 v79na0_5_2 v79na0_5_3 v79na0_5_4 v79na0_5_5 v79na0_5_6 v79na0_5_7 v79na0_5_8 v79na0_5_9 v79na0_5_14_0 v79nfa0_5_10 v79nfa0_5_11 v79nfa0_4 v79nfa0_5_14_2 v79nfa0_5_14_3 v79nfa0_5_13 v79nfa0_5_12 _ _ _ (by first | exact zg_s hm55 qx83 | (have h0 := qx83; omega)) (Int.le_trans zq54 bx83.1) bx83.2 zq5 (Int.le_trans zq6 zq4) bv79na0_6.1 bv79na0_6.2 bv79na0_8.1 bv79na0_8.2 bv79na0_9.1 bv79na0_9.2 bv79na0_10.1 bv79na0_10.2 bv79na0_5_0.1 bv79na0_5_0.2 bv79na0_5_4.1 bv79na0_5_4.2 bv79na0_5_5.1 bv79na0_5_5.2 bv79na0_5_6.1 bv79na0_5_6.2 bv79na0_5_7.1 bv79na0_5_7.2 bv79na0_5_9.1 bv79na0_5_9.2 bv79na0_5_14_0.1 bv79na0_5_14_0.2 bv79nfa0_5_14_2 bv79nfa0_5_14_3 bv79nfa0_5_13 (by rw [show (0 : Int32).toInt = 0 from by decide]; exact (hF0.trans (fl_wh_l (hSX55.trans hF1)))) hP hD hS (lv_sub hl [2, 1, 0] rfl))
    exact (hK0 _ _ _).mp (J55 900 1 1 v49na0_1 v49na0_2 v49na0_6 v49na0_8 v49na0_9 v49na0_10 v49na0_11 v49na0_12 v49na0_13 v49na0_5_0 v49na0_5_1 v49na0_5_2 v49na0_5_3 v49na0_5_4 v49na0_5_5 v49na0_5_6 v49na0_5_7 v49na0_5_8 v49na0_5_9 v49na0_5_14_0 v49nfa0_5_10 v49nfa0_5_11 v49nfa0_4 v49nfa0_5_14_2 v49nfa0_5_14_3 v49nfa0_5_13 v49nfa0_5_12 _ _ _ (by first | decide +kernel | (have h1 : (1 : Int) ≤ (1 : Int32).toInt := zq1; have h2 : (1 : Int32).toInt ≤ (1 : Int) := zq0; omega)) zq1 (Int.le_trans zq0 zq231) (Int.le_trans zq4 zq1) zq0 bv49na0_6.1 bv49na0_6.2 bv49na0_8.1 bv49na0_8.2 bv49na0_9.1 bv49na0_9.2 bv49na0_10.1 bv49na0_10.2 bv49na0_5_0.1 bv49na0_5_0.2 bv49na0_5_4.1 bv49na0_5_4.2 bv49na0_5_5.1 bv49na0_5_5.2 bv49na0_5_6.1 bv49na0_5_6.2 bv49na0_5_7.1 bv49na0_5_7.2 bv49na0_5_9.1 bv49na0_5_9.2 bv49na0_5_14_0.1 bv49na0_5_14_0.2 bv49nfa0_5_14_2 bv49nfa0_5_14_3 bv49nfa0_5_13 (by rw [show (1 : Int32).toInt = 1 from by decide]; exact hF0) hP hD hS (lv_sub hl [2, 1, 0] rfl))
  · subst hw
    have hF0 := hF0.trans (if_neg (by decide))
    refine lv_istore_n (lv' := [(2, .int 0), (0, .ref a0), (1, .int a1)]) hx hb dX3_read_52 rfl hl (by decide) rfl (fun ls hl => ?_)
    refine lv_iconst (v := 1) hx hb dX3_read_53 zk_iconst_1 ?_
    refine lv_istore_n (lv' := [(3, .int 1), (2, .int 0), (0, .ref a0), (1, .int a1)]) hx hb dX3_read_54 rfl hl (by decide) rfl (fun ls hl => ?_)
    have J55 : ∀ (n : Nat) (j55l3 : Int32) (j55l2 : Int32) (j55a0_1 : Int32) (j55a0_2 : Int32) (j55a0_6 : Int32) (j55a0_8 : Int32) (j55a0_9 : Int32) (j55a0_10 : Int32) (j55a0_11 : Int64) (j55a0_12 : Int32) (j55a0_13 : Int32) (j55a0_5_0 : Int32) (j55a0_5_1 : Int32) (j55a0_5_2 : Int32) (j55a0_5_3 : Int32) (j55a0_5_4 : Int32) (j55a0_5_5 : Int32) (j55a0_5_6 : Int32) (j55a0_5_7 : Int32) (j55a0_5_8 : Int32) (j55a0_5_9 : Int32) (j55a0_5_14_0 : Int32) (j55a0_5_10_a : Nat → Int32) (j55a0_5_11_a : Nat → Int32) (j55a0_4_a : Nat → Int64) (j55a0_5_14_2_a : Nat → Int32) (j55a0_5_14_3_a : Nat → Int32) (j55a0_5_13_a : Nat → Int32) (j55a0_5_12_a : Nat → Int32) (H : Heap) (locs : List Loc) (ls : Array Slot), (901 : Int) - j55l3.toInt ≤ (n : Int) → (1 : Int) ≤ j55l3.toInt → j55l3.toInt ≤ (900 : Int) → (0 : Int) ≤ j55l2.toInt → j55l2.toInt ≤ (1 : Int) → (0 : Int) ≤ j55a0_6.toInt → j55a0_6.toInt ≤ (12 : Int) → (0 : Int) ≤ j55a0_8.toInt → j55a0_8.toInt ≤ (900 : Int) → (0 : Int) ≤ j55a0_9.toInt → j55a0_9.toInt ≤ (900 : Int) → (0 : Int) ≤ j55a0_10.toInt → j55a0_10.toInt ≤ (4 : Int) → (0 : Int) ≤ j55a0_5_0.toInt → j55a0_5_0.toInt ≤ (9 : Int) → (0 : Int) ≤ j55a0_5_4.toInt → j55a0_5_4.toInt ≤ (1 : Int) → (0 : Int) ≤ j55a0_5_5.toInt → j55a0_5_5.toInt ≤ (8 : Int) → (0 : Int) ≤ j55a0_5_6.toInt → j55a0_5_6.toInt ≤ (8 : Int) → (0 : Int) ≤ j55a0_5_7.toInt → j55a0_5_7.toInt ≤ (8 : Int) → (0 : Int) ≤ j55a0_5_9.toInt → j55a0_5_9.toInt ≤ (6 : Int) → (0 : Int) ≤ j55a0_5_14_0.toInt → j55a0_5_14_0.toInt ≤ (3 : Int) → (∀ k, (0 : Int) ≤ (j55a0_5_14_2_a k).toInt ∧ (j55a0_5_14_2_a k).toInt ≤ 80) → (∀ k, (0 : Int) ≤ (j55a0_5_14_3_a k).toInt ∧ (j55a0_5_14_3_a k).toInt ≤ 80) → (∀ k, (0 : Int) ≤ (j55a0_5_13_a k).toInt ∧ (j55a0_5_13_a k).toInt ≤ 999) → (FX = fl_wh (fun t9 => Sf_X3_read_55_2 (fl_A fa0_3) x6.toInt t9.1 t9.2.1 t9.2.2.1 t9.2.2.2.1 t9.2.2.2.2.1 t9.2.2.2.2.2.1 t9.2.2.2.2.2.2.1 t9.2.2.2.2.2.2.2.1 t9.2.2.2.2.2.2.2.2.1 t9.2.2.2.2.2.2.2.2.2.1 t9.2.2.2.2.2.2.2.2.2.2.1 t9.2.2.2.2.2.2.2.2.2.2.2.1 t9.2.2.2.2.2.2.2.2.2.2.2.2.1 t9.2.2.2.2.2.2.2.2.2.2.2.2.2.1 t9.2.2.2.2.2.2.2.2.2.2.2.2.2.2.1 t9.2.2.2.2.2.2.2.2.2.2.2.2.2.2.2.1 t9.2.2.2.2.2.2.2.2.2.2.2.2.2.2.2.2.1 t9.2.2.2.2.2.2.2.2.2.2.2.2.2.2.2.2.2.1 t9.2.2.2.2.2.2.2.2.2.2.2.2.2.2.2.2.2.2.1 t9.2.2.2.2.2.2.2.2.2.2.2.2.2.2.2.2.2.2.2.1 t9.2.2.2.2.2.2.2.2.2.2.2.2.2.2.2.2.2.2.2.2.1 t9.2.2.2.2.2.2.2.2.2.2.2.2.2.2.2.2.2.2.2.2.2.1 t9.2.2.2.2.2.2.2.2.2.2.2.2.2.2.2.2.2.2.2.2.2.2.1 t9.2.2.2.2.2.2.2.2.2.2.2.2.2.2.2.2.2.2.2.2.2.2.2.1 t9.2.2.2.2.2.2.2.2.2.2.2.2.2.2.2.2.2.2.2.2.2.2.2.2.1 t9.2.2.2.2.2.2.2.2.2.2.2.2.2.2.2.2.2.2.2.2.2.2.2.2.2.1 t9.2.2.2.2.2.2.2.2.2.2.2.2.2.2.2.2.2.2.2.2.2.2.2.2.2.2.1 t9.2.2.2.2.2.2.2.2.2.2.2.2.2.2.2.2.2.2.2.2.2.2.2.2.2.2.2.1 t9.2.2.2.2.2.2.2.2.2.2.2.2.2.2.2.2.2.2.2.2.2.2.2.2.2.2.2.2) (0, 0, 0, 0, 0, 0, 0, 0, 0, 0, 0, 0, 0, 0, 0, 0, 0, 0, 0, 0, 0, 0, (fun _ => 0), (fun _ => 0), (fun _ => 0), (fun _ => 0), (fun _ => 0), (fun _ => 0), (fun _ => 0)) n (j55l3.toInt, j55l2.toInt, j55a0_1.toInt, j55a0_2.toInt, j55a0_6.toInt, j55a0_8.toInt, j55a0_9.toInt, j55a0_10.toInt, j55a0_11.toInt, j55a0_12.toInt, j55a0_13.toInt, j55a0_5_0.toInt, j55a0_5_1.toInt, j55a0_5_2.toInt, j55a0_5_3.toInt, j55a0_5_4.toInt, j55a0_5_5.toInt, j55a0_5_6.toInt, j55a0_5_7.toInt, j55a0_5_8.toInt, j55a0_5_9.toInt, j55a0_5_14_0.toInt, (fl_A j55a0_5_10_a), (fl_A j55a0_5_11_a), (fl_L j55a0_4_a), (fl_A j55a0_5_14_2_a), (fl_A j55a0_5_14_3_a), (fl_A j55a0_5_13_a), (fl_A j55a0_5_12_a))) → va_P (dC, dI) vwCl [(a0, .inr (3, [.int 0, .int j55a0_1, .int j55a0_2, .ref a0_3, .ref a0_4, .ref a0_5, .int j55a0_6, .int x6, .int j55a0_8, .int j55a0_9, .int j55a0_10, .long j55a0_11, .int j55a0_12, .int j55a0_13])), (a0_5, .inr (0, [.int j55a0_5_0, .int j55a0_5_1, .int j55a0_5_2, .int j55a0_5_3, .int j55a0_5_4, .int j55a0_5_5, .int j55a0_5_6, .int j55a0_5_7, .int j55a0_5_8, .int j55a0_5_9, .ref a0_5_10, .ref a0_5_11, .ref a0_5_12, .ref a0_5_13, .ref a0_5_14])), (a0_5_14, .inr (6, [.int j55a0_5_14_0, a0_5_14g_1, .ref a0_5_14_2, .ref a0_5_14_3])), (a0_5_10, .inl (ka0_5_10, 9, .inl (j55a0_5_10_a))), (a0_5_11, .inl (ka0_5_11, 9, .inl (j55a0_5_11_a))), (a0_3, .inl (ka0_3, 900, .inl (fa0_3))), (a0_4, .inl (ka0_4, 12, .inr (.inl (j55a0_4_a)))), (a0_5_14_2, .inl (ka0_5_14_2, 3, .inl (j55a0_5_14_2_a))), (a0_5_14_3, .inl (ka0_5_14_3, 3, .inl (j55a0_5_14_3_a))), (a0_5_13, .inl (ka0_5_13, 6, .inl (j55a0_5_13_a))), (a0_5_12, .inl (ka0_5_12, 6, .inl (j55a0_5_12_a)))] H → va_D A [(a0, .inr (3, [.int 0, .int j55a0_1, .int j55a0_2, .ref a0_3, .ref a0_4, .ref a0_5, .int j55a0_6, .int x6, .int j55a0_8, .int j55a0_9, .int j55a0_10, .long j55a0_11, .int j55a0_12, .int j55a0_13])), (a0_5, .inr (0, [.int j55a0_5_0, .int j55a0_5_1, .int j55a0_5_2, .int j55a0_5_3, .int j55a0_5_4, .int j55a0_5_5, .int j55a0_5_6, .int j55a0_5_7, .int j55a0_5_8, .int j55a0_5_9, .ref a0_5_10, .ref a0_5_11, .ref a0_5_12, .ref a0_5_13, .ref a0_5_14])), (a0_5_14, .inr (6, [.int j55a0_5_14_0, a0_5_14g_1, .ref a0_5_14_2, .ref a0_5_14_3])), (a0_5_10, .inl (ka0_5_10, 9, .inl (j55a0_5_10_a))), (a0_5_11, .inl (ka0_5_11, 9, .inl (j55a0_5_11_a))), (a0_3, .inl (ka0_3, 900, .inl (fa0_3))), (a0_4, .inl (ka0_4, 12, .inr (.inl (j55a0_4_a)))), (a0_5_14_2, .inl (ka0_5_14_2, 3, .inl (j55a0_5_14_2_a))), (a0_5_14_3, .inl (ka0_5_14_3, 3, .inl (j55a0_5_14_3_a))), (a0_5_13, .inl (ka0_5_13, 6, .inl (j55a0_5_13_a))), (a0_5_12, .inl (ka0_5_12, 6, .inl (j55a0_5_12_a)))] → va_S A s.heap H locs → lv_has ls 4 [(0, .ref a0), (2, .int j55l2), (3, .int j55l3)] → K H locs (F0 m 55 ls []) := by
      intro n
      induction n with
      | zero =>
        intro j55l3 j55l2 j55a0_1 j55a0_2 j55a0_6 j55a0_8 j55a0_9 j55a0_10 j55a0_11 j55a0_12 j55a0_13 j55a0_5_0 j55a0_5_1 j55a0_5_2 j55a0_5_3 j55a0_5_4 j55a0_5_5 j55a0_5_6 j55a0_5_7 j55a0_5_8 j55a0_5_9 j55a0_5_14_0 j55a0_5_10_a j55a0_5_11_a j55a0_4_a j55a0_5_14_2_a j55a0_5_14_3_a j55a0_5_13_a j55a0_5_12_a H locs ls hm bj55l3_l bj55l3_u bj55l2_l bj55l2_u bj55a0_6_l bj55a0_6_u bj55a0_8_l bj55a0_8_u bj55a0_9_l bj55a0_9_u bj55a0_10_l bj55a0_10_u bj55a0_5_0_l bj55a0_5_0_u bj55a0_5_4_l bj55a0_5_4_u bj55a0_5_5_l bj55a0_5_5_u bj55a0_5_6_l bj55a0_5_6_u bj55a0_5_7_l bj55a0_5_7_u bj55a0_5_9_l bj55a0_5_9_u bj55a0_5_14_0_l bj55a0_5_14_0_u bj55a0_5_14_2_a bj55a0_5_14_3_a bj55a0_5_13_a hF0 hP hD hS hl
        first | exact zg_0 hm bj55l3_u (by decide) | (have h8 := ai_min j55l3; have h9 := ai_max j55l3; exact absurd hm (by omega))
      | succ n ih55 =>
        intro j55l3 j55l2 j55a0_1 j55a0_2 j55a0_6 j55a0_8 j55a0_9 j55a0_10 j55a0_11 j55a0_12 j55a0_13 j55a0_5_0 j55a0_5_1 j55a0_5_2 j55a0_5_3 j55a0_5_4 j55a0_5_5 j55a0_5_6 j55a0_5_7 j55a0_5_8 j55a0_5_9 j55a0_5_14_0 j55a0_5_10_a j55a0_5_11_a j55a0_4_a j55a0_5_14_2_a j55a0_5_14_3_a j55a0_5_13_a j55a0_5_12_a H locs ls hm bj55l3_l bj55l3_u bj55l2_l bj55l2_u bj55a0_6_l bj55a0_6_u bj55a0_8_l bj55a0_8_u bj55a0_9_l bj55a0_9_u bj55a0_10_l bj55a0_10_u bj55a0_5_0_l bj55a0_5_0_u bj55a0_5_4_l bj55a0_5_4_u bj55a0_5_5_l bj55a0_5_5_u bj55a0_5_6_l bj55a0_5_6_u bj55a0_5_7_l bj55a0_5_7_u bj55a0_5_9_l bj55a0_5_9_u bj55a0_5_14_0_l bj55a0_5_14_0_u bj55a0_5_14_2_a bj55a0_5_14_3_a bj55a0_5_13_a hF0 hP hD hS hl
        refine (hK0 _ _ _).mpr ?_
        have hm55 := hm
        obtain ⟨SX55, hSX55⟩ : ∃ q9, Sf_X3_read_55_2 (fl_A fa0_3) x6.toInt j55l3.toInt j55l2.toInt j55a0_1.toInt j55a0_2.toInt j55a0_6.toInt j55a0_8.toInt j55a0_9.toInt j55a0_10.toInt j55a0_11.toInt j55a0_12.toInt j55a0_13.toInt j55a0_5_0.toInt j55a0_5_1.toInt j55a0_5_2.toInt j55a0_5_3.toInt j55a0_5_4.toInt j55a0_5_5.toInt j55a0_5_6.toInt j55a0_5_7.toInt j55a0_5_8.toInt j55a0_5_9.toInt j55a0_5_14_0.toInt (fl_A j55a0_5_10_a) (fl_A j55a0_5_11_a) (fl_L j55a0_4_a) (fl_A j55a0_5_14_2_a) (fl_A j55a0_5_14_3_a) (fl_A j55a0_5_13_a) (fl_A j55a0_5_12_a) = q9 := ⟨_, rfl⟩
        have hF1 := hSX55.symm.trans (Sf_X3_read_55_2.eq_1 (fl_A fa0_3) x6.toInt j55l3.toInt j55l2.toInt j55a0_1.toInt j55a0_2.toInt j55a0_6.toInt j55a0_8.toInt j55a0_9.toInt j55a0_10.toInt j55a0_11.toInt j55a0_12.toInt j55a0_13.toInt j55a0_5_0.toInt j55a0_5_1.toInt j55a0_5_2.toInt j55a0_5_3.toInt j55a0_5_4.toInt j55a0_5_5.toInt j55a0_5_6.toInt j55a0_5_7.toInt j55a0_5_8.toInt j55a0_5_9.toInt j55a0_5_14_0.toInt (fl_A j55a0_5_10_a) (fl_A j55a0_5_11_a) (fl_L j55a0_4_a) (fl_A j55a0_5_14_2_a) (fl_A j55a0_5_14_3_a) (fl_A j55a0_5_13_a) (fl_A j55a0_5_12_a))
        refine lv_iload_n hx hb dX3_read_55 rfl (lv_at hl 1 rfl) ?_
        have J89 : ∀ (H : Heap) (locs : List Loc) (ls : Array Slot), (FX = Gf_X3_read_89_2 x6.toInt j55l2.toInt j55a0_1.toInt j55a0_2.toInt j55a0_6.toInt j55a0_8.toInt j55a0_9.toInt j55a0_10.toInt j55a0_11.toInt j55a0_12.toInt j55a0_13.toInt j55a0_5_0.toInt j55a0_5_1.toInt j55a0_5_2.toInt j55a0_5_3.toInt j55a0_5_4.toInt j55a0_5_5.toInt j55a0_5_6.toInt j55a0_5_7.toInt j55a0_5_8.toInt j55a0_5_9.toInt j55a0_5_14_0.toInt (fl_A j55a0_5_10_a) (fl_A j55a0_5_11_a) (fl_L j55a0_4_a) (fl_A j55a0_5_14_2_a) (fl_A j55a0_5_14_3_a) (fl_A j55a0_5_13_a) (fl_A j55a0_5_12_a)) → va_P (dC, dI) vwCl [(a0, .inr (3, [.int 0, .int j55a0_1, .int j55a0_2, .ref a0_3, .ref a0_4, .ref a0_5, .int j55a0_6, .int x6, .int j55a0_8, .int j55a0_9, .int j55a0_10, .long j55a0_11, .int j55a0_12, .int j55a0_13])), (a0_5, .inr (0, [.int j55a0_5_0, .int j55a0_5_1, .int j55a0_5_2, .int j55a0_5_3, .int j55a0_5_4, .int j55a0_5_5, .int j55a0_5_6, .int j55a0_5_7, .int j55a0_5_8, .int j55a0_5_9, .ref a0_5_10, .ref a0_5_11, .ref a0_5_12, .ref a0_5_13, .ref a0_5_14])), (a0_5_14, .inr (6, [.int j55a0_5_14_0, a0_5_14g_1, .ref a0_5_14_2, .ref a0_5_14_3])), (a0_5_10, .inl (ka0_5_10, 9, .inl (j55a0_5_10_a))), (a0_5_11, .inl (ka0_5_11, 9, .inl (j55a0_5_11_a))), (a0_3, .inl (ka0_3, 900, .inl (fa0_3))), (a0_4, .inl (ka0_4, 12, .inr (.inl (j55a0_4_a)))), (a0_5_14_2, .inl (ka0_5_14_2, 3, .inl (j55a0_5_14_2_a))), (a0_5_14_3, .inl (ka0_5_14_3, 3, .inl (j55a0_5_14_3_a))), (a0_5_13, .inl (ka0_5_13, 6, .inl (j55a0_5_13_a))), (a0_5_12, .inl (ka0_5_12, 6, .inl (j55a0_5_12_a)))] H → va_D A [(a0, .inr (3, [.int 0, .int j55a0_1, .int j55a0_2, .ref a0_3, .ref a0_4, .ref a0_5, .int j55a0_6, .int x6, .int j55a0_8, .int j55a0_9, .int j55a0_10, .long j55a0_11, .int j55a0_12, .int j55a0_13])), (a0_5, .inr (0, [.int j55a0_5_0, .int j55a0_5_1, .int j55a0_5_2, .int j55a0_5_3, .int j55a0_5_4, .int j55a0_5_5, .int j55a0_5_6, .int j55a0_5_7, .int j55a0_5_8, .int j55a0_5_9, .ref a0_5_10, .ref a0_5_11, .ref a0_5_12, .ref a0_5_13, .ref a0_5_14])), (a0_5_14, .inr (6, [.int j55a0_5_14_0, a0_5_14g_1, .ref a0_5_14_2, .ref a0_5_14_3])), (a0_5_10, .inl (ka0_5_10, 9, .inl (j55a0_5_10_a))), (a0_5_11, .inl (ka0_5_11, 9, .inl (j55a0_5_11_a))), (a0_3, .inl (ka0_3, 900, .inl (fa0_3))), (a0_4, .inl (ka0_4, 12, .inr (.inl (j55a0_4_a)))), (a0_5_14_2, .inl (ka0_5_14_2, 3, .inl (j55a0_5_14_2_a))), (a0_5_14_3, .inl (ka0_5_14_3, 3, .inl (j55a0_5_14_3_a))), (a0_5_13, .inl (ka0_5_13, 6, .inl (j55a0_5_13_a))), (a0_5_12, .inl (ka0_5_12, 6, .inl (j55a0_5_12_a)))] → va_S A s.heap H locs → lv_has ls 4 [(0, .ref a0), (2, .int j55l2)] → K H locs (F0 m 89 ls []) := by
          intro  H locs ls  hF0 hP hD hS hl
          refine (hK0 _ _ _).mpr ?_
          have hF0 := hF0.trans (Gf_X3_read_89_2.eq_1 x6.toInt j55l2.toInt j55a0_1.toInt j55a0_2.toInt j55a0_6.toInt j55a0_8.toInt j55a0_9.toInt j55a0_10.toInt j55a0_11.toInt j55a0_12.toInt j55a0_13.toInt j55a0_5_0.toInt j55a0_5_1.toInt j55a0_5_2.toInt j55a0_5_3.toInt j55a0_5_4.toInt j55a0_5_5.toInt j55a0_5_6.toInt j55a0_5_7.toInt j55a0_5_8.toInt j55a0_5_9.toInt j55a0_5_14_0.toInt (fl_A j55a0_5_10_a) (fl_A j55a0_5_11_a) (fl_L j55a0_4_a) (fl_A j55a0_5_14_2_a) (fl_A j55a0_5_14_3_a) (fl_A j55a0_5_13_a) (fl_A j55a0_5_12_a))
          refine lv_iload_n hx hb dX3_read_89 rfl (lv_at hl 1 rfl) ?_
          refine lv_if_ne (tgt := 95) hx hb dX3_read_90 (by decide) (fun c90 => ?_) (fun c90 => ?_)
          · have gc90 := ai_ne c90
            have l90t_j55l2 : (1 : Int) ≤ j55l2.toInt := (by first | exact zg_l bj55l2_l gc90 (by decide) (by decide) | (have h1 := bj55l2_l; have h2 : (0 : Int32).toInt = 0 := (by decide); rw [h2] at gc90; omega))
            have hF0 := hF0.trans (if_neg (show ¬ (j55l2.toInt = 0) from  gc90))
            refine lv_aload_n hx hb dX3_read_95 rfl (lv_at hl 0 rfl) ?_
            refine va_get (D := (dC, dI)) (ci := 3) (v := .int j55a0_10) (C := RX3) (T := TX3) (N := 14) hx hb hts zi_X3_read_3 hown hK hP 0 rfl rfl 10 (by decide) (hts (.fieldLink RX3 61 "WaxTurns$Reade\x72" "token" "I") (zm_X3_read_r1 (List.mem_of_getElem? (i := 11) rfl))) (fun _ h9 => h9) rfl dX3_read_96 ?_
            refine lv_if_eq (tgt := 108) hx hb dX3_read_99 (by decide) (fun c99 => ?_) (fun c99 => ?_)
            · have gc99 := ai_eq c99
              have u99t_j55a0_10 : j55a0_10.toInt ≤ (0 : Int) := Int.le_trans (Int.le_of_eq gc99) zq6
              have l99t_j55a0_10 : (0 : Int) ≤ j55a0_10.toInt := bj55a0_10_l
              have hF0 := hF0.trans (if_pos (show j55a0_10.toInt = 0 from gc99))
              refine lv_aload_n hx hb dX3_read_108 rfl (lv_at hl 0 rfl) ?_
              refine va_get (D := (dC, dI)) (ci := 3) (v := .ref a0_5) (C := RX3) (T := TX3) (N := 14) hx hb hts zi_X3_read_3 hown hK hP 0 rfl rfl 5 (by decide) (hts (.fieldLink RX3 22 "WaxTurns$Reade\x72" "draft" "LWaxTurns$Hall;") (zm_X3_read_r1 (List.mem_of_getElem? (i := 6) rfl))) (fun _ h9 => h9) rfl dX3_read_109 ?_
              refine va_get (D := (dC, dI)) (ci := 0) (v := .int j55a0_5_4) (C := RX0) (T := TX0) (N := 15) hx hb hts zi_X3_read_0 hown hK hP 1 rfl rfl 4 (by decide) (hts (.fieldLink RX3 68 "WaxTurns$Hall" "lawTold" "Z") (zm_X3_read_r1 (List.mem_of_getElem? (i := 12) rfl))) (fun _ h9 => h9) rfl dX3_read_112 ?_
              refine lv_if_ne (tgt := 127) hx hb dX3_read_115 (by decide) (fun c115 => ?_) (fun c115 => ?_)
              · have gc115 := ai_ne c115
                have l115t_j55a0_5_4 : (1 : Int) ≤ j55a0_5_4.toInt := (by first | exact zg_l bj55a0_5_4_l gc115 (by decide) (by decide) | (have h1 := bj55a0_5_4_l; have h2 : (0 : Int32).toInt = 0 := (by decide); rw [h2] at gc115; omega))
                have hF0 := hF0.trans (if_neg (show ¬ (j55a0_5_4.toInt = 0) from  gc115))
                refine lv_iconst (v := 1) hx hb dX3_read_127 zk_iconst_1 ?_
                refine lv_goto (tgt := 132) hx hb dX3_read_128 (by decide) ?_
                have hFe : FX = (1, j55a0_1.toInt, j55a0_2.toInt, j55a0_6.toInt, x6.toInt, j55a0_8.toInt, j55a0_9.toInt, j55a0_10.toInt, j55a0_11.toInt, j55a0_12.toInt, j55a0_13.toInt, j55a0_5_0.toInt, j55a0_5_1.toInt, j55a0_5_2.toInt, j55a0_5_3.toInt, j55a0_5_4.toInt, j55a0_5_5.toInt, j55a0_5_6.toInt, j55a0_5_7.toInt, j55a0_5_8.toInt, j55a0_5_9.toInt, j55a0_5_14_0.toInt, (fl_A j55a0_5_10_a), (fl_A j55a0_5_11_a), (fl_L j55a0_4_a), (fl_A j55a0_5_14_2_a), (fl_A j55a0_5_14_3_a), (fl_A j55a0_5_13_a), (fl_A j55a0_5_12_a)) := hF0
                exact W.zret (v := 1) hx hb hr rfl (fun t ht hW => ⟨⟨1, (), rfl, ⟨(Or.inl (rfl)), (congrArg Prod.fst hFe).symm⟩, j55a0_1, j55a0_2, j55a0_6, x6, j55a0_8, j55a0_9, j55a0_10, j55a0_11, j55a0_12, j55a0_13, j55a0_5_0, j55a0_5_1, j55a0_5_2, j55a0_5_3, j55a0_5_4, j55a0_5_5, j55a0_5_6, j55a0_5_7, j55a0_5_8, j55a0_5_9, j55a0_5_14_0, j55a0_5_10_a, j55a0_5_11_a, j55a0_4_a, j55a0_5_14_2_a, j55a0_5_14_3_a, j55a0_5_13_a, j55a0_5_12_a, ⟨bj55a0_6_l, bj55a0_6_u⟩, ⟨bx6.1, bx6.2⟩, ⟨bj55a0_8_l, bj55a0_8_u⟩, ⟨bj55a0_9_l, bj55a0_9_u⟩, ⟨l99t_j55a0_10, Int.le_trans u99t_j55a0_10 (by decide)⟩, ⟨bj55a0_5_0_l, bj55a0_5_0_u⟩, ⟨Int.le_trans (by decide) l115t_j55a0_5_4, bj55a0_5_4_u⟩, ⟨bj55a0_5_5_l, bj55a0_5_5_u⟩, ⟨bj55a0_5_6_l, bj55a0_5_6_u⟩, ⟨bj55a0_5_7_l, bj55a0_5_7_u⟩, ⟨bj55a0_5_9_l, bj55a0_5_9_u⟩, ⟨bj55a0_5_14_0_l, bj55a0_5_14_0_u⟩, bj55a0_5_14_2_a, bj55a0_5_14_3_a, bj55a0_5_13_a, (congrArg Prod.snd hFe), by rw [ht]; exact hP, va_K.moved hW.alike hK, hD⟩, hS.F ht⟩) hS.2.2 dX3_read_132
              · have gc115 := ai_eq c115
                have u115f_j55a0_5_4 : j55a0_5_4.toInt ≤ (0 : Int) := Int.le_trans (Int.le_of_eq gc115) zq6
                have l115f_j55a0_5_4 : (0 : Int) ≤ j55a0_5_4.toInt := bj55a0_5_4_l
                have hF0 := hF0.trans (if_pos (show j55a0_5_4.toInt = 0 from gc115))
                refine lv_aload_n hx hb dX3_read_118 rfl (lv_at hl 0 rfl) ?_
                refine lv_bipush (v := 6) hx hb dX3_read_119 zk_bipush_6 ?_
                refine va_calli (va_runV (As := [.int 6]) (rest := []) ⟨hx, hb, hml, hown, hts⟩ (f_X3_fails l dC dI H.size a0 6 (.int 0) (.ref a0_3) (.ref a0_4) (.ref a0_5) (.int j55a0_6) (.int x6) (.int j55a0_9) (.int j55a0_10) (.long j55a0_11) (.int j55a0_12) (.int j55a0_13) j55a0_1 j55a0_2 j55a0_8 bj55a0_8_l bj55a0_8_u) (cwV 1 hts gX3_read_X3_fails rfl rfl rfl zd_X3_fails ⟨Nat.le_of_ble_eq_true rfl, Nat.le_of_ble_eq_true rfl⟩) ⟨ax_blind (fun _ _ _ _ _ => trivial), zr_3 (zp_K hK) (zp_P1 hP) (q0 := 0) rfl, ax_pre (zp_P1 hP) (zp_K hK) (zp_D1 hD) (fun _ _ => trivial)⟩ rfl rfl hl.1 rfl (lv_room (Nat.le_of_ble_eq_true rfl)) dX3_read_121 ⟨Nat.le_of_ble_eq_true rfl, Nat.le_of_ble_eq_true rfl⟩) hS (fun q _ h => zp_F1 hD hS hA q h) (zp_F1 hD hS hA) (fun r121 u t H locs ht hvm hw => zx_2 (fun v121na0_1 v121na0_2 => zy_1 (fun hraw121_0 hB hz1 hk1 hS1 => zo1 hB ht hP hD hk1 (zp_F1 hD hS hA) hS1 (fun hP hK1 hD hS => ?_))))
                obtain ⟨hw, hfr121⟩ := hw
                rw [show (6 : Int32).toInt = 6 from by decide] at hfr121 hraw121_0
                have hc121 : Ff_X3_fails 6 j55a0_8.toInt = (r121.toInt, v121na0_1.toInt, v121na0_2.toInt) := Prod.ext hfr121.symm hraw121_0
                have hF0 := hF0.trans (fl_c3_eq hc121)
                have hw : r121 = 0 := hw
                have hw := hw.symm
                subst hw
                refine lv_if_eq (tgt := 131) hx hb dX3_read_124 (by decide) (fun _ => ?_) (fun c124 => absurd (by decide +kernel) c124)
                refine lv_iconst (v := 0) hx hb dX3_read_131 zk_iconst_0 ?_
                have hFe : FX = (0, v121na0_1.toInt, v121na0_2.toInt, j55a0_6.toInt, x6.toInt, j55a0_8.toInt, j55a0_9.toInt, j55a0_10.toInt, j55a0_11.toInt, j55a0_12.toInt, j55a0_13.toInt, j55a0_5_0.toInt, j55a0_5_1.toInt, j55a0_5_2.toInt, j55a0_5_3.toInt, j55a0_5_4.toInt, j55a0_5_5.toInt, j55a0_5_6.toInt, j55a0_5_7.toInt, j55a0_5_8.toInt, j55a0_5_9.toInt, j55a0_5_14_0.toInt, (fl_A j55a0_5_10_a), (fl_A j55a0_5_11_a), (fl_L j55a0_4_a), (fl_A j55a0_5_14_2_a), (fl_A j55a0_5_14_3_a), (fl_A j55a0_5_13_a), (fl_A j55a0_5_12_a)) := hF0
                exact W.zret (v := 0) hx hb hr rfl (fun t ht hW => ⟨⟨0, (), rfl, ⟨(Or.inr (rfl)), (congrArg Prod.fst hFe).symm⟩, v121na0_1, v121na0_2, j55a0_6, x6, j55a0_8, j55a0_9, j55a0_10, j55a0_11, j55a0_12, j55a0_13, j55a0_5_0, j55a0_5_1, j55a0_5_2, j55a0_5_3, j55a0_5_4, j55a0_5_5, j55a0_5_6, j55a0_5_7, j55a0_5_8, j55a0_5_9, j55a0_5_14_0, j55a0_5_10_a, j55a0_5_11_a, j55a0_4_a, j55a0_5_14_2_a, j55a0_5_14_3_a, j55a0_5_13_a, j55a0_5_12_a, ⟨bj55a0_6_l, bj55a0_6_u⟩, ⟨bx6.1, bx6.2⟩, ⟨bj55a0_8_l, bj55a0_8_u⟩, ⟨bj55a0_9_l, bj55a0_9_u⟩, ⟨l99t_j55a0_10, Int.le_trans u99t_j55a0_10 (by decide)⟩, ⟨bj55a0_5_0_l, bj55a0_5_0_u⟩, ⟨l115f_j55a0_5_4, Int.le_trans u115f_j55a0_5_4 (by decide)⟩, ⟨bj55a0_5_5_l, bj55a0_5_5_u⟩, ⟨bj55a0_5_6_l, bj55a0_5_6_u⟩, ⟨bj55a0_5_7_l, bj55a0_5_7_u⟩, ⟨bj55a0_5_9_l, bj55a0_5_9_u⟩, ⟨bj55a0_5_14_0_l, bj55a0_5_14_0_u⟩, bj55a0_5_14_2_a, bj55a0_5_14_3_a, bj55a0_5_13_a, (congrArg Prod.snd hFe), by rw [ht]; exact hP, va_K.moved hW.alike hK, hD⟩, hS.F ht⟩) hS.2.2 dX3_read_132
            · have gc99 := ai_ne c99
              have l99f_j55a0_10 : (1 : Int) ≤ j55a0_10.toInt := (by first | exact zg_l bj55a0_10_l gc99 (by decide) (by decide) | (have h1 := bj55a0_10_l; have h2 : (0 : Int32).toInt = 0 := (by decide); rw [h2] at gc99; omega))
              have hF0 := hF0.trans (if_neg (show ¬ (j55a0_10.toInt = 0) from  gc99))
              refine lv_aload_n hx hb dX3_read_102 rfl (lv_at hl 0 rfl) ?_
              refine lv_iconst (v := 1) hx hb dX3_read_103 zk_iconst_1 ?_
              refine va_calli (va_runV (As := [.int 1]) (rest := []) ⟨hx, hb, hml, hown, hts⟩ (f_X3_fails l dC dI H.size a0 1 (.int 0) (.ref a0_3) (.ref a0_4) (.ref a0_5) (.int j55a0_6) (.int x6) (.int j55a0_9) (.int j55a0_10) (.long j55a0_11) (.int j55a0_12) (.int j55a0_13) j55a0_1 j55a0_2 j55a0_8 bj55a0_8_l bj55a0_8_u) (cwV 1 hts gX3_read_X3_fails rfl rfl rfl zd_X3_fails ⟨Nat.le_of_ble_eq_true rfl, Nat.le_of_ble_eq_true rfl⟩) ⟨ax_blind (fun _ _ _ _ _ => trivial), zr_3 (zp_K hK) (zp_P1 hP) (q0 := 0) rfl, ax_pre (zp_P1 hP) (zp_K hK) (zp_D1 hD) (fun _ _ => trivial)⟩ rfl rfl hl.1 rfl (lv_room (Nat.le_of_ble_eq_true rfl)) dX3_read_104 ⟨Nat.le_of_ble_eq_true rfl, Nat.le_of_ble_eq_true rfl⟩) hS (fun q _ h => zp_F1 hD hS hA q h) (zp_F1 hD hS hA) (fun r104 u t H locs ht hvm hw => zx_2 (fun v104na0_1 v104na0_2 => zy_1 (fun hraw104_0 hB hz1 hk1 hS1 => zo1 hB ht hP hD hk1 (zp_F1 hD hS hA) hS1 (fun hP hK1 hD hS => ?_))))
              obtain ⟨hw, hfr104⟩ := hw
              rw [show (1 : Int32).toInt = 1 from by decide] at hfr104 hraw104_0
              have hc104 : Ff_X3_fails 1 j55a0_8.toInt = (r104.toInt, v104na0_1.toInt, v104na0_2.toInt) := Prod.ext hfr104.symm hraw104_0
              have hF0 := hF0.trans (fl_c3_eq hc104)
              have hw : r104 = 0 := hw
              have hw := hw.symm
              subst hw
              have hFe : FX = (0, v104na0_1.toInt, v104na0_2.toInt, j55a0_6.toInt, x6.toInt, j55a0_8.toInt, j55a0_9.toInt, j55a0_10.toInt, j55a0_11.toInt, j55a0_12.toInt, j55a0_13.toInt, j55a0_5_0.toInt, j55a0_5_1.toInt, j55a0_5_2.toInt, j55a0_5_3.toInt, j55a0_5_4.toInt, j55a0_5_5.toInt, j55a0_5_6.toInt, j55a0_5_7.toInt, j55a0_5_8.toInt, j55a0_5_9.toInt, j55a0_5_14_0.toInt, (fl_A j55a0_5_10_a), (fl_A j55a0_5_11_a), (fl_L j55a0_4_a), (fl_A j55a0_5_14_2_a), (fl_A j55a0_5_14_3_a), (fl_A j55a0_5_13_a), (fl_A j55a0_5_12_a)) := hF0
              exact W.zret (v := 0) hx hb hr rfl (fun t ht hW => ⟨⟨0, (), rfl, ⟨(Or.inr (rfl)), (congrArg Prod.fst hFe).symm⟩, v104na0_1, v104na0_2, j55a0_6, x6, j55a0_8, j55a0_9, j55a0_10, j55a0_11, j55a0_12, j55a0_13, j55a0_5_0, j55a0_5_1, j55a0_5_2, j55a0_5_3, j55a0_5_4, j55a0_5_5, j55a0_5_6, j55a0_5_7, j55a0_5_8, j55a0_5_9, j55a0_5_14_0, j55a0_5_10_a, j55a0_5_11_a, j55a0_4_a, j55a0_5_14_2_a, j55a0_5_14_3_a, j55a0_5_13_a, j55a0_5_12_a, ⟨bj55a0_6_l, bj55a0_6_u⟩, ⟨bx6.1, bx6.2⟩, ⟨bj55a0_8_l, bj55a0_8_u⟩, ⟨bj55a0_9_l, bj55a0_9_u⟩, ⟨Int.le_trans (by decide) l99f_j55a0_10, bj55a0_10_u⟩, ⟨bj55a0_5_0_l, bj55a0_5_0_u⟩, ⟨bj55a0_5_4_l, bj55a0_5_4_u⟩, ⟨bj55a0_5_5_l, bj55a0_5_5_u⟩, ⟨bj55a0_5_6_l, bj55a0_5_6_u⟩, ⟨bj55a0_5_7_l, bj55a0_5_7_u⟩, ⟨bj55a0_5_9_l, bj55a0_5_9_u⟩, ⟨bj55a0_5_14_0_l, bj55a0_5_14_0_u⟩, bj55a0_5_14_2_a, bj55a0_5_14_3_a, bj55a0_5_13_a, (congrArg Prod.snd hFe), by rw [ht]; exact hP, va_K.moved hW.alike hK, hD⟩, hS.F ht⟩) hS.2.2 dX3_read_107
          · have gc90 := ai_eq c90
            have u90f_j55l2 : j55l2.toInt ≤ (0 : Int) := Int.le_trans (Int.le_of_eq gc90) zq6
            have l90f_j55l2 : (0 : Int) ≤ j55l2.toInt := bj55l2_l
            have hF0 := hF0.trans (if_pos (show j55l2.toInt = 0 from gc90))
            refine lv_iconst (v := 0) hx hb dX3_read_93 zk_iconst_0 ?_
            have hFe : FX = (0, j55a0_1.toInt, j55a0_2.toInt, j55a0_6.toInt, x6.toInt, j55a0_8.toInt, j55a0_9.toInt, j55a0_10.toInt, j55a0_11.toInt, j55a0_12.toInt, j55a0_13.toInt, j55a0_5_0.toInt, j55a0_5_1.toInt, j55a0_5_2.toInt, j55a0_5_3.toInt, j55a0_5_4.toInt, j55a0_5_5.toInt, j55a0_5_6.toInt, j55a0_5_7.toInt, j55a0_5_8.toInt, j55a0_5_9.toInt, j55a0_5_14_0.toInt, (fl_A j55a0_5_10_a), (fl_A j55a0_5_11_a), (fl_L j55a0_4_a), (fl_A j55a0_5_14_2_a), (fl_A j55a0_5_14_3_a), (fl_A j55a0_5_13_a), (fl_A j55a0_5_12_a)) := hF0
            exact W.zret (v := 0) hx hb hr rfl (fun t ht hW => ⟨⟨0, (), rfl, ⟨(Or.inr (rfl)), (congrArg Prod.fst hFe).symm⟩, j55a0_1, j55a0_2, j55a0_6, x6, j55a0_8, j55a0_9, j55a0_10, j55a0_11, j55a0_12, j55a0_13, j55a0_5_0, j55a0_5_1, j55a0_5_2, j55a0_5_3, j55a0_5_4, j55a0_5_5, j55a0_5_6, j55a0_5_7, j55a0_5_8, j55a0_5_9, j55a0_5_14_0, j55a0_5_10_a, j55a0_5_11_a, j55a0_4_a, j55a0_5_14_2_a, j55a0_5_14_3_a, j55a0_5_13_a, j55a0_5_12_a, ⟨bj55a0_6_l, bj55a0_6_u⟩, ⟨bx6.1, bx6.2⟩, ⟨bj55a0_8_l, bj55a0_8_u⟩, ⟨bj55a0_9_l, bj55a0_9_u⟩, ⟨bj55a0_10_l, bj55a0_10_u⟩, ⟨bj55a0_5_0_l, bj55a0_5_0_u⟩, ⟨bj55a0_5_4_l, bj55a0_5_4_u⟩, ⟨bj55a0_5_5_l, bj55a0_5_5_u⟩, ⟨bj55a0_5_6_l, bj55a0_5_6_u⟩, ⟨bj55a0_5_7_l, bj55a0_5_7_u⟩, ⟨bj55a0_5_9_l, bj55a0_5_9_u⟩, ⟨bj55a0_5_14_0_l, bj55a0_5_14_0_u⟩, bj55a0_5_14_2_a, bj55a0_5_14_3_a, bj55a0_5_13_a, (congrArg Prod.snd hFe), by rw [ht]; exact hP, va_K.moved hW.alike hK, hD⟩, hS.F ht⟩) hS.2.2 dX3_read_94
        refine lv_if_eq (tgt := 89) hx hb dX3_read_56 (by decide) (fun c56 => ?_) (fun c56 => ?_)
        · have gc56 := ai_eq c56
          have u56t_j55l2 : j55l2.toInt ≤ (0 : Int) := Int.le_trans (Int.le_of_eq gc56) zq6
          have l56t_j55l2 : (0 : Int) ≤ j55l2.toInt := bj55l2_l
          have hF1 := hF1.trans (if_pos (show j55l2.toInt = 0 from gc56))
          have hF0 := hF0.trans (fl_wh_r (hSX55.trans hF1))
          exact (hK0 _ _ _).mp (J89  _ _ _   hF0 hP hD hS (lv_sub hl [0, 1] rfl))
        · have gc56 := ai_ne c56
          have l56f_j55l2 : (1 : Int) ≤ j55l2.toInt := (by first | exact zg_l bj55l2_l gc56 (by decide) (by decide) | (have h1 := bj55l2_l; have h2 : (0 : Int32).toInt = 0 := (by decide); rw [h2] at gc56; omega))
          have hF1 := hF1.trans (if_neg (show ¬ (j55l2.toInt = 0) from  gc56))
          refine lv_aload_n hx hb dX3_read_59 rfl (lv_at hl 0 rfl) ?_
          refine va_get (D := (dC, dI)) (ci := 3) (v := .int j55a0_10) (C := RX3) (T := TX3) (N := 14) hx hb hts zi_X3_read_3 hown hK hP 0 rfl rfl 10 (by decide) (hts (.fieldLink RX3 61 "WaxTurns$Reade\x72" "token" "I") (zm_X3_read_r1 (List.mem_of_getElem? (i := 11) rfl))) (fun _ h9 => h9) rfl dX3_read_60 ?_
          refine lv_iconst (v := 3) hx hb dX3_read_63 zk_iconst_3 ?_
          refine lv_icmp_ne (tgt := 89) hx hb dX3_read_64 (by decide) (fun c64 => ?_) (fun c64 => ?_)
          · have gc64 := ai_ne c64
            have hF1 := hF1.trans (if_neg (show ¬ (j55a0_10.toInt = 3) from  gc64))
            have hF0 := hF0.trans (fl_wh_r (hSX55.trans hF1))
            exact (hK0 _ _ _).mp (J89  _ _ _   hF0 hP hD hS (lv_sub hl [0, 1] rfl))
          · have gc64 := ai_eq c64
            have u64f_j55a0_10 : j55a0_10.toInt ≤ (3 : Int) := Int.le_trans (Int.le_of_eq gc64) zq9
            have l64f_j55a0_10 : (3 : Int) ≤ j55a0_10.toInt := Int.le_trans zq8 (Int.le_of_eq gc64.symm)
            have hF1 := hF1.trans (if_pos (show j55a0_10.toInt = 3 from gc64))
            refine lv_iload_n hx hb dX3_read_67 rfl (lv_at hl 2 rfl) ?_
            refine lv_sipush (v := 900) hx hb dX3_read_68 zk_sipush_900 ?_
            refine lv_icmp_ge (tgt := 89) hx hb dX3_read_71 (by decide) (fun c71 => ?_) (fun c71 => ?_)
            · have gc71 := ai_le c71
              have l71t_j55l3 : (900 : Int) ≤ j55l3.toInt := Int.le_trans zq37 gc71
              have hF1 := hF1.trans (if_pos (show 900 ≤ j55l3.toInt from gc71))
              have hF0 := hF0.trans (fl_wh_r (hSX55.trans hF1))
              exact (hK0 _ _ _).mp (J89  _ _ _   hF0 hP hD hS (lv_sub hl [0, 1] rfl))
            · have gc71 := ai_nle c71
              have u71f_j55l3 : j55l3.toInt ≤ (899 : Int) := ai_lthi gc71 zq39
              have hF1 := hF1.trans (if_neg (show ¬ (900 ≤ j55l3.toInt) from Int.not_le.mpr gc71))
              refine lv_aload_n hx hb dX3_read_74 rfl (lv_at hl 0 rfl) ?_
              refine zc_cutc (wc := [(a0, .inr (3, [.int 0, .int j55a0_1, .int j55a0_2, .ref a0_3, .ref a0_4, .ref a0_5, .int j55a0_6, .int x6, .int j55a0_8, .int j55a0_9, .int j55a0_10, .long j55a0_11, .int j55a0_12, .int j55a0_13])), (a0_3, .inl (ka0_3, 900, .inl (fa0_3)))]) hP hD hS hA [0, 5] (by decide +kernel) rfl (fun hPc hDc hFc hCc => ?_)
              have hKc := hK.sub (tys' := [(ka0_3, .byte)]) [2] rfl
              refine va_callv (va_runV (As := []) (rest := []) ⟨hx, hb, hml, hown, hts⟩ (f_X3_advance l dC dI H.size a0 (.int 0) (.int j55a0_1) (.int j55a0_2) (.ref a0_4) (.ref a0_5) (.int j55a0_6) (.int j55a0_13) a0_3 x6 j55a0_8 j55a0_9 j55a0_10 j55a0_11 j55a0_12 ka0_3 fa0_3 bx6.1 bx6.2 bj55a0_8_l bj55a0_8_u bj55a0_9_l bj55a0_9_u (Int.le_trans zq11 l64f_j55a0_10) (Int.le_trans u64f_j55a0_10 zq230)) (cwV 0 hts gX3_read_X3_advance rfl rfl rfl zd_X3_advance ⟨Nat.le_of_ble_eq_true rfl, Nat.le_of_ble_eq_true rfl⟩) ⟨ax_blind (fun _ _ _ _ _ => trivial), zr_3 hKc hPc (q0 := 0) rfl, ax_pre hPc hKc hDc (fun _ _ => trivial)⟩ rfl rfl hl.1 rfl (lv_room (Nat.le_of_ble_eq_true rfl)) dX3_read_75 ⟨Nat.le_of_ble_eq_true rfl, Nat.le_of_ble_eq_true rfl⟩) hS (fun q _ h => hFc q h) hFc (fun u t H locs ht hvm hw => zx_5 (fun v75na0_8 v75na0_9 v75na0_10 v75na0_11 v75na0_12 => zy_4 (fun bv75na0_8 bv75na0_9 bv75na0_10 hraw75_0 hB hz1 hk1 hS1 => zo hB ht hS1 (fun hP1 hK1 hD1 hS => ?_))))
              refine zc_backc (w := [(a0, .inr (3, [.int 0, .int j55a0_1, .int j55a0_2, .ref a0_3, .ref a0_4, .ref a0_5, .int j55a0_6, .int x6, .int v75na0_8, .int v75na0_9, .int v75na0_10, .long v75na0_11, .int v75na0_12, .int j55a0_13])), (a0_5, .inr (0, [.int j55a0_5_0, .int j55a0_5_1, .int j55a0_5_2, .int j55a0_5_3, .int j55a0_5_4, .int j55a0_5_5, .int j55a0_5_6, .int j55a0_5_7, .int j55a0_5_8, .int j55a0_5_9, .ref a0_5_10, .ref a0_5_11, .ref a0_5_12, .ref a0_5_13, .ref a0_5_14])), (a0_5_14, .inr (6, [.int j55a0_5_14_0, a0_5_14g_1, .ref a0_5_14_2, .ref a0_5_14_3])), (a0_5_10, .inl (ka0_5_10, 9, .inl (j55a0_5_10_a))), (a0_5_11, .inl (ka0_5_11, 9, .inl (j55a0_5_11_a))), (a0_3, .inl (ka0_3, 900, .inl (fa0_3))), (a0_4, .inl (ka0_4, 12, .inr (.inl (j55a0_4_a)))), (a0_5_14_2, .inl (ka0_5_14_2, 3, .inl (j55a0_5_14_2_a))), (a0_5_14_3, .inl (ka0_5_14_3, 3, .inl (j55a0_5_14_3_a))), (a0_5_13, .inl (ka0_5_13, 6, .inl (j55a0_5_13_a))), (a0_5_12, .inl (ka0_5_12, 6, .inl (j55a0_5_12_a)))]) hP hD hCc hk1 hFc hP1 hD1 [.inr 0, .inl 1, .inl 2, .inl 3, .inl 4, .inr 1, .inl 6, .inl 7, .inl 8, .inl 9, .inl 10] (by decide +kernel) rfl (fun hP hD => ?_)
              have hc75 : Ff_X3_advance x6.toInt j55a0_9.toInt j55a0_11.toInt j55a0_12.toInt (fl_A fa0_3) = (v75na0_8.toInt, v75na0_9.toInt, v75na0_10.toInt, v75na0_11.toInt, v75na0_12.toInt) := hraw75_0
              have hF1 := hF1.trans (fl_c5_eq hc75)
              refine lv_aload_n hx hb dX3_read_78 rfl (lv_at hl 0 rfl) ?_
              refine zc_cutc (wc := [(a0, .inr (3, [.int 0, .int j55a0_1, .int j55a0_2, .ref a0_3, .ref a0_4, .ref a0_5, .int j55a0_6, .int x6, .int v75na0_8, .int v75na0_9, .int v75na0_10, .long v75na0_11, .int v75na0_12, .int j55a0_13])), (a0_5, .inr (0, [.int j55a0_5_0, .int j55a0_5_1, .int j55a0_5_2, .int j55a0_5_3, .int j55a0_5_4, .int j55a0_5_5, .int j55a0_5_6, .int j55a0_5_7, .int j55a0_5_8, .int j55a0_5_9, .ref a0_5_10, .ref a0_5_11, .ref a0_5_12, .ref a0_5_13, .ref a0_5_14])), (a0_3, .inl (ka0_3, 900, .inl (fa0_3))), (a0_4, .inl (ka0_4, 12, .inr (.inl (j55a0_4_a)))), (a0_5_10, .inl (ka0_5_10, 9, .inl (j55a0_5_10_a))), (a0_5_11, .inl (ka0_5_11, 9, .inl (j55a0_5_11_a))), (a0_5_14, .inr (6, [.int j55a0_5_14_0, a0_5_14g_1, .ref a0_5_14_2, .ref a0_5_14_3])), (a0_5_14_2, .inl (ka0_5_14_2, 3, .inl (j55a0_5_14_2_a))), (a0_5_14_3, .inl (ka0_5_14_3, 3, .inl (j55a0_5_14_3_a))), (a0_5_13, .inl (ka0_5_13, 6, .inl (j55a0_5_13_a))), (a0_5_12, .inl (ka0_5_12, 6, .inl (j55a0_5_12_a)))]) hP hD hS hA [0, 1, 5, 6, 3, 4, 2, 7, 8, 9, 10] (by decide +kernel) rfl (fun hPc hDc hFc hCc => ?_)
              have hKc := hK.sub (tys' := [(ka0_3, .byte), (ka0_4, .long), (ka0_5_10, .int), (ka0_5_11, .int), (ka0_5_14_2, .int), (ka0_5_14_3, .int), (ka0_5_13, .int), (ka0_5_12, .int)]) [2, 3, 0, 1, 4, 5, 6, 7] rfl
              refine va_calli (va_runV (As := []) (rest := []) ⟨hx, hb, hml, hown, hts⟩ (f_X3_readLine l dC dI H.size a0 (.int 0) j55a0_1 j55a0_2 a0_3 a0_4 a0_5 j55a0_6 x6 v75na0_8 v75na0_9 v75na0_10 v75na0_11 v75na0_12 j55a0_13 j55a0_5_0 j55a0_5_1 j55a0_5_2 j55a0_5_3 j55a0_5_4 j55a0_5_5 j55a0_5_6 j55a0_5_7 j55a0_5_8 j55a0_5_9 a0_5_10 a0_5_11 a0_5_12 a0_5_13 a0_5_14 ka0_3 fa0_3 ka0_4 j55a0_4_a ka0_5_10 j55a0_5_10_a ka0_5_11 j55a0_5_11_a j55a0_5_14_0 a0_5_14g_1 a0_5_14_2 a0_5_14_3 ka0_5_14_2 j55a0_5_14_2_a ka0_5_14_3 j55a0_5_14_3_a ka0_5_13 j55a0_5_13_a ka0_5_12 j55a0_5_12_a ad bj55a0_6_l bj55a0_6_u bx6.1 bx6.2 bv75na0_8.1 bv75na0_8.2 bv75na0_9.1 bv75na0_9.2 bv75na0_10.1 bv75na0_10.2 bj55a0_5_0_l bj55a0_5_0_u bj55a0_5_4_l bj55a0_5_4_u bj55a0_5_5_l bj55a0_5_5_u bj55a0_5_6_l bj55a0_5_6_u bj55a0_5_7_l bj55a0_5_7_u bj55a0_5_9_l bj55a0_5_9_u bj55a0_5_14_0_l bj55a0_5_14_0_u bj55a0_5_14_2_a bj55a0_5_14_3_a bj55a0_5_13_a) (cwV 0 hts gX3_read_X3_readLine rfl rfl rfl zd_X3_readLine ⟨Nat.le_of_ble_eq_true rfl, Nat.le_of_ble_eq_true rfl⟩) ⟨ax_blind (fun _ _ _ _ hq => ⟨sxc_T_same _ _ _ _ (hq.1), va_Nw.same rfl rfl (hq.2.1), va_Nw.same rfl rfl (hq.2.2)⟩), zr_3 hKc hPc (q0 := 0) rfl, ax_preE hPc hKc hDc (fun U hU hW => ⟨sxc_T_to hE0 hS.2.1 hFc hU hW, va_Nw.warmM hW hE1, va_Nw.warmM hW hE2⟩)⟩ rfl rfl hl.1 rfl (lv_room (Nat.le_of_ble_eq_true rfl)) dX3_read_79 ⟨Nat.le_of_ble_eq_true rfl, Nat.le_of_ble_eq_true rfl⟩) hS (fun q _ h => hFc q h) hFc (fun r79 u t H locs ht hvm hw => zx_27 (fun v79na0_1 v79na0_2 v79na0_6 v79na0_8 v79na0_9 v79na0_10 v79na0_11 v79na0_12 v79na0_13 v79na0_5_0 v79na0_5_1 v79na0_5_2 v79na0_5_3 v79na0_5_4 v79na0_5_5 v79na0_5_6 v79na0_5_7 v79na0_5_8 v79na0_5_9 v79nfa0_4 v79nfa0_5_10 v79nfa0_5_11 v79na0_5_14_0 v79nfa0_5_14_2 v79nfa0_5_14_3 v79nfa0_5_13 v79nfa0_5_12 => zy_15 (fun bv79na0_6 bv79na0_8 bv79na0_9 bv79na0_10 bv79na0_5_0 bv79na0_5_4 bv79na0_5_5 bv79na0_5_6 bv79na0_5_7 bv79na0_5_9 bv79na0_5_14_0 bv79nfa0_5_14_2 bv79nfa0_5_14_3 bv79nfa0_5_13 hraw79_0 hB hz1 hk1 hS1 => zo hB ht hS1 (fun hP1 hK1 hD1 hS => ?_))))
              refine zc_backc (w := [(a0, .inr (3, [.int 0, .int v79na0_1, .int v79na0_2, .ref a0_3, .ref a0_4, .ref a0_5, .int v79na0_6, .int x6, .int v79na0_8, .int v79na0_9, .int v79na0_10, .long v79na0_11, .int v79na0_12, .int v79na0_13])), (a0_5, .inr (0, [.int v79na0_5_0, .int v79na0_5_1, .int v79na0_5_2, .int v79na0_5_3, .int v79na0_5_4, .int v79na0_5_5, .int v79na0_5_6, .int v79na0_5_7, .int v79na0_5_8, .int v79na0_5_9, .ref a0_5_10, .ref a0_5_11, .ref a0_5_12, .ref a0_5_13, .ref a0_5_14])), (a0_5_14, .inr (6, [.int v79na0_5_14_0, a0_5_14g_1, .ref a0_5_14_2, .ref a0_5_14_3])), (a0_5_10, .inl (ka0_5_10, 9, .inl (v79nfa0_5_10))), (a0_5_11, .inl (ka0_5_11, 9, .inl (v79nfa0_5_11))), (a0_3, .inl (ka0_3, 900, .inl (fa0_3))), (a0_4, .inl (ka0_4, 12, .inr (.inl (v79nfa0_4)))), (a0_5_14_2, .inl (ka0_5_14_2, 3, .inl (v79nfa0_5_14_2))), (a0_5_14_3, .inl (ka0_5_14_3, 3, .inl (v79nfa0_5_14_3))), (a0_5_13, .inl (ka0_5_13, 6, .inl (v79nfa0_5_13))), (a0_5_12, .inl (ka0_5_12, 6, .inl (v79nfa0_5_12)))]) hP hD hCc hk1 hFc hP1 hD1 [.inr 0, .inr 1, .inr 6, .inr 4, .inr 5, .inr 2, .inr 3, .inr 7, .inr 8, .inr 9, .inr 10] (by decide +kernel) rfl (fun hP hD => ?_)
              obtain ⟨hw, hfr79⟩ := hw
              have hc79 : Ff_X3_readLine j55a0_1.toInt j55a0_2.toInt j55a0_6.toInt x6.toInt v75na0_8.toInt v75na0_9.toInt v75na0_10.toInt v75na0_11.toInt v75na0_12.toInt j55a0_13.toInt j55a0_5_0.toInt j55a0_5_1.toInt j55a0_5_2.toInt j55a0_5_3.toInt j55a0_5_4.toInt j55a0_5_5.toInt j55a0_5_6.toInt j55a0_5_7.toInt j55a0_5_8.toInt j55a0_5_9.toInt (fl_A fa0_3) (fl_L j55a0_4_a) (fl_A j55a0_5_10_a) (fl_A j55a0_5_11_a) j55a0_5_14_0.toInt (fl_A j55a0_5_14_2_a) (fl_A j55a0_5_14_3_a) (fl_A j55a0_5_13_a) (fl_A j55a0_5_12_a) = (r79.toInt, v79na0_1.toInt, v79na0_2.toInt, v79na0_6.toInt, v79na0_8.toInt, v79na0_9.toInt, v79na0_10.toInt, v79na0_11.toInt, v79na0_12.toInt, v79na0_13.toInt, v79na0_5_0.toInt, v79na0_5_1.toInt, v79na0_5_2.toInt, v79na0_5_3.toInt, v79na0_5_4.toInt, v79na0_5_5.toInt, v79na0_5_6.toInt, v79na0_5_7.toInt, v79na0_5_8.toInt, v79na0_5_9.toInt, (fl_L v79nfa0_4), (fl_A v79nfa0_5_10), (fl_A v79nfa0_5_11), v79na0_5_14_0.toInt, (fl_A v79nfa0_5_14_2), (fl_A v79nfa0_5_14_3), (fl_A v79nfa0_5_13), (fl_A v79nfa0_5_12)) := Prod.ext hfr79.symm hraw79_0
              have hF1 := hF1.trans (fl_c28_eq hc79)
              rcases hw with hw | hw
              · subst hw
                have hF1 := hF1.trans (if_pos (by decide))
                refine lv_istore_n (lv' := [(2, .int 1), (0, .ref a0), (3, .int j55l3)]) hx hb dX3_read_82 rfl hl (by decide) rfl (fun ls hl => ?_)
                obtain ⟨x83, ex83⟩ : ∃ y : Int32, y = j55l3 + Int32.ofInt 1 := ⟨_, rfl⟩
                have qx83 : x83.toInt = j55l3.toInt + 1 := ai_inc ex83 (by decide) (by decide) u71f_j55l3 (by decide)
                have bx83 : (2 : Int) ≤ x83.toInt ∧ x83.toInt ≤ 900 := ⟨by rw [qx83]; exact Int.add_le_add bj55l3_l (Int.le_refl _), by rw [qx83]; exact Int.add_le_add u71f_j55l3 (Int.le_refl _)⟩
                refine lv_iinc (v := x83) (lv' := [(3, .int x83), (2, .int 1), (0, .ref a0)]) hx hb dX3_read_83 hl (k := 2) rfl ex83.symm (by decide) rfl (fun ls hl => ?_)
                have hF1 := hF1.trans (fl_lt_eq (show x83.toInt = j55l3.toInt + 1 from qx83))
                refine lv_goto (tgt := 55) hx hb dX3_read_86 (by decide) ?_
                exact (hK0 _ _ _).mp (ih55 x83 1 v79na0_1 v79na0_2 v79na0_6 v79na0_8 v79na0_9 v79na0_10 v79na0_11 v79na0_12 v79na0_13 v79na0_5_0 v79na0_5_1 v79na0_5_2 v79na0_5_3 v79na0_5_4 v79na0_5_5 v79na0_5_6 v79na0_5_7 v79na0_5_8 v79na0_5_9 v79na0_5_14_0 v79nfa0_5_10 v79nfa0_5_11 v79nfa0_4 v79nfa0_5_14_2 v79nfa0_5_14_3 v79nfa0_5_13 v79nfa0_5_12 _ _ _ (by first | exact zg_s hm55 qx83 | (have h0 := qx83; omega)) (Int.le_trans zq54 bx83.1) bx83.2 (Int.le_trans zq4 zq1) zq0 bv79na0_6.1 bv79na0_6.2 bv79na0_8.1 bv79na0_8.2 bv79na0_9.1 bv79na0_9.2 bv79na0_10.1 bv79na0_10.2 bv79na0_5_0.1 bv79na0_5_0.2 bv79na0_5_4.1 bv79na0_5_4.2 bv79na0_5_5.1 bv79na0_5_5.2 bv79na0_5_6.1 bv79na0_5_6.2 bv79na0_5_7.1 bv79na0_5_7.2 bv79na0_5_9.1 bv79na0_5_9.2 bv79na0_5_14_0.1 bv79na0_5_14_0.2 bv79nfa0_5_14_2 bv79nfa0_5_14_3 bv79nfa0_5_13 (by rw [show (1 : Int32).toInt = 1 from by decide]; exact (hF0.trans (fl_wh_l (hSX55.trans hF1)))) hP hD hS (lv_sub hl [2, 1, 0] rfl))
              · subst hw
                have hF1 := hF1.trans (if_neg (by decide))
                refine lv_istore_n (lv' := [(2, .int 0), (0, .ref a0), (3, .int j55l3)]) hx hb dX3_read_82 rfl hl (by decide) rfl (fun ls hl => ?_)
                obtain ⟨x83, ex83⟩ : ∃ y : Int32, y = j55l3 + Int32.ofInt 1 := ⟨_, rfl⟩
                have qx83 : x83.toInt = j55l3.toInt + 1 := ai_inc ex83 (by decide) (by decide) u71f_j55l3 (by decide)
                have bx83 : (2 : Int) ≤ x83.toInt ∧ x83.toInt ≤ 900 := ⟨by rw [qx83]; exact Int.add_le_add bj55l3_l (Int.le_refl _), by rw [qx83]; exact Int.add_le_add u71f_j55l3 (Int.le_refl _)⟩
                refine lv_iinc (v := x83) (lv' := [(3, .int x83), (2, .int 0), (0, .ref a0)]) hx hb dX3_read_83 hl (k := 2) rfl ex83.symm (by decide) rfl (fun ls hl => ?_)
                have hF1 := hF1.trans (fl_lt_eq (show x83.toInt = j55l3.toInt + 1 from qx83))
                refine lv_goto (tgt := 55) hx hb dX3_read_86 (by decide) ?_
                exact (hK0 _ _ _).mp (ih55 x83 0 v79na0_1 v79na0_2 v79na0_6 v79na0_8 v79na0_9 v79na0_10 v79na0_11 v79na0_12 v79na0_13 v79na0_5_0 v79na0_5_1 v79na0_5_2 v79na0_5_3 v79na0_5_4 v79na0_5_5 v79na0_5_6 v79na0_5_7 v79na0_5_8 v79na0_5_9 v79na0_5_14_0 v79nfa0_5_10 v79nfa0_5_11 v79nfa0_4 v79nfa0_5_14_2 v79nfa0_5_14_3 v79nfa0_5_13 v79nfa0_5_12 _ _ _ (by first | exact zg_s hm55 qx83 | (have h0 := qx83; omega)) (Int.le_trans zq54 bx83.1) bx83.2 zq5 (Int.le_trans zq6 zq4) bv79na0_6.1 bv79na0_6.2 bv79na0_8.1 bv79na0_8.2 bv79na0_9.1 bv79na0_9.2 bv79na0_10.1 bv79na0_10.2 bv79na0_5_0.1 bv79na0_5_0.2 bv79na0_5_4.1 bv79na0_5_4.2 bv79na0_5_5.1 bv79na0_5_5.2 bv79na0_5_6.1 bv79na0_5_6.2 bv79na0_5_7.1 bv79na0_5_7.2 bv79na0_5_9.1 bv79na0_5_9.2 bv79na0_5_14_0.1 bv79na0_5_14_0.2 bv79nfa0_5_14_2 bv79nfa0_5_14_3 bv79nfa0_5_13 (by rw [show (0 : Int32).toInt = 0 from by decide]; exact (hF0.trans (fl_wh_l (hSX55.trans hF1)))) hP hD hS (lv_sub hl [2, 1, 0] rfl))
    exact (hK0 _ _ _).mp (J55 900 1 0 v49na0_1 v49na0_2 v49na0_6 v49na0_8 v49na0_9 v49na0_10 v49na0_11 v49na0_12 v49na0_13 v49na0_5_0 v49na0_5_1 v49na0_5_2 v49na0_5_3 v49na0_5_4 v49na0_5_5 v49na0_5_6 v49na0_5_7 v49na0_5_8 v49na0_5_9 v49na0_5_14_0 v49nfa0_5_10 v49nfa0_5_11 v49nfa0_4 v49nfa0_5_14_2 v49nfa0_5_14_3 v49nfa0_5_13 v49nfa0_5_12 _ _ _ (by first | decide +kernel | (have h1 : (1 : Int) ≤ (1 : Int32).toInt := zq1; have h2 : (1 : Int32).toInt ≤ (1 : Int) := zq0; omega)) zq1 (Int.le_trans zq0 zq231) zq5 (Int.le_trans zq6 zq4) bv49na0_6.1 bv49na0_6.2 bv49na0_8.1 bv49na0_8.2 bv49na0_9.1 bv49na0_9.2 bv49na0_10.1 bv49na0_10.2 bv49na0_5_0.1 bv49na0_5_0.2 bv49na0_5_4.1 bv49na0_5_4.2 bv49na0_5_5.1 bv49na0_5_5.2 bv49na0_5_6.1 bv49na0_5_6.2 bv49na0_5_7.1 bv49na0_5_7.2 bv49na0_5_9.1 bv49na0_5_9.2 bv49na0_5_14_0.1 bv49na0_5_14_0.2 bv49nfa0_5_14_2 bv49nfa0_5_14_3 bv49nfa0_5_13 (by rw [show (1 : Int32).toInt = 1 from by decide, show (0 : Int32).toInt = 0 from by decide]; exact hF0) hP hD hS (lv_sub hl [2, 1, 0] rfl))
end P311_04_f
section P312_00_f
set_option maxHeartbeats 4000000 in
set_option maxRecDepth 100000 in
theorem f_X8_good (l : Launch) (dC : Nat → ClassId) (dI : Nat → Nat → Nat) (sz : Nat) (a0 : Nat) (a0_0 : Int32) (a0g_1 a0g_2 a0g_3 a0g_4 a0g_5 a0g_6 a0g_7 a0g_8 a0g_9 a0g_10 a0g_12 a0g_13 a0g_14 a0g_15 a0g_16 a0g_17 a0g_18 a0g_19 a0g_20 a0g_21 a0g_22 a0g_23 a0g_24 a0g_25 a0g_26 a0g_27 a0g_28 a0g_29 a0g_30 a0g_31 a0g_32 a0g_33 a0g_34 a0g_35 a0g_36 a0g_37 a0g_38 a0g_39 : Value) (a0_11 : Int32)  : zm l yX8_good wsX8_good ({ frames := 0, cells := 0, slots := 0, locals := 0 }) [.ref a0] dC dI sz [(a0, .inr (8, [Value.int a0_0, a0g_1, a0g_2, a0g_3, a0g_4, a0g_5, a0g_6, a0g_7, a0g_8, a0g_9, a0g_10, Value.int a0_11, a0g_12, a0g_13, a0g_14, a0g_15, a0g_16, a0g_17, a0g_18, a0g_19, a0g_20, a0g_21, a0g_22, a0g_23, a0g_24, a0g_25, a0g_26, a0g_27, a0g_28, a0g_29, a0g_30, a0g_31, a0g_32, a0g_33, a0g_34, a0g_35, a0g_36, a0g_37, a0g_38, a0g_39]))] [] (fun A _ => True) (fun A => va_Qv (fun (_ : Unit) => True) (fun (_ : Unit) (t : State) => ∃ na0_0 : Int32, ∃ na0_11 : Int32, (Ff_X8_good = (na0_0.toInt, na0_11.toInt)) ∧ ax_B dC dI A [(a0, .inr (8, [Value.int na0_0, a0g_1, a0g_2, a0g_3, a0g_4, a0g_5, a0g_6, a0g_7, a0g_8, a0g_9, a0g_10, Value.int na0_11, a0g_12, a0g_13, a0g_14, a0g_15, a0g_16, a0g_17, a0g_18, a0g_19, a0g_20, a0g_21, a0g_22, a0g_23, a0g_24, a0g_25, a0g_26, a0g_27, a0g_28, a0g_29, a0g_30, a0g_31, a0g_32, a0g_33, a0g_34, a0g_35, a0g_36, a0g_37, a0g_38, a0g_39]))] [] t) A) := by
  refine zh (cc := cX8_good) (maxL := 1) (ret := none) zn_RX8 rfl (Nat.le_of_ble_eq_true rfl) (fun p e s m below meth c A ls hx hb hml hr hts (hown : s.vm.findClass RX8 = some m.cls) hlocks hA hS hP hK hD hE (hl : lv_has ls 1 [(0, .ref a0)]) => ?_)
  generalize hFX : Ff_X8_good = FX at ⊢
  have hF0 := hFX.symm.trans (Ff_X8_good.eq_1)
  refine lv_aload_n hx hb dX8_good_0 rfl (lv_at hl 0 rfl) ?_
  refine lv_iconst (v := 0) hx hb dX8_good_1 zk_iconst_0 ?_
  refine va_put (D := (dC, dI)) (ci := 8) (v := .int 0) (ty := .int) (C := RX8) (T := TX8) (N := 40) hx hb hts zi_X8_good_8 tyX8 tyX8_ok nmX8 hown hK hP hD hS 0 rfl rfl 0 (by decide) (hts (.fieldLink RX8 59 "WaxTurnsModel" "thrown" "I") (List.mem_cons_of_mem _ (List.mem_append_left _ (List.mem_of_getElem? (i := 0) rfl)))) (fun _ h9 => h9) rfl (tyX8_ok 0 (by decide)) rfl rfl (Nat.le_of_ble_eq_true rfl) dX8_good_2 (fun H locs hP hD hS => ?_)
  refine zs_0 (y := (a0, .inr (8, [Value.int 0, a0g_1, a0g_2, a0g_3, a0g_4, a0g_5, a0g_6, a0g_7, a0g_8, a0g_9, a0g_10, Value.int a0_11, a0g_12, a0g_13, a0g_14, a0g_15, a0g_16, a0g_17, a0g_18, a0g_19, a0g_20, a0g_21, a0g_22, a0g_23, a0g_24, a0g_25, a0g_26, a0g_27, a0g_28, a0g_29, a0g_30, a0g_31, a0g_32, a0g_33, a0g_34, a0g_35, a0g_36, a0g_37, a0g_38, a0g_39]))) hP hD rfl (fun hP hD => ?_)
  refine lv_aload_n hx hb dX8_good_5 rfl (lv_at hl 0 rfl) ?_
  refine lv_iconst (v := 0) hx hb dX8_good_6 zk_iconst_0 ?_
  refine va_put (D := (dC, dI)) (ci := 8) (v := .int 0) (ty := .int) (C := RX8) (T := TX8) (N := 40) hx hb hts zi_X8_good_8 tyX8 tyX8_ok nmX8 hown hK hP hD hS 0 rfl rfl 11 (by decide) (hts (.fieldLink RX8 62 "WaxTurnsModel" "trouble" "I") (List.mem_cons_of_mem _ (List.mem_append_left _ (List.mem_of_getElem? (i := 1) rfl)))) (fun _ h9 => h9) rfl (tyX8_ok 11 (by decide)) rfl rfl (Nat.le_of_ble_eq_true rfl) dX8_good_7 (fun H locs hP hD hS => ?_)
  refine zs_0 (y := (a0, .inr (8, [Value.int 0, a0g_1, a0g_2, a0g_3, a0g_4, a0g_5, a0g_6, a0g_7, a0g_8, a0g_9, a0g_10, Value.int 0, a0g_12, a0g_13, a0g_14, a0g_15, a0g_16, a0g_17, a0g_18, a0g_19, a0g_20, a0g_21, a0g_22, a0g_23, a0g_24, a0g_25, a0g_26, a0g_27, a0g_28, a0g_29, a0g_30, a0g_31, a0g_32, a0g_33, a0g_34, a0g_35, a0g_36, a0g_37, a0g_38, a0g_39]))) hP hD rfl (fun hP hD => ?_)
  have hFe : FX = (0, 0) := hF0
  exact W.vret hx hb hr (fun t ht hW => ⟨⟨(), rfl, trivial, 0, 0, hFe, by rw [ht]; exact hP, va_K.moved hW.alike hK, hD⟩, hS.F ht⟩) hS.2.2 dX8_good_10

set_option maxHeartbeats 4000000 in
set_option maxRecDepth 100000 in
theorem f_X8_no (l : Launch) (dC : Nat → ClassId) (dI : Nat → Nat → Nat) (sz : Nat) (a0 : Nat) (a1 : Int32) (a0g_0 a0g_1 a0g_2 a0g_3 a0g_4 a0g_5 a0g_6 a0g_7 a0g_8 a0g_9 a0g_10 a0g_12 a0g_13 a0g_14 a0g_15 a0g_16 a0g_17 a0g_18 a0g_19 a0g_20 a0g_21 a0g_22 a0g_23 a0g_24 a0g_25 a0g_26 a0g_27 a0g_28 a0g_29 a0g_30 a0g_31 a0g_32 a0g_33 a0g_34 a0g_35 a0g_36 a0g_37 a0g_38 a0g_39 : Value) (a0_11 : Int32)  : zm l yX8_no wsX8_no ({ frames := 0, cells := 0, slots := 0, locals := 0 }) [.ref a0, .int a1] dC dI sz [(a0, .inr (8, [a0g_0, a0g_1, a0g_2, a0g_3, a0g_4, a0g_5, a0g_6, a0g_7, a0g_8, a0g_9, a0g_10, Value.int a0_11, a0g_12, a0g_13, a0g_14, a0g_15, a0g_16, a0g_17, a0g_18, a0g_19, a0g_20, a0g_21, a0g_22, a0g_23, a0g_24, a0g_25, a0g_26, a0g_27, a0g_28, a0g_29, a0g_30, a0g_31, a0g_32, a0g_33, a0g_34, a0g_35, a0g_36, a0g_37, a0g_38, a0g_39]))] [] (fun A _ => True) (fun A => va_Qi (fun (r : Int32) (_ : Unit) => (r = (-1)) ∧ r.toInt = (Ff_X8_no a1.toInt).1) (fun (_ : Unit) (t : State) => ∃ na0_11 : Int32, ((Ff_X8_no a1.toInt).2 = na0_11.toInt) ∧ ax_B dC dI A [(a0, .inr (8, [a0g_0, a0g_1, a0g_2, a0g_3, a0g_4, a0g_5, a0g_6, a0g_7, a0g_8, a0g_9, a0g_10, Value.int na0_11, a0g_12, a0g_13, a0g_14, a0g_15, a0g_16, a0g_17, a0g_18, a0g_19, a0g_20, a0g_21, a0g_22, a0g_23, a0g_24, a0g_25, a0g_26, a0g_27, a0g_28, a0g_29, a0g_30, a0g_31, a0g_32, a0g_33, a0g_34, a0g_35, a0g_36, a0g_37, a0g_38, a0g_39]))] [] t) A) := by
  refine zh (cc := cX8_no) (maxL := 2) (ret := (some .int)) zn_RX8 rfl (Nat.le_of_ble_eq_true rfl) (fun p e s m below meth c A ls hx hb hml hr hts (hown : s.vm.findClass RX8 = some m.cls) hlocks hA hS hP hK hD hE (hl : lv_has ls 2 [(0, .ref a0), (1, .int a1)]) => ?_)
  generalize hFX : Ff_X8_no a1.toInt = FX at ⊢
  have hF0 := hFX.symm.trans (Ff_X8_no.eq_1 a1.toInt)
  refine lv_aload_n hx hb dX8_no_0 rfl (lv_at hl 0 rfl) ?_
  refine lv_iload_n hx hb dX8_no_1 rfl (lv_at hl 1 rfl) ?_
  refine va_put (D := (dC, dI)) (ci := 8) (v := .int a1) (ty := .int) (C := RX8) (T := TX8) (N := 40) hx hb hts zi_X8_no_8 tyX8 tyX8_ok nmX8 hown hK hP hD hS 0 rfl rfl 11 (by decide) (hts (.fieldLink RX8 62 "WaxTurnsModel" "trouble" "I") (List.mem_cons_of_mem _ (List.mem_append_left _ (List.mem_of_getElem? (i := 0) rfl)))) (fun _ h9 => h9) rfl (tyX8_ok 11 (by decide)) rfl rfl (Nat.le_of_ble_eq_true rfl) dX8_no_2 (fun H locs hP hD hS => ?_)
  refine zs_0 (y := (a0, .inr (8, [a0g_0, a0g_1, a0g_2, a0g_3, a0g_4, a0g_5, a0g_6, a0g_7, a0g_8, a0g_9, a0g_10, Value.int a1, a0g_12, a0g_13, a0g_14, a0g_15, a0g_16, a0g_17, a0g_18, a0g_19, a0g_20, a0g_21, a0g_22, a0g_23, a0g_24, a0g_25, a0g_26, a0g_27, a0g_28, a0g_29, a0g_30, a0g_31, a0g_32, a0g_33, a0g_34, a0g_35, a0g_36, a0g_37, a0g_38, a0g_39]))) hP hD rfl (fun hP hD => ?_)
  refine lv_iconst (v := (-1)) hx hb dX8_no_5 zk_iconst_n1 ?_
  have hFe : FX = ((-1), a1.toInt) := hF0
  exact W.iret (v := (-1)) hx hb hr (fun t ht hW => ⟨⟨(-1), (), rfl, ⟨rfl, (congrArg Prod.fst hFe).symm⟩, a1, (congrArg Prod.snd hFe), by rw [ht]; exact hP, va_K.moved hW.alike hK, hD⟩, hS.F ht⟩) hS.2.2 dX8_no_6

set_option maxHeartbeats 4000000 in
set_option maxRecDepth 100000 in
theorem f_X8_isNot (l : Launch) (dC : Nat → ClassId) (dI : Nat → Nat → Nat) (sz : Nat) (a0 : Nat) (a1 : Int32) (a0g_0 a0g_1 a0g_2 a0g_3 a0g_4 a0g_5 a0g_6 a0g_7 a0g_8 a0g_9 a0g_10 a0g_12 a0g_13 a0g_14 a0g_15 a0g_16 a0g_17 a0g_18 a0g_19 a0g_20 a0g_21 a0g_22 a0g_23 a0g_24 a0g_25 a0g_26 a0g_27 a0g_28 a0g_29 a0g_30 a0g_31 a0g_32 a0g_33 a0g_34 a0g_35 a0g_36 a0g_37 a0g_38 a0g_39 : Value) (a0_11 : Int32)  : zm l yX8_isNot wsX8_isNot ({ frames := 0, cells := 0, slots := 0, locals := 0 }) [.ref a0, .int a1] dC dI sz [(a0, .inr (8, [a0g_0, a0g_1, a0g_2, a0g_3, a0g_4, a0g_5, a0g_6, a0g_7, a0g_8, a0g_9, a0g_10, Value.int a0_11, a0g_12, a0g_13, a0g_14, a0g_15, a0g_16, a0g_17, a0g_18, a0g_19, a0g_20, a0g_21, a0g_22, a0g_23, a0g_24, a0g_25, a0g_26, a0g_27, a0g_28, a0g_29, a0g_30, a0g_31, a0g_32, a0g_33, a0g_34, a0g_35, a0g_36, a0g_37, a0g_38, a0g_39]))] [] (fun A _ => True) (fun A => va_Qi (fun (r : Int32) (_ : Unit) => (r = 0) ∧ r.toInt = (Ff_X8_isNot a1.toInt).1) (fun (_ : Unit) (t : State) => ∃ na0_11 : Int32, ((Ff_X8_isNot a1.toInt).2 = na0_11.toInt) ∧ ax_B dC dI A [(a0, .inr (8, [a0g_0, a0g_1, a0g_2, a0g_3, a0g_4, a0g_5, a0g_6, a0g_7, a0g_8, a0g_9, a0g_10, Value.int na0_11, a0g_12, a0g_13, a0g_14, a0g_15, a0g_16, a0g_17, a0g_18, a0g_19, a0g_20, a0g_21, a0g_22, a0g_23, a0g_24, a0g_25, a0g_26, a0g_27, a0g_28, a0g_29, a0g_30, a0g_31, a0g_32, a0g_33, a0g_34, a0g_35, a0g_36, a0g_37, a0g_38, a0g_39]))] [] t) A) := by
  refine zh (cc := cX8_isNot) (maxL := 2) (ret := (some .boolean)) zn_RX8 rfl (Nat.le_of_ble_eq_true rfl) (fun p e s m below meth c A ls hx hb hml hr hts (hown : s.vm.findClass RX8 = some m.cls) hlocks hA hS hP hK hD hE (hl : lv_has ls 2 [(0, .ref a0), (1, .int a1)]) => ?_)
  generalize hFX : Ff_X8_isNot a1.toInt = FX at ⊢
  have hF0 := hFX.symm.trans (Ff_X8_isNot.eq_1 a1.toInt)
  refine lv_aload_n hx hb dX8_isNot_0 rfl (lv_at hl 0 rfl) ?_
  refine lv_iload_n hx hb dX8_isNot_1 rfl (lv_at hl 1 rfl) ?_
  refine va_put (D := (dC, dI)) (ci := 8) (v := .int a1) (ty := .int) (C := RX8) (T := TX8) (N := 40) hx hb hts zi_X8_isNot_8 tyX8 tyX8_ok nmX8 hown hK hP hD hS 0 rfl rfl 11 (by decide) (hts (.fieldLink RX8 62 "WaxTurnsModel" "trouble" "I") (List.mem_cons_of_mem _ (List.mem_append_left _ (List.mem_of_getElem? (i := 0) rfl)))) (fun _ h9 => h9) rfl (tyX8_ok 11 (by decide)) rfl rfl (Nat.le_of_ble_eq_true rfl) dX8_isNot_2 (fun H locs hP hD hS => ?_)
  refine zs_0 (y := (a0, .inr (8, [a0g_0, a0g_1, a0g_2, a0g_3, a0g_4, a0g_5, a0g_6, a0g_7, a0g_8, a0g_9, a0g_10, Value.int a1, a0g_12, a0g_13, a0g_14, a0g_15, a0g_16, a0g_17, a0g_18, a0g_19, a0g_20, a0g_21, a0g_22, a0g_23, a0g_24, a0g_25, a0g_26, a0g_27, a0g_28, a0g_29, a0g_30, a0g_31, a0g_32, a0g_33, a0g_34, a0g_35, a0g_36, a0g_37, a0g_38, a0g_39]))) hP hD rfl (fun hP hD => ?_)
  refine lv_iconst (v := 0) hx hb dX8_isNot_5 zk_iconst_0 ?_
  have hFe : FX = (0, a1.toInt) := hF0
  exact W.zret (v := 0) hx hb hr rfl (fun t ht hW => ⟨⟨0, (), rfl, ⟨rfl, (congrArg Prod.fst hFe).symm⟩, a1, (congrArg Prod.snd hFe), by rw [ht]; exact hP, va_K.moved hW.alike hK, hD⟩, hS.F ht⟩) hS.2.2 dX8_isNot_6

set_option maxHeartbeats 4000000 in
set_option maxRecDepth 100000 in
theorem f_X8_in (l : Launch) (dC : Nat → ClassId) (dI : Nat → Nat → Nat) (sz : Nat) (a1 : Int32) (a2 : Int32) (a3 : Int32)  : zm l yX8_in wsX8_in ({ frames := 0, cells := 0, slots := 0, locals := 0 }) [.int a1, .int a2, .int a3] dC dI sz [] [] (fun A _ => True) (fun A => va_Qi (fun (r : Int32) (_ : Unit) => ((r = 1 ∧ a2.toInt ≤ a1.toInt ∧ a1.toInt ≤ a3.toInt) ∨ (r = 0 ∧ (a1.toInt < a2.toInt ∨ a3.toInt < a1.toInt))) ∧ r.toInt = Ff_X8_in a1.toInt a2.toInt a3.toInt) (fun (_ : Unit) (t : State) => ax_B dC dI A [] [] t) A) := by
  refine zh (cc := cX8_in) (maxL := 3) (ret := (some .boolean)) zn_RX8 rfl (Nat.le_of_ble_eq_true rfl) (fun p e s m below meth c A ls hx hb hml hr hts (hown : s.vm.findClass RX8 = some m.cls) hlocks hA hS hP hK hD hE (hl : lv_has ls 3 [(0, .int a1), (1, .int a2), (2, .int a3)]) => ?_)
  generalize hFX : Ff_X8_in a1.toInt a2.toInt a3.toInt = FX at ⊢
  have hF0 := hFX.symm.trans (Ff_X8_in.eq_1 a1.toInt a2.toInt a3.toInt)
  refine lv_iload_n hx hb dX8_in_0 rfl (lv_at hl 0 rfl) ?_
  refine lv_iload_n hx hb dX8_in_1 rfl (lv_at hl 1 rfl) ?_
  refine lv_icmp_lt (tgt := 14) hx hb dX8_in_2 (by decide) (fun c2 => ?_) (fun c2 => ?_)
  · have gc2 := ai_lt c2
    have u2t_a1 : a1.toInt ≤ (2147483646 : Int) := ai_lthi gc2 (ai_max a2)
    have l2t_a2 : (-2147483647 : Int) ≤ a2.toInt := ai_ltlo gc2 (ai_min a1)
    have hF0 := hF0.trans (if_pos (show a1.toInt < a2.toInt from gc2))
    refine lv_iconst (v := 0) hx hb dX8_in_14 zk_iconst_0 ?_
    have hFe : FX = 0 := hF0
    exact W.zret (v := 0) hx hb hr rfl (fun t ht hW => ⟨⟨0, (), rfl, ⟨(Or.inr ⟨rfl, Or.inl gc2⟩), hFe.symm⟩, by rw [ht]; exact hP, va_K.moved hW.alike hK, hD⟩, hS.F ht⟩) hS.2.2 dX8_in_15
  · have gc2 := ai_nlt c2
    have hF0 := hF0.trans (if_neg (show ¬ (a1.toInt < a2.toInt) from Int.not_lt.mpr gc2))
    refine lv_iload_n hx hb dX8_in_5 rfl (lv_at hl 0 rfl) ?_
    refine lv_iload_n hx hb dX8_in_6 rfl (lv_at hl 2 rfl) ?_
    refine lv_icmp_gt (tgt := 14) hx hb dX8_in_7 (by decide) (fun c7 => ?_) (fun c7 => ?_)
    · have gc7 := ai_lt c7
      have u7t_a3 : a3.toInt ≤ (2147483646 : Int) := ai_lthi gc7 (ai_max a1)
      have l7t_a1 : (-2147483647 : Int) ≤ a1.toInt := ai_ltlo gc7 (ai_min a3)
      have hF0 := hF0.trans (if_pos (show a3.toInt < a1.toInt from gc7))
      refine lv_iconst (v := 0) hx hb dX8_in_14 zk_iconst_0 ?_
      have hFe : FX = 0 := hF0
      exact W.zret (v := 0) hx hb hr rfl (fun t ht hW => ⟨⟨0, (), rfl, ⟨(Or.inr ⟨rfl, Or.inr gc7⟩), hFe.symm⟩, by rw [ht]; exact hP, va_K.moved hW.alike hK, hD⟩, hS.F ht⟩) hS.2.2 dX8_in_15
    · have gc7 := ai_nlt c7
      have hF0 := hF0.trans (if_neg (show ¬ (a3.toInt < a1.toInt) from Int.not_lt.mpr gc7))
      refine lv_iconst (v := 1) hx hb dX8_in_10 zk_iconst_1 ?_
      refine lv_goto (tgt := 15) hx hb dX8_in_11 (by decide) ?_
      have hFe : FX = 1 := hF0
      exact W.zret (v := 1) hx hb hr rfl (fun t ht hW => ⟨⟨1, (), rfl, ⟨(Or.inl ⟨rfl, gc2, gc7⟩), hFe.symm⟩, by rw [ht]; exact hP, va_K.moved hW.alike hK, hD⟩, hS.F ht⟩) hS.2.2 dX8_in_15

set_option maxHeartbeats 4000000 in
set_option maxRecDepth 100000 in
theorem f_X8_isSmall (l : Launch) (dC : Nat → ClassId) (dI : Nat → Nat → Nat) (sz : Nat) (a1 : Int32)  : zm l yX8_isSmall wsX8_isSmall ({ frames := 0, cells := 0, slots := 0, locals := 0 }) [.int a1] dC dI sz [] [] (fun A _ => True) (fun A => va_Qi (fun (r : Int32) (_ : Unit) => ((r = 1 ∧ (97 : Int) ≤ a1.toInt ∧ a1.toInt ≤ (122 : Int)) ∨ (r = 0)) ∧ r.toInt = Ff_X8_isSmall a1.toInt) (fun (_ : Unit) (t : State) => ax_B dC dI A [] [] t) A) := by
  refine zh (cc := cX8_isSmall) (maxL := 1) (ret := (some .boolean)) zn_RX8 rfl (Nat.le_of_ble_eq_true rfl) (fun p e s m below meth c A ls hx hb hml hr hts (hown : s.vm.findClass RX8 = some m.cls) hlocks hA hS hP hK hD hE (hl : lv_has ls 1 [(0, .int a1)]) => ?_)
  generalize hFX : Ff_X8_isSmall a1.toInt = FX at ⊢
  have hF0 := hFX.symm.trans (Ff_X8_isSmall.eq_1 a1.toInt)
  refine lv_iload_n hx hb dX8_isSmall_0 rfl (lv_at hl 0 rfl) ?_
  refine lv_bipush (v := 97) hx hb dX8_isSmall_1 zk_bipush_97 ?_
  refine lv_icmp_lt (tgt := 16) hx hb dX8_isSmall_3 (by decide) (fun c3 => ?_) (fun c3 => ?_)
  · have gc3 := ai_lt c3
    have u3t_a1 : a1.toInt ≤ (96 : Int) := ai_lthi gc3 zq136
    have hF0 := hF0.trans (if_pos (show a1.toInt < 97 from gc3))
    refine lv_iconst (v := 0) hx hb dX8_isSmall_16 zk_iconst_0 ?_
    have hFe : FX = 0 := hF0
    exact W.zret (v := 0) hx hb hr rfl (fun t ht hW => ⟨⟨0, (), rfl, ⟨(Or.inr (rfl)), hFe.symm⟩, by rw [ht]; exact hP, va_K.moved hW.alike hK, hD⟩, hS.F ht⟩) hS.2.2 dX8_isSmall_17
  · have gc3 := ai_nlt c3
    have l3f_a1 : (97 : Int) ≤ a1.toInt := Int.le_trans zq137 gc3
    have hF0 := hF0.trans (if_neg (show ¬ (a1.toInt < 97) from Int.not_lt.mpr gc3))
    refine lv_iload_n hx hb dX8_isSmall_6 rfl (lv_at hl 0 rfl) ?_
    refine lv_bipush (v := 122) hx hb dX8_isSmall_7 zk_bipush_122 ?_
    refine lv_icmp_gt (tgt := 16) hx hb dX8_isSmall_9 (by decide) (fun c9 => ?_) (fun c9 => ?_)
    · have gc9 := ai_lt c9
      have l9t_a1 : (123 : Int) ≤ a1.toInt := ai_ltlo gc9 zq138
      have hF0 := hF0.trans (if_pos (show 122 < a1.toInt from gc9))
      refine lv_iconst (v := 0) hx hb dX8_isSmall_16 zk_iconst_0 ?_
      have hFe : FX = 0 := hF0
      exact W.zret (v := 0) hx hb hr rfl (fun t ht hW => ⟨⟨0, (), rfl, ⟨(Or.inr (rfl)), hFe.symm⟩, by rw [ht]; exact hP, va_K.moved hW.alike hK, hD⟩, hS.F ht⟩) hS.2.2 dX8_isSmall_17
    · have gc9 := ai_nlt c9
      have u9f_a1 : a1.toInt ≤ (122 : Int) := Int.le_trans gc9 zq139
      have hF0 := hF0.trans (if_neg (show ¬ (122 < a1.toInt) from Int.not_lt.mpr gc9))
      refine lv_iconst (v := 1) hx hb dX8_isSmall_12 zk_iconst_1 ?_
      refine lv_goto (tgt := 17) hx hb dX8_isSmall_13 (by decide) ?_
      have hFe : FX = 1 := hF0
      exact W.zret (v := 1) hx hb hr rfl (fun t ht hW => ⟨⟨1, (), rfl, ⟨(Or.inl ⟨rfl, l3f_a1, u9f_a1⟩), hFe.symm⟩, by rw [ht]; exact hP, va_K.moved hW.alike hK, hD⟩, hS.F ht⟩) hS.2.2 dX8_isSmall_17

set_option maxHeartbeats 4000000 in
set_option maxRecDepth 100000 in
theorem f_X8_isDigit (l : Launch) (dC : Nat → ClassId) (dI : Nat → Nat → Nat) (sz : Nat) (a1 : Int32)  : zm l yX8_isDigit wsX8_isDigit ({ frames := 0, cells := 0, slots := 0, locals := 0 }) [.int a1] dC dI sz [] [] (fun A _ => True) (fun A => va_Qi (fun (r : Int32) (_ : Unit) => ((r = 1 ∧ (48 : Int) ≤ a1.toInt ∧ a1.toInt ≤ (57 : Int)) ∨ (r = 0)) ∧ r.toInt = Ff_X8_isDigit a1.toInt) (fun (_ : Unit) (t : State) => ax_B dC dI A [] [] t) A) := by
  refine zh (cc := cX8_isDigit) (maxL := 1) (ret := (some .boolean)) zn_RX8 rfl (Nat.le_of_ble_eq_true rfl) (fun p e s m below meth c A ls hx hb hml hr hts (hown : s.vm.findClass RX8 = some m.cls) hlocks hA hS hP hK hD hE (hl : lv_has ls 1 [(0, .int a1)]) => ?_)
  generalize hFX : Ff_X8_isDigit a1.toInt = FX at ⊢
  have hF0 := hFX.symm.trans (Ff_X8_isDigit.eq_1 a1.toInt)
  refine lv_iload_n hx hb dX8_isDigit_0 rfl (lv_at hl 0 rfl) ?_
  refine lv_bipush (v := 48) hx hb dX8_isDigit_1 zk_bipush_48 ?_
  refine lv_icmp_lt (tgt := 16) hx hb dX8_isDigit_3 (by decide) (fun c3 => ?_) (fun c3 => ?_)
  · have gc3 := ai_lt c3
    have u3t_a1 : a1.toInt ≤ (47 : Int) := ai_lthi gc3 zq141
    have hF0 := hF0.trans (if_pos (show a1.toInt < 48 from gc3))
    refine lv_iconst (v := 0) hx hb dX8_isDigit_16 zk_iconst_0 ?_
    have hFe : FX = 0 := hF0
    exact W.zret (v := 0) hx hb hr rfl (fun t ht hW => ⟨⟨0, (), rfl, ⟨(Or.inr (rfl)), hFe.symm⟩, by rw [ht]; exact hP, va_K.moved hW.alike hK, hD⟩, hS.F ht⟩) hS.2.2 dX8_isDigit_17
  · have gc3 := ai_nlt c3
    have l3f_a1 : (48 : Int) ≤ a1.toInt := Int.le_trans zq142 gc3
    have hF0 := hF0.trans (if_neg (show ¬ (a1.toInt < 48) from Int.not_lt.mpr gc3))
    refine lv_iload_n hx hb dX8_isDigit_6 rfl (lv_at hl 0 rfl) ?_
    refine lv_bipush (v := 57) hx hb dX8_isDigit_7 zk_bipush_57 ?_
    refine lv_icmp_gt (tgt := 16) hx hb dX8_isDigit_9 (by decide) (fun c9 => ?_) (fun c9 => ?_)
    · have gc9 := ai_lt c9
      have l9t_a1 : (58 : Int) ≤ a1.toInt := ai_ltlo gc9 zq143
      have hF0 := hF0.trans (if_pos (show 57 < a1.toInt from gc9))
      refine lv_iconst (v := 0) hx hb dX8_isDigit_16 zk_iconst_0 ?_
      have hFe : FX = 0 := hF0
      exact W.zret (v := 0) hx hb hr rfl (fun t ht hW => ⟨⟨0, (), rfl, ⟨(Or.inr (rfl)), hFe.symm⟩, by rw [ht]; exact hP, va_K.moved hW.alike hK, hD⟩, hS.F ht⟩) hS.2.2 dX8_isDigit_17
    · have gc9 := ai_nlt c9
      have u9f_a1 : a1.toInt ≤ (57 : Int) := Int.le_trans gc9 zq144
      have hF0 := hF0.trans (if_neg (show ¬ (57 < a1.toInt) from Int.not_lt.mpr gc9))
      refine lv_iconst (v := 1) hx hb dX8_isDigit_12 zk_iconst_1 ?_
      refine lv_goto (tgt := 17) hx hb dX8_isDigit_13 (by decide) ?_
      have hFe : FX = 1 := hF0
      exact W.zret (v := 1) hx hb hr rfl (fun t ht hW => ⟨⟨1, (), rfl, ⟨(Or.inl ⟨rfl, l3f_a1, u9f_a1⟩), hFe.symm⟩, by rw [ht]; exact hP, va_K.moved hW.alike hK, hD⟩, hS.F ht⟩) hS.2.2 dX8_isDigit_17

set_option maxHeartbeats 4000000 in
set_option maxRecDepth 100000 in
theorem f_X8_see (l : Launch) (dC : Nat → ClassId) (dI : Nat → Nat → Nat) (sz : Nat) (a0 : Nat) (a1 : Int32) (a0g_0 a0g_2 a0g_4 a0g_5 a0g_6 a0g_7 a0g_8 a0g_9 a0g_10 a0g_11 a0g_12 a0g_13 a0g_14 a0g_15 a0g_16 a0g_17 a0g_18 a0g_19 a0g_20 a0g_21 a0g_22 a0g_23 a0g_24 a0g_25 a0g_26 a0g_27 a0g_28 a0g_29 a0g_30 a0g_31 a0g_32 a0g_33 a0g_34 a0g_35 a0g_36 a0g_37 a0g_38 a0g_39 : Value) (a0_1 : Nat) (a0_3 : Int32) (ka0_1 : ClassId) (fa0_1 : Nat → Int32) (ba1_l : (0 : Int) ≤ a1.toInt) (ba1_u : a1.toInt ≤ (900 : Int)) (ba0_3_l : (0 : Int) ≤ a0_3.toInt) (ba0_3_u : a0_3.toInt ≤ (900 : Int)) : zm l yX8_see wsX8_see ({ frames := 0, cells := 0, slots := 0, locals := 0 }) [.ref a0, .int a1] dC dI sz [(a0, .inr (8, [a0g_0, Value.ref a0_1, a0g_2, Value.int a0_3, a0g_4, a0g_5, a0g_6, a0g_7, a0g_8, a0g_9, a0g_10, a0g_11, a0g_12, a0g_13, a0g_14, a0g_15, a0g_16, a0g_17, a0g_18, a0g_19, a0g_20, a0g_21, a0g_22, a0g_23, a0g_24, a0g_25, a0g_26, a0g_27, a0g_28, a0g_29, a0g_30, a0g_31, a0g_32, a0g_33, a0g_34, a0g_35, a0g_36, a0g_37, a0g_38, a0g_39])), (a0_1, .inl (ka0_1, 900, .inl (fa0_1)))] [(ka0_1, .int)] (fun A _ => True) (fun A => va_Qi (fun (r : Int32) (_ : Unit) => ((r = (-1) ∧ a0_3.toInt ≤ a1.toInt) ∨ (a1.toInt < a0_3.toInt)) ∧ r.toInt = Ff_X8_see a1.toInt a0_3.toInt (fl_A fa0_1)) (fun (_ : Unit) (t : State) => ax_B dC dI A [(a0, .inr (8, [a0g_0, Value.ref a0_1, a0g_2, Value.int a0_3, a0g_4, a0g_5, a0g_6, a0g_7, a0g_8, a0g_9, a0g_10, a0g_11, a0g_12, a0g_13, a0g_14, a0g_15, a0g_16, a0g_17, a0g_18, a0g_19, a0g_20, a0g_21, a0g_22, a0g_23, a0g_24, a0g_25, a0g_26, a0g_27, a0g_28, a0g_29, a0g_30, a0g_31, a0g_32, a0g_33, a0g_34, a0g_35, a0g_36, a0g_37, a0g_38, a0g_39])), (a0_1, .inl (ka0_1, 900, .inl (fa0_1)))] [(ka0_1, .int)] t) A) := by
  refine zh (cc := cX8_see) (maxL := 2) (ret := (some .int)) zn_RX8 rfl (Nat.le_of_ble_eq_true rfl) (fun p e s m below meth c A ls hx hb hml hr hts (hown : s.vm.findClass RX8 = some m.cls) hlocks hA hS hP hK hD hE (hl : lv_has ls 2 [(0, .ref a0), (1, .int a1)]) => ?_)
  generalize hFX : Ff_X8_see a1.toInt a0_3.toInt (fl_A fa0_1) = FX at ⊢
  have hF0 := hFX.symm.trans (Ff_X8_see.eq_1 a1.toInt a0_3.toInt (fl_A fa0_1))
  refine lv_iload_n hx hb dX8_see_0 rfl (lv_at hl 1 rfl) ?_
  refine lv_aload_n hx hb dX8_see_1 rfl (lv_at hl 0 rfl) ?_
  refine va_get (D := (dC, dI)) (ci := 8) (v := .int a0_3) (C := RX8) (T := TX8) (N := 40) hx hb hts zi_X8_see_8 hown hK hP 0 rfl rfl 3 (by decide) (hts (.fieldLink RX8 68 "WaxTurnsModel" "size" "I") (List.mem_cons_of_mem _ (List.mem_append_left _ (List.mem_of_getElem? (i := 0) rfl)))) (fun _ h9 => h9) rfl dX8_see_2 ?_
  refine lv_icmp_ge (tgt := 17) hx hb dX8_see_5 (by decide) (fun c5 => ?_) (fun c5 => ?_)
  · have gc5 := ai_le c5
    have u5t_a0_3 : a0_3.toInt ≤ (900 : Int) := ba0_3_u
    have l5t_a1 : (0 : Int) ≤ a1.toInt := ba1_l
    have hF0 := hF0.trans (if_pos (show a0_3.toInt ≤ a1.toInt from gc5))
    refine lv_iconst (v := (-1)) hx hb dX8_see_17 zk_iconst_n1 ?_
    have hFe : FX = (-1) := hF0
    exact W.iret (v := (-1)) hx hb hr (fun t ht hW => ⟨⟨(-1), (), rfl, ⟨(Or.inl ⟨rfl, by omega⟩), hFe.symm⟩, by rw [ht]; exact hP, va_K.moved hW.alike hK, hD⟩, hS.F ht⟩) hS.2.2 dX8_see_18
  · have gc5 := ai_nle c5
    have u5f_a1 : a1.toInt ≤ (899 : Int) := ai_lthi gc5 ba0_3_u
    have l5f_a0_3 : (1 : Int) ≤ a0_3.toInt := ai_ltlo gc5 ba1_l
    have hF0 := hF0.trans (if_neg (show ¬ (a0_3.toInt ≤ a1.toInt) from Int.not_le.mpr gc5))
    refine lv_aload_n hx hb dX8_see_8 rfl (lv_at hl 0 rfl) ?_
    refine va_get (D := (dC, dI)) (ci := 8) (v := .ref a0_1) (C := RX8) (T := TX8) (N := 40) hx hb hts zi_X8_see_8 hown hK hP 0 rfl rfl 1 (by decide) (hts (.fieldLink RX8 7 "WaxTurnsModel" "tape" "[I") (List.mem_cons_of_mem _ (List.mem_append_left _ (List.mem_of_getElem? (i := 1) rfl)))) (fun _ h9 => h9) rfl dX8_see_9 ?_
    refine lv_iload_n hx hb dX8_see_12 rfl (lv_at hl 1 rfl) ?_
    refine va_iald hx hb hK hP 1 0 rfl rfl (ai_in ba1_l u5f_a1 (by decide) (by decide)) dX8_see_13 ?_
    refine lv_topi (fun x13 ex13 => ?_)
    have fqx13 := congrArg Int32.toInt ex13
    have hF0 := hF0.trans (fl_lt_eq (show x13.toInt = (fl_A fa0_1) (a1.toInt.toNat) from fqx13))
    refine lv_goto (tgt := 18) hx hb dX8_see_14 (by decide) ?_
    have hFe : FX = x13.toInt := hF0
    exact W.iret (v := x13) hx hb hr (fun t ht hW => ⟨⟨x13, (), rfl, ⟨(Or.inr (by omega)), hFe.symm⟩, by rw [ht]; exact hP, va_K.moved hW.alike hK, hD⟩, hS.F ht⟩) hS.2.2 dX8_see_18

set_option maxHeartbeats 4000000 in
set_option maxRecDepth 100000 in
theorem f_X8_next (l : Launch) (dC : Nat → ClassId) (dI : Nat → Nat → Nat) (sz : Nat) (a0 : Nat) (a0g_0 a0g_2 a0g_9 a0g_10 a0g_11 a0g_13 a0g_14 a0g_15 a0g_16 a0g_17 a0g_18 a0g_19 a0g_20 a0g_21 a0g_22 a0g_23 a0g_24 a0g_25 a0g_26 a0g_27 a0g_28 a0g_29 a0g_30 a0g_31 a0g_32 a0g_33 a0g_34 a0g_35 a0g_36 a0g_37 a0g_38 a0g_39 : Value) (a0_1 : Nat) (a0_3 : Int32) (a0_4 : Int32) (a0_5 : Int32) (a0_6 : Int32) (a0_7 : Int32) (a0_8 : Int32) (a0_12 : Nat) (ka0_1 : ClassId) (fa0_1 : Nat → Int32) (ka0_12 : ClassId) (fa0_12 : Nat → Int32) (ba0_3_l : (0 : Int) ≤ a0_3.toInt) (ba0_3_u : a0_3.toInt ≤ (900 : Int)) (ba0_5_l : (0 : Int) ≤ a0_5.toInt) (ba0_5_u : a0_5.toInt ≤ (900 : Int)) (ba0_8_l : (0 : Int) ≤ a0_8.toInt) (ba0_8_u : a0_8.toInt ≤ (900 : Int)) : zm l yX8_next wsX8_next ({ frames := 1, cells := 0, slots := 0, locals := 21 }) [.ref a0] dC dI sz [(a0, .inr (8, [a0g_0, Value.ref a0_1, a0g_2, Value.int a0_3, Value.int a0_4, Value.int a0_5, Value.int a0_6, Value.int a0_7, Value.int a0_8, a0g_9, a0g_10, a0g_11, Value.ref a0_12, a0g_13, a0g_14, a0g_15, a0g_16, a0g_17, a0g_18, a0g_19, a0g_20, a0g_21, a0g_22, a0g_23, a0g_24, a0g_25, a0g_26, a0g_27, a0g_28, a0g_29, a0g_30, a0g_31, a0g_32, a0g_33, a0g_34, a0g_35, a0g_36, a0g_37, a0g_38, a0g_39])), (a0_1, .inl (ka0_1, 900, .inl (fa0_1))), (a0_12, .inl (ka0_12, 8, .inl (fa0_12)))] [(ka0_1, .int), (ka0_12, .int)] (fun A _ => True) (fun A => va_Qv (fun (_ : Unit) => True) (fun (_ : Unit) (t : State) => ∃ na0_4 : Int32, ∃ na0_5 : Int32, ∃ na0_6 : Int32, ∃ na0_7 : Int32, ∃ na0_8 : Int32, ∃ nfa0_12 : Nat → Int32, ((0 : Int) ≤ na0_5.toInt ∧ na0_5.toInt ≤ 900) ∧ ((0 : Int) ≤ na0_8.toInt ∧ na0_8.toInt ≤ 900) ∧ (na0_6.toInt = 2 → na0_8.toInt ≤ 8) ∧ (a0_5.toInt ≤ na0_5.toInt ∧ (na0_6.toInt ≠ 59 ∨ a0_5.toInt < na0_5.toInt)) ∧ (Ff_X8_next a0_3.toInt a0_5.toInt (fl_A fa0_1) (fl_A fa0_12) = (na0_4.toInt, na0_5.toInt, na0_6.toInt, na0_7.toInt, na0_8.toInt, (fl_A nfa0_12))) ∧ ax_B dC dI A [(a0, .inr (8, [a0g_0, Value.ref a0_1, a0g_2, Value.int a0_3, Value.int na0_4, Value.int na0_5, Value.int na0_6, Value.int na0_7, Value.int na0_8, a0g_9, a0g_10, a0g_11, Value.ref a0_12, a0g_13, a0g_14, a0g_15, a0g_16, a0g_17, a0g_18, a0g_19, a0g_20, a0g_21, a0g_22, a0g_23, a0g_24, a0g_25, a0g_26, a0g_27, a0g_28, a0g_29, a0g_30, a0g_31, a0g_32, a0g_33, a0g_34, a0g_35, a0g_36, a0g_37, a0g_38, a0g_39])), (a0_1, .inl (ka0_1, 900, .inl (fa0_1))), (a0_12, .inl (ka0_12, 8, .inl (nfa0_12)))] [(ka0_1, .int), (ka0_12, .int)] t) A) := by
  refine zh (cc := cX8_next) (maxL := 4) (ret := none) zn_RX8 rfl (Nat.le_of_ble_eq_true rfl) (fun p e s m below meth c A ls hx hb hml hr hts (hown : s.vm.findClass RX8 = some m.cls) hlocks hA hS hP hK hD hE (hl : lv_has ls 4 [(0, .ref a0)]) => ?_)
  generalize hFX : Ff_X8_next a0_3.toInt a0_5.toInt (fl_A fa0_1) (fl_A fa0_12) = FX at ⊢
  have hF0 := hFX.symm.trans (Ff_X8_next.eq_1 a0_3.toInt a0_5.toInt (fl_A fa0_1) (fl_A fa0_12))
  refine ai_open (fun K hK0 => ?_)
  refine (hK0 _ _ _).mpr ?_
  refine lv_aload_n hx hb dX8_next_0 rfl (lv_at hl 0 rfl) ?_
  refine va_get (D := (dC, dI)) (ci := 8) (v := .int a0_5) (C := RX8) (T := TX8) (N := 40) hx hb hts zi_X8_next_8 hown hK hP 0 rfl rfl 5 (by decide) (hts (.fieldLink RX8 71 "WaxTurnsModel" "end" "I") (List.mem_cons_of_mem _ (List.mem_append_left _ (List.mem_of_getElem? (i := 0) rfl)))) (fun _ h9 => h9) rfl dX8_next_1 ?_
  refine lv_istore_n (lv' := [(1, .int a0_5), (0, .ref a0)]) hx hb dX8_next_4 rfl hl (by decide) rfl (fun ls hl => ?_)
  have J5 : ∀ (n : Nat) (j5l1 : Int32) (H : Heap) (locs : List Loc) (ls : Array Slot), (901 : Int) - j5l1.toInt ≤ (n : Int) → (0 : Int) ≤ j5l1.toInt → j5l1.toInt ≤ (900 : Int) → (a0_5.toInt ≤ j5l1.toInt) → (FX = fl_wh (Sf_X8_next_5_1 a0_3.toInt (fl_A fa0_1) (fl_A fa0_12)) (0, 0, 0, 0, 0, (fun _ => 0)) n j5l1.toInt) → va_P (dC, dI) vwCl [(a0, .inr (8, [a0g_0, Value.ref a0_1, a0g_2, Value.int a0_3, Value.int a0_4, Value.int a0_5, Value.int a0_6, Value.int a0_7, Value.int a0_8, a0g_9, a0g_10, a0g_11, Value.ref a0_12, a0g_13, a0g_14, a0g_15, a0g_16, a0g_17, a0g_18, a0g_19, a0g_20, a0g_21, a0g_22, a0g_23, a0g_24, a0g_25, a0g_26, a0g_27, a0g_28, a0g_29, a0g_30, a0g_31, a0g_32, a0g_33, a0g_34, a0g_35, a0g_36, a0g_37, a0g_38, a0g_39])), (a0_1, .inl (ka0_1, 900, .inl (fa0_1))), (a0_12, .inl (ka0_12, 8, .inl (fa0_12)))] H → va_D A [(a0, .inr (8, [a0g_0, Value.ref a0_1, a0g_2, Value.int a0_3, Value.int a0_4, Value.int a0_5, Value.int a0_6, Value.int a0_7, Value.int a0_8, a0g_9, a0g_10, a0g_11, Value.ref a0_12, a0g_13, a0g_14, a0g_15, a0g_16, a0g_17, a0g_18, a0g_19, a0g_20, a0g_21, a0g_22, a0g_23, a0g_24, a0g_25, a0g_26, a0g_27, a0g_28, a0g_29, a0g_30, a0g_31, a0g_32, a0g_33, a0g_34, a0g_35, a0g_36, a0g_37, a0g_38, a0g_39])), (a0_1, .inl (ka0_1, 900, .inl (fa0_1))), (a0_12, .inl (ka0_12, 8, .inl (fa0_12)))] → va_S A s.heap H locs → lv_has ls 4 [(0, .ref a0), (1, .int j5l1)] → K H locs (F0 m 5 ls []) := by
    intro n
    induction n with
    | zero =>
      intro j5l1 H locs ls hm bj5l1_l bj5l1_u ke5 hF0 hP hD hS hl
      first | exact zg_0 hm bj5l1_u (by decide) | (have h8 := ai_min j5l1; have h9 := ai_max j5l1; exact absurd hm (by omega))
    | succ n ih5 =>
      intro j5l1 H locs ls hm bj5l1_l bj5l1_u ke5 hF0 hP hD hS hl
      refine (hK0 _ _ _).mpr ?_
      have hm5 := hm
      obtain ⟨SX5, hSX5⟩ : ∃ q9, Sf_X8_next_5_1 a0_3.toInt (fl_A fa0_1) (fl_A fa0_12) j5l1.toInt = q9 := ⟨_, rfl⟩
      have hF1 := hSX5.symm.trans (Sf_X8_next_5_1.eq_1 a0_3.toInt (fl_A fa0_1) (fl_A fa0_12) j5l1.toInt)
      refine lv_aload_n hx hb dX8_next_5 rfl (lv_at hl 0 rfl) ?_
      refine lv_iload_n hx hb dX8_next_6 rfl (lv_at hl 1 rfl) ?_
      have hKc := hK.sub (tys' := [(ka0_1, .int)]) [0] rfl
      refine va_calli (va_runV (As := [.int j5l1]) (rest := []) ⟨hx, hb, hml, hown, hts⟩ (f_X8_see l dC dI H.size a0 j5l1 a0g_0 a0g_2 (Value.int a0_4) (Value.int a0_5) (Value.int a0_6) (Value.int a0_7) (Value.int a0_8) a0g_9 a0g_10 a0g_11 (Value.ref a0_12) a0g_13 a0g_14 a0g_15 a0g_16 a0g_17 a0g_18 a0g_19 a0g_20 a0g_21 a0g_22 a0g_23 a0g_24 a0g_25 a0g_26 a0g_27 a0g_28 a0g_29 a0g_30 a0g_31 a0g_32 a0g_33 a0g_34 a0g_35 a0g_36 a0g_37 a0g_38 a0g_39 a0_1 a0_3 ka0_1 fa0_1 bj5l1_l bj5l1_u ba0_3_l ba0_3_u) (cwV 1 hts gX8_next_X8_see rfl rfl rfl zd_X8_see ⟨Nat.le_of_ble_eq_true rfl, Nat.le_of_ble_eq_true rfl⟩) ⟨ax_blind (fun _ _ _ _ _ => trivial), zr_8 hKc (zp_P2 hP) (q0 := 0) rfl, ax_pre (zp_P2 hP) hKc (zp_D2 hD) (fun _ _ => trivial)⟩ rfl rfl hl.1 rfl (lv_room (Nat.le_of_ble_eq_true rfl)) dX8_next_7 ⟨Nat.le_of_ble_eq_true rfl, Nat.le_of_ble_eq_true rfl⟩) hS (fun q _ h => zp_F2 hD hS hA q h) (zp_F2 hD hS hA) (fun r7 u t H locs ht hvm hw hB hz1 hk1 hS1 => zo2 hB ht hP hD hk1 (zp_F2 hD hS hA) hS1 (fun hP hK1 hD hS => ?_))
      obtain ⟨hw, hfr7⟩ := hw
      have hc7 : Ff_X8_see j5l1.toInt a0_3.toInt (fl_A fa0_1) = r7.toInt := hfr7.symm
      have hF1 := hF1.trans (fl_lt_eq hc7.symm)
      rcases hw with hw | hw
      · obtain ⟨hw, h7⟩ := hw
        subst hw
        have hF1 := hF1.trans (if_pos (show a0_3.toInt ≤ j5l1.toInt from h7))
        refine lv_bipush (v := 32) hx hb dX8_next_10 zk_bipush_32 ?_
        refine lv_icmp_ne (tgt := 21) hx hb dX8_next_12 (by decide) (fun _ => ?_) (fun c12 => absurd c12 (by decide +kernel))
        have hF0 := hF0.trans (fl_wh_r (hSX5.trans hF1))
        refine lv_aload_n hx hb dX8_next_21 rfl (lv_at hl 0 rfl) ?_
        refine lv_iload_n hx hb dX8_next_22 rfl (lv_at hl 1 rfl) ?_
        refine va_put (D := (dC, dI)) (ci := 8) (v := .int j5l1) (ty := .int) (C := RX8) (T := TX8) (N := 40) hx hb hts zi_X8_next_8 tyX8 tyX8_ok nmX8 hown hK hP hD hS 0 rfl rfl 4 (by decide) (hts (.fieldLink RX8 78 "WaxTurnsModel" "at" "I") (List.mem_cons_of_mem _ (List.mem_append_left _ (List.mem_of_getElem? (i := 1) rfl)))) (fun _ h9 => h9) rfl (tyX8_ok 4 (by decide)) rfl rfl (Nat.le_of_ble_eq_true rfl) dX8_next_23 (fun H locs hP hD hS => ?_)
        refine zs_0 (y := (a0, .inr (8, [a0g_0, Value.ref a0_1, a0g_2, Value.int a0_3, Value.int j5l1, Value.int a0_5, Value.int a0_6, Value.int a0_7, Value.int a0_8, a0g_9, a0g_10, a0g_11, Value.ref a0_12, a0g_13, a0g_14, a0g_15, a0g_16, a0g_17, a0g_18, a0g_19, a0g_20, a0g_21, a0g_22, a0g_23, a0g_24, a0g_25, a0g_26, a0g_27, a0g_28, a0g_29, a0g_30, a0g_31, a0g_32, a0g_33, a0g_34, a0g_35, a0g_36, a0g_37, a0g_38, a0g_39]))) hP hD rfl (fun hP hD => ?_)
        refine lv_aload_n hx hb dX8_next_26 rfl (lv_at hl 0 rfl) ?_
        refine lv_iload_n hx hb dX8_next_27 rfl (lv_at hl 1 rfl) ?_
        have hKc := hK.sub (tys' := [(ka0_1, .int)]) [0] rfl
        refine va_calli (va_runV (As := [.int j5l1]) (rest := []) ⟨hx, hb, hml, hown, hts⟩ (f_X8_see l dC dI H.size a0 j5l1 a0g_0 a0g_2 (Value.int j5l1) (Value.int a0_5) (Value.int a0_6) (Value.int a0_7) (Value.int a0_8) a0g_9 a0g_10 a0g_11 (Value.ref a0_12) a0g_13 a0g_14 a0g_15 a0g_16 a0g_17 a0g_18 a0g_19 a0g_20 a0g_21 a0g_22 a0g_23 a0g_24 a0g_25 a0g_26 a0g_27 a0g_28 a0g_29 a0g_30 a0g_31 a0g_32 a0g_33 a0g_34 a0g_35 a0g_36 a0g_37 a0g_38 a0g_39 a0_1 a0_3 ka0_1 fa0_1 bj5l1_l bj5l1_u ba0_3_l ba0_3_u) (cwV 1 hts gX8_next_X8_see rfl rfl rfl zd_X8_see ⟨Nat.le_of_ble_eq_true rfl, Nat.le_of_ble_eq_true rfl⟩) ⟨ax_blind (fun _ _ _ _ _ => trivial), zr_8 hKc (zp_P2 hP) (q0 := 0) rfl, ax_pre (zp_P2 hP) hKc (zp_D2 hD) (fun _ _ => trivial)⟩ rfl rfl hl.1 rfl (lv_room (Nat.le_of_ble_eq_true rfl)) dX8_next_28 ⟨Nat.le_of_ble_eq_true rfl, Nat.le_of_ble_eq_true rfl⟩) hS (fun q _ h => zp_F2 hD hS hA q h) (zp_F2 hD hS hA) (fun r28 u t H locs ht hvm hw hB hz1 hk1 hS1 => zo2 hB ht hP hD hk1 (zp_F2 hD hS hA) hS1 (fun hP hK1 hD hS => ?_))
        obtain ⟨hw, hfr28⟩ := hw
        have hc28 : Ff_X8_see j5l1.toInt a0_3.toInt (fl_A fa0_1) = r28.toInt := hfr28.symm
        have hF0 := hF0.trans (fl_lt_eq hc28.symm)
        rcases hw with hw | hw
        · obtain ⟨hw, h28⟩ := hw
          subst hw
          have hF0 := hF0.trans (if_pos (show a0_3.toInt ≤ j5l1.toInt from h28))
          refine lv_istore_n (lv' := [(2, .int (-1)), (0, .ref a0), (1, .int j5l1)]) hx hb dX8_next_31 rfl hl (by decide) rfl (fun ls hl => ?_)
          refine lv_aload_n hx hb dX8_next_32 rfl (lv_at hl 1 rfl) ?_
          refine lv_iconst (v := 0) hx hb dX8_next_33 zk_iconst_0 ?_
          refine va_put (D := (dC, dI)) (ci := 8) (v := .int 0) (ty := .int) (C := RX8) (T := TX8) (N := 40) hx hb hts zi_X8_next_8 tyX8 tyX8_ok nmX8 hown hK hP hD hS 0 rfl rfl 8 (by decide) (hts (.fieldLink RX8 81 "WaxTurnsModel" "nameSize" "I") (List.mem_cons_of_mem _ (List.mem_append_left _ (List.mem_of_getElem? (i := 2) rfl)))) (fun _ h9 => h9) rfl (tyX8_ok 8 (by decide)) rfl rfl (Nat.le_of_ble_eq_true rfl) dX8_next_34 (fun H locs hP hD hS => ?_)
          refine zs_0 (y := (a0, .inr (8, [a0g_0, Value.ref a0_1, a0g_2, Value.int a0_3, Value.int j5l1, Value.int a0_5, Value.int a0_6, Value.int a0_7, Value.int 0, a0g_9, a0g_10, a0g_11, Value.ref a0_12, a0g_13, a0g_14, a0g_15, a0g_16, a0g_17, a0g_18, a0g_19, a0g_20, a0g_21, a0g_22, a0g_23, a0g_24, a0g_25, a0g_26, a0g_27, a0g_28, a0g_29, a0g_30, a0g_31, a0g_32, a0g_33, a0g_34, a0g_35, a0g_36, a0g_37, a0g_38, a0g_39]))) hP hD rfl (fun hP hD => ?_)
          refine lv_aload_n hx hb dX8_next_37 rfl (lv_at hl 1 rfl) ?_
          refine lv_iconst (v := 0) hx hb dX8_next_38 zk_iconst_0 ?_
          refine va_put (D := (dC, dI)) (ci := 8) (v := .int 0) (ty := .int) (C := RX8) (T := TX8) (N := 40) hx hb hts zi_X8_next_8 tyX8 tyX8_ok nmX8 hown hK hP hD hS 0 rfl rfl 7 (by decide) (hts (.fieldLink RX8 84 "WaxTurnsModel" "whole" "I") (List.mem_cons_of_mem _ (List.mem_append_left _ (List.mem_of_getElem? (i := 3) rfl)))) (fun _ h9 => h9) rfl (tyX8_ok 7 (by decide)) rfl rfl (Nat.le_of_ble_eq_true rfl) dX8_next_39 (fun H locs hP hD hS => ?_)
          refine zs_0 (y := (a0, .inr (8, [a0g_0, Value.ref a0_1, a0g_2, Value.int a0_3, Value.int j5l1, Value.int a0_5, Value.int a0_6, Value.int 0, Value.int 0, a0g_9, a0g_10, a0g_11, Value.ref a0_12, a0g_13, a0g_14, a0g_15, a0g_16, a0g_17, a0g_18, a0g_19, a0g_20, a0g_21, a0g_22, a0g_23, a0g_24, a0g_25, a0g_26, a0g_27, a0g_28, a0g_29, a0g_30, a0g_31, a0g_32, a0g_33, a0g_34, a0g_35, a0g_36, a0g_37, a0g_38, a0g_39]))) hP hD rfl (fun hP hD => ?_)
          refine lv_iload_n hx hb dX8_next_42 rfl (lv_at hl 0 rfl) ?_
          refine lv_iconst (v := (-1)) hx hb dX8_next_43 zk_iconst_n1 ?_
          refine lv_icmp_ne (tgt := 60) hx hb dX8_next_44 (by decide) (fun c44 => absurd (by decide +kernel) c44) (fun _ => ?_)
          refine lv_aload_n hx hb dX8_next_47 rfl (lv_at hl 1 rfl) ?_
          refine lv_iconst (v := 0) hx hb dX8_next_48 zk_iconst_0 ?_
          refine va_put (D := (dC, dI)) (ci := 8) (v := .int 0) (ty := .int) (C := RX8) (T := TX8) (N := 40) hx hb hts zi_X8_next_8 tyX8 tyX8_ok nmX8 hown hK hP hD hS 0 rfl rfl 6 (by decide) (hts (.fieldLink RX8 87 "WaxTurnsModel" "token" "I") (List.mem_cons_of_mem _ (List.mem_append_left _ (List.mem_of_getElem? (i := 4) rfl)))) (fun _ h9 => h9) rfl (tyX8_ok 6 (by decide)) rfl rfl (Nat.le_of_ble_eq_true rfl) dX8_next_49 (fun H locs hP hD hS => ?_)
          refine zs_0 (y := (a0, .inr (8, [a0g_0, Value.ref a0_1, a0g_2, Value.int a0_3, Value.int j5l1, Value.int a0_5, Value.int 0, Value.int 0, Value.int 0, a0g_9, a0g_10, a0g_11, Value.ref a0_12, a0g_13, a0g_14, a0g_15, a0g_16, a0g_17, a0g_18, a0g_19, a0g_20, a0g_21, a0g_22, a0g_23, a0g_24, a0g_25, a0g_26, a0g_27, a0g_28, a0g_29, a0g_30, a0g_31, a0g_32, a0g_33, a0g_34, a0g_35, a0g_36, a0g_37, a0g_38, a0g_39]))) hP hD rfl (fun hP hD => ?_)
          refine lv_aload_n hx hb dX8_next_52 rfl (lv_at hl 1 rfl) ?_
          refine lv_iload_n hx hb dX8_next_53 rfl (lv_at hl 2 rfl) ?_
          refine va_put (D := (dC, dI)) (ci := 8) (v := .int j5l1) (ty := .int) (C := RX8) (T := TX8) (N := 40) hx hb hts zi_X8_next_8 tyX8 tyX8_ok nmX8 hown hK hP hD hS 0 rfl rfl 5 (by decide) (hts (.fieldLink RX8 71 "WaxTurnsModel" "end" "I") (List.mem_cons_of_mem _ (List.mem_append_left _ (List.mem_of_getElem? (i := 0) rfl)))) (fun _ h9 => h9) rfl (tyX8_ok 5 (by decide)) rfl rfl (Nat.le_of_ble_eq_true rfl) dX8_next_54 (fun H locs hP hD hS => ?_)
          refine zs_0 (y := (a0, .inr (8, [a0g_0, Value.ref a0_1, a0g_2, Value.int a0_3, Value.int j5l1, Value.int j5l1, Value.int 0, Value.int 0, Value.int 0, a0g_9, a0g_10, a0g_11, Value.ref a0_12, a0g_13, a0g_14, a0g_15, a0g_16, a0g_17, a0g_18, a0g_19, a0g_20, a0g_21, a0g_22, a0g_23, a0g_24, a0g_25, a0g_26, a0g_27, a0g_28, a0g_29, a0g_30, a0g_31, a0g_32, a0g_33, a0g_34, a0g_35, a0g_36, a0g_37, a0g_38, a0g_39]))) hP hD rfl (fun hP hD => ?_)
          refine lv_goto (tgt := 241) hx hb dX8_next_57 (by decide) ?_
          have hFe : FX = (j5l1.toInt, j5l1.toInt, 0, 0, 0, (fl_A fa0_12)) := hF0
          exact W.vret hx hb hr (fun t ht hW => ⟨⟨(), rfl, trivial, j5l1, j5l1, 0, 0, 0, fa0_12, ⟨bj5l1_l, bj5l1_u⟩, ⟨zq5, Int.le_trans zq6 (by decide)⟩, (fun h9 => absurd h9 (by decide)), ⟨by omega, Or.inl (by decide)⟩, hFe, by rw [ht]; exact hP, va_K.moved hW.alike hK, hD⟩, hS.F ht⟩) hS.2.2 dX8_next_241
        · have h28 := hw
          have u28k1_j5l1 : j5l1.toInt ≤ (899 : Int) := by have h1 := h28; have h2 := ba0_3_u; omega
          have hF0 := hF0.trans (if_neg (show ¬ (a0_3.toInt ≤ j5l1.toInt) from Int.not_le.mpr h28))
          refine lv_istore_n (lv' := [(2, .int r28), (0, .ref a0), (1, .int j5l1)]) hx hb dX8_next_31 rfl hl (by decide) rfl (fun ls hl => ?_)
          refine lv_aload_n hx hb dX8_next_32 rfl (lv_at hl 1 rfl) ?_
          refine lv_iconst (v := 0) hx hb dX8_next_33 zk_iconst_0 ?_
          refine va_put (D := (dC, dI)) (ci := 8) (v := .int 0) (ty := .int) (C := RX8) (T := TX8) (N := 40) hx hb hts zi_X8_next_8 tyX8 tyX8_ok nmX8 hown hK hP hD hS 0 rfl rfl 8 (by decide) (hts (.fieldLink RX8 81 "WaxTurnsModel" "nameSize" "I") (List.mem_cons_of_mem _ (List.mem_append_left _ (List.mem_of_getElem? (i := 2) rfl)))) (fun _ h9 => h9) rfl (tyX8_ok 8 (by decide)) rfl rfl (Nat.le_of_ble_eq_true rfl) dX8_next_34 (fun H locs hP hD hS => ?_)
          refine zs_0 (y := (a0, .inr (8, [a0g_0, Value.ref a0_1, a0g_2, Value.int a0_3, Value.int j5l1, Value.int a0_5, Value.int a0_6, Value.int a0_7, Value.int 0, a0g_9, a0g_10, a0g_11, Value.ref a0_12, a0g_13, a0g_14, a0g_15, a0g_16, a0g_17, a0g_18, a0g_19, a0g_20, a0g_21, a0g_22, a0g_23, a0g_24, a0g_25, a0g_26, a0g_27, a0g_28, a0g_29, a0g_30, a0g_31, a0g_32, a0g_33, a0g_34, a0g_35, a0g_36, a0g_37, a0g_38, a0g_39]))) hP hD rfl (fun hP hD => ?_)
          refine lv_aload_n hx hb dX8_next_37 rfl (lv_at hl 1 rfl) ?_
          refine lv_iconst (v := 0) hx hb dX8_next_38 zk_iconst_0 ?_
          refine va_put (D := (dC, dI)) (ci := 8) (v := .int 0) (ty := .int) (C := RX8) (T := TX8) (N := 40) hx hb hts zi_X8_next_8 tyX8 tyX8_ok nmX8 hown hK hP hD hS 0 rfl rfl 7 (by decide) (hts (.fieldLink RX8 84 "WaxTurnsModel" "whole" "I") (List.mem_cons_of_mem _ (List.mem_append_left _ (List.mem_of_getElem? (i := 3) rfl)))) (fun _ h9 => h9) rfl (tyX8_ok 7 (by decide)) rfl rfl (Nat.le_of_ble_eq_true rfl) dX8_next_39 (fun H locs hP hD hS => ?_)
          refine zs_0 (y := (a0, .inr (8, [a0g_0, Value.ref a0_1, a0g_2, Value.int a0_3, Value.int j5l1, Value.int a0_5, Value.int a0_6, Value.int 0, Value.int 0, a0g_9, a0g_10, a0g_11, Value.ref a0_12, a0g_13, a0g_14, a0g_15, a0g_16, a0g_17, a0g_18, a0g_19, a0g_20, a0g_21, a0g_22, a0g_23, a0g_24, a0g_25, a0g_26, a0g_27, a0g_28, a0g_29, a0g_30, a0g_31, a0g_32, a0g_33, a0g_34, a0g_35, a0g_36, a0g_37, a0g_38, a0g_39]))) hP hD rfl (fun hP hD => ?_)
          refine lv_iload_n hx hb dX8_next_42 rfl (lv_at hl 0 rfl) ?_
          refine lv_iconst (v := (-1)) hx hb dX8_next_43 zk_iconst_n1 ?_
          refine lv_icmp_ne (tgt := 60) hx hb dX8_next_44 (by decide) (fun c44 => ?_) (fun c44 => ?_)
          · have gc44 := ai_ne c44
            have hF0 := hF0.trans (if_neg (show ¬ (r28.toInt = (-1)) from  gc44))
            refine lv_iload_n hx hb dX8_next_60 rfl (lv_at hl 0 rfl) ?_
            refine va_calli (va_runS (As := [.int r28]) (rest := []) ⟨hx, hb, hml, hown, hts⟩ (f_X8_isSmall l dC dI H.size r28 ) (va_cwS 1 hts gX8_next_X8_isSmall rfl rfl rfl zd_X8_isSmall.2 ⟨Nat.le_of_ble_eq_true rfl, Nat.le_of_ble_eq_true rfl⟩) ⟨ax_blind (fun _ _ _ _ _ => trivial), ax_pre (zp_P0 hP) (zp_K hK) (zp_D0 hD) (fun _ _ => trivial)⟩ rfl rfl hl.1 rfl (lv_room (Nat.le_of_ble_eq_true rfl)) dX8_next_61 ⟨Nat.le_of_ble_eq_true rfl, Nat.le_of_ble_eq_true rfl⟩) hS (fun q _ h => zp_F0 hD hS hA q h) (zp_F0 hD hS hA) (fun r61 u t H locs ht hvm hw hB hz1 hk1 hS1 => zo0 hB ht hP hD hk1 (zp_F0 hD hS hA) hS1 (fun hP hK1 hD hS => ?_))
            obtain ⟨hw, hfr61⟩ := hw
            have hc61 : Ff_X8_isSmall r28.toInt = r61.toInt := hfr61.symm
            have hF0 := hF0.trans (fl_lt_eq hc61.symm)
            rcases hw with hw | hw
            · obtain ⟨hw, h61_0, h61_1⟩ := hw
              subst hw
              have l61k0_r28 : (97 : Int) ≤ r28.toInt := h61_0
              have u61k0_r28 : r28.toInt ≤ (122 : Int) := h61_1
              have hF0 := hF0.trans (if_pos (by decide))
              refine lv_if_eq (tgt := 143) hx hb dX8_next_64 (by decide) (fun c64 => absurd c64 (by decide +kernel)) (fun _ => ?_)
              have J67 : ∀ (n : Nat) (j67l1 : Int32) (j67a0_8 : Int32) (j67a0_12_a : Nat → Int32) (H : Heap) (locs : List Loc) (ls : Array Slot), (901 : Int) - j67l1.toInt ≤ (n : Int) → (0 : Int) ≤ j67l1.toInt → j67l1.toInt ≤ (900 : Int) → (0 : Int) ≤ j67a0_8.toInt → j67a0_8.toInt ≤ (900 : Int) → (a0_5.toInt ≤ j67l1.toInt) → (j67a0_8.toInt ≤ j67l1.toInt) → (FX = fl_wh (fun t9 => Sf_X8_next_67_1 a0_3.toInt (fl_A fa0_1) j5l1.toInt t9.1 t9.2.1 t9.2.2) (0, 0, 0, 0, 0, (fun _ => 0)) n (j67l1.toInt, j67a0_8.toInt, (fl_A j67a0_12_a))) → va_P (dC, dI) vwCl [(a0, .inr (8, [a0g_0, Value.ref a0_1, a0g_2, Value.int a0_3, Value.int j5l1, Value.int a0_5, Value.int a0_6, Value.int 0, Value.int j67a0_8, a0g_9, a0g_10, a0g_11, Value.ref a0_12, a0g_13, a0g_14, a0g_15, a0g_16, a0g_17, a0g_18, a0g_19, a0g_20, a0g_21, a0g_22, a0g_23, a0g_24, a0g_25, a0g_26, a0g_27, a0g_28, a0g_29, a0g_30, a0g_31, a0g_32, a0g_33, a0g_34, a0g_35, a0g_36, a0g_37, a0g_38, a0g_39])), (a0_1, .inl (ka0_1, 900, .inl (fa0_1))), (a0_12, .inl (ka0_12, 8, .inl (j67a0_12_a)))] H → va_D A [(a0, .inr (8, [a0g_0, Value.ref a0_1, a0g_2, Value.int a0_3, Value.int j5l1, Value.int a0_5, Value.int a0_6, Value.int 0, Value.int j67a0_8, a0g_9, a0g_10, a0g_11, Value.ref a0_12, a0g_13, a0g_14, a0g_15, a0g_16, a0g_17, a0g_18, a0g_19, a0g_20, a0g_21, a0g_22, a0g_23, a0g_24, a0g_25, a0g_26, a0g_27, a0g_28, a0g_29, a0g_30, a0g_31, a0g_32, a0g_33, a0g_34, a0g_35, a0g_36, a0g_37, a0g_38, a0g_39])), (a0_1, .inl (ka0_1, 900, .inl (fa0_1))), (a0_12, .inl (ka0_12, 8, .inl (j67a0_12_a)))] → va_S A s.heap H locs → lv_has ls 4 [(0, .ref a0), (1, .int j67l1)] → K H locs (F0 m 67 ls []) := by
                intro n
                induction n with
                | zero =>
                  intro j67l1 j67a0_8 j67a0_12_a H locs ls hm bj67l1_l bj67l1_u bj67a0_8_l bj67a0_8_u ke67 nk67 hF0 hP hD hS hl
                  first | exact zg_0 hm bj67l1_u (by decide) | (have h8 := ai_min j67l1; have h9 := ai_max j67l1; exact absurd hm (by omega))
                | succ n ih67 =>
                  intro j67l1 j67a0_8 j67a0_12_a H locs ls hm bj67l1_l bj67l1_u bj67a0_8_l bj67a0_8_u ke67 nk67 hF0 hP hD hS hl
                  refine (hK0 _ _ _).mpr ?_
                  have hm67 := hm
                  obtain ⟨SX67, hSX67⟩ : ∃ q9, Sf_X8_next_67_1 a0_3.toInt (fl_A fa0_1) j5l1.toInt j67l1.toInt j67a0_8.toInt (fl_A j67a0_12_a) = q9 := ⟨_, rfl⟩
                  have hF1 := hSX67.symm.trans (Sf_X8_next_67_1.eq_1 a0_3.toInt (fl_A fa0_1) j5l1.toInt j67l1.toInt j67a0_8.toInt (fl_A j67a0_12_a))
                  refine lv_aload_n hx hb dX8_next_67 rfl (lv_at hl 0 rfl) ?_
                  refine lv_iload_n hx hb dX8_next_68 rfl (lv_at hl 1 rfl) ?_
                  have hKc := hK.sub (tys' := [(ka0_1, .int)]) [0] rfl
                  refine va_calli (va_runV (As := [.int j67l1]) (rest := []) ⟨hx, hb, hml, hown, hts⟩ (f_X8_see l dC dI H.size a0 j67l1 a0g_0 a0g_2 (Value.int j5l1) (Value.int a0_5) (Value.int a0_6) (Value.int 0) (Value.int j67a0_8) a0g_9 a0g_10 a0g_11 (Value.ref a0_12) a0g_13 a0g_14 a0g_15 a0g_16 a0g_17 a0g_18 a0g_19 a0g_20 a0g_21 a0g_22 a0g_23 a0g_24 a0g_25 a0g_26 a0g_27 a0g_28 a0g_29 a0g_30 a0g_31 a0g_32 a0g_33 a0g_34 a0g_35 a0g_36 a0g_37 a0g_38 a0g_39 a0_1 a0_3 ka0_1 fa0_1 bj67l1_l bj67l1_u ba0_3_l ba0_3_u) (cwV 1 hts gX8_next_X8_see rfl rfl rfl zd_X8_see ⟨Nat.le_of_ble_eq_true rfl, Nat.le_of_ble_eq_true rfl⟩) ⟨ax_blind (fun _ _ _ _ _ => trivial), zr_8 hKc (zp_P2 hP) (q0 := 0) rfl, ax_pre (zp_P2 hP) hKc (zp_D2 hD) (fun _ _ => trivial)⟩ rfl rfl hl.1 rfl (lv_room (Nat.le_of_ble_eq_true rfl)) dX8_next_69 ⟨Nat.le_of_ble_eq_true rfl, Nat.le_of_ble_eq_true rfl⟩) hS (fun q _ h => zp_F2 hD hS hA q h) (zp_F2 hD hS hA) (fun r69 u t H locs ht hvm hw hB hz1 hk1 hS1 => zo2 hB ht hP hD hk1 (zp_F2 hD hS hA) hS1 (fun hP hK1 hD hS => ?_))
                  obtain ⟨hw, hfr69⟩ := hw
                  have hc69 : Ff_X8_see j67l1.toInt a0_3.toInt (fl_A fa0_1) = r69.toInt := hfr69.symm
                  have hF1 := hF1.trans (fl_lt_eq hc69.symm)
                  rcases hw with hw | hw
                  · obtain ⟨hw, h69⟩ := hw
                    subst hw
                    have hF1 := hF1.trans (if_pos (show a0_3.toInt ≤ j67l1.toInt from h69))
                    refine va_calli (va_runS (As := [.int (-1)]) (rest := []) ⟨hx, hb, hml, hown, hts⟩ (f_X8_isSmall l dC dI H.size (-1) ) (va_cwS 1 hts gX8_next_X8_isSmall rfl rfl rfl zd_X8_isSmall.2 ⟨Nat.le_of_ble_eq_true rfl, Nat.le_of_ble_eq_true rfl⟩) ⟨ax_blind (fun _ _ _ _ _ => trivial), ax_pre (zp_P0 hP) (zp_K hK) (zp_D0 hD) (fun _ _ => trivial)⟩ rfl rfl hl.1 rfl (lv_room (Nat.le_of_ble_eq_true rfl)) dX8_next_72 ⟨Nat.le_of_ble_eq_true rfl, Nat.le_of_ble_eq_true rfl⟩) hS (fun q _ h => zp_F0 hD hS hA q h) (zp_F0 hD hS hA) (fun r72 u t H locs ht hvm hw hB hz1 hk1 hS1 => zo0 hB ht hP hD hk1 (zp_F0 hD hS hA) hS1 (fun hP hK1 hD hS => ?_))
                    obtain ⟨hw, hfr72⟩ := hw
                    rw [show ((-1) : Int32).toInt = (-1) from by decide] at hfr72
                    have hc72 : Ff_X8_isSmall (-1) = r72.toInt := hfr72.symm
                    have hF1 := hF1.trans (fl_lt_eq hc72.symm)
                    rcases hw with hw | hw
                    · obtain ⟨hw, h72_0, h72_1⟩ := hw
                      subst hw
                      exact absurd h72_0 (by decide)
                    · subst hw
                      have hF1 := hF1.trans (if_neg (by decide))
                      refine lv_if_eq (tgt := 117) hx hb dX8_next_75 (by decide) (fun _ => ?_) (fun c75 => absurd (by decide +kernel) c75)
                      have hF0 := hF0.trans (fl_wh_r (hSX67.trans hF1))
                      refine lv_aload_n hx hb dX8_next_117 rfl (lv_at hl 0 rfl) ?_
                      refine lv_iload_n hx hb dX8_next_118 rfl (lv_at hl 1 rfl) ?_
                      refine va_put (D := (dC, dI)) (ci := 8) (v := .int j67l1) (ty := .int) (C := RX8) (T := TX8) (N := 40) hx hb hts zi_X8_next_8 tyX8 tyX8_ok nmX8 hown hK hP hD hS 0 rfl rfl 5 (by decide) (hts (.fieldLink RX8 71 "WaxTurnsModel" "end" "I") (List.mem_cons_of_mem _ (List.mem_append_left _ (List.mem_of_getElem? (i := 0) rfl)))) (fun _ h9 => h9) rfl (tyX8_ok 5 (by decide)) rfl rfl (Nat.le_of_ble_eq_true rfl) dX8_next_119 (fun H locs hP hD hS => ?_)
                      refine zs_0 (y := (a0, .inr (8, [a0g_0, Value.ref a0_1, a0g_2, Value.int a0_3, Value.int j5l1, Value.int j67l1, Value.int a0_6, Value.int 0, Value.int j67a0_8, a0g_9, a0g_10, a0g_11, Value.ref a0_12, a0g_13, a0g_14, a0g_15, a0g_16, a0g_17, a0g_18, a0g_19, a0g_20, a0g_21, a0g_22, a0g_23, a0g_24, a0g_25, a0g_26, a0g_27, a0g_28, a0g_29, a0g_30, a0g_31, a0g_32, a0g_33, a0g_34, a0g_35, a0g_36, a0g_37, a0g_38, a0g_39]))) hP hD rfl (fun hP hD => ?_)
                      refine lv_aload_n hx hb dX8_next_122 rfl (lv_at hl 0 rfl) ?_
                      refine lv_aload_n hx hb dX8_next_123 rfl (lv_at hl 0 rfl) ?_
                      refine va_get (D := (dC, dI)) (ci := 8) (v := .int j67a0_8) (C := RX8) (T := TX8) (N := 40) hx hb hts zi_X8_next_8 hown hK hP 0 rfl rfl 8 (by decide) (hts (.fieldLink RX8 81 "WaxTurnsModel" "nameSize" "I") (List.mem_cons_of_mem _ (List.mem_append_left _ (List.mem_of_getElem? (i := 2) rfl)))) (fun _ h9 => h9) rfl dX8_next_124 ?_
                      refine lv_bipush (v := 8) hx hb dX8_next_127 zk_bipush_8 ?_
                      refine lv_icmp_le (tgt := 136) hx hb dX8_next_129 (by decide) (fun c129 => ?_) (fun c129 => ?_)
                      · have gc129 := ai_le c129
                        have u129t_j67a0_8 : j67a0_8.toInt ≤ (8 : Int) := Int.le_trans gc129 zq28
                        have hF0 := hF0.trans (if_pos (show j67a0_8.toInt ≤ 8 from gc129))
                        refine lv_iconst (v := 2) hx hb dX8_next_136 zk_iconst_2 ?_
                        refine va_put (D := (dC, dI)) (ci := 8) (v := .int 2) (ty := .int) (C := RX8) (T := TX8) (N := 40) hx hb hts zi_X8_next_8 tyX8 tyX8_ok nmX8 hown hK hP hD hS 0 rfl rfl 6 (by decide) (hts (.fieldLink RX8 87 "WaxTurnsModel" "token" "I") (List.mem_cons_of_mem _ (List.mem_append_left _ (List.mem_of_getElem? (i := 4) rfl)))) (fun _ h9 => h9) rfl (tyX8_ok 6 (by decide)) rfl rfl (Nat.le_of_ble_eq_true rfl) dX8_next_137 (fun H locs hP hD hS => ?_)
                        refine zs_0 (y := (a0, .inr (8, [a0g_0, Value.ref a0_1, a0g_2, Value.int a0_3, Value.int j5l1, Value.int j67l1, Value.int 2, Value.int 0, Value.int j67a0_8, a0g_9, a0g_10, a0g_11, Value.ref a0_12, a0g_13, a0g_14, a0g_15, a0g_16, a0g_17, a0g_18, a0g_19, a0g_20, a0g_21, a0g_22, a0g_23, a0g_24, a0g_25, a0g_26, a0g_27, a0g_28, a0g_29, a0g_30, a0g_31, a0g_32, a0g_33, a0g_34, a0g_35, a0g_36, a0g_37, a0g_38, a0g_39]))) hP hD rfl (fun hP hD => ?_)
                        refine lv_goto (tgt := 241) hx hb dX8_next_140 (by decide) ?_
                        have hFe : FX = (j5l1.toInt, j67l1.toInt, 2, 0, j67a0_8.toInt, (fl_A j67a0_12_a)) := hF0
                        exact W.vret hx hb hr (fun t ht hW => ⟨⟨(), rfl, trivial, j5l1, j67l1, 2, 0, j67a0_8, j67a0_12_a, ⟨bj67l1_l, bj67l1_u⟩, ⟨bj67a0_8_l, Int.le_trans u129t_j67a0_8 (by decide)⟩, (fun _ => u129t_j67a0_8), ⟨by omega, Or.inl (by decide)⟩, hFe, by rw [ht]; exact hP, va_K.moved hW.alike hK, hD⟩, hS.F ht⟩) hS.2.2 dX8_next_241
                      · have gc129 := ai_nle c129
                        have l129f_j67a0_8 : (9 : Int) ≤ j67a0_8.toInt := ai_ltlo gc129 zq116
                        have hF0 := hF0.trans (if_neg (show ¬ (j67a0_8.toInt ≤ 8) from Int.not_le.mpr gc129))
                        refine lv_iconst (v := 1) hx hb dX8_next_132 zk_iconst_1 ?_
                        refine lv_goto (tgt := 137) hx hb dX8_next_133 (by decide) ?_
                        refine va_put (D := (dC, dI)) (ci := 8) (v := .int 1) (ty := .int) (C := RX8) (T := TX8) (N := 40) hx hb hts zi_X8_next_8 tyX8 tyX8_ok nmX8 hown hK hP hD hS 0 rfl rfl 6 (by decide) (hts (.fieldLink RX8 87 "WaxTurnsModel" "token" "I") (List.mem_cons_of_mem _ (List.mem_append_left _ (List.mem_of_getElem? (i := 4) rfl)))) (fun _ h9 => h9) rfl (tyX8_ok 6 (by decide)) rfl rfl (Nat.le_of_ble_eq_true rfl) dX8_next_137 (fun H locs hP hD hS => ?_)
                        refine zs_0 (y := (a0, .inr (8, [a0g_0, Value.ref a0_1, a0g_2, Value.int a0_3, Value.int j5l1, Value.int j67l1, Value.int 1, Value.int 0, Value.int j67a0_8, a0g_9, a0g_10, a0g_11, Value.ref a0_12, a0g_13, a0g_14, a0g_15, a0g_16, a0g_17, a0g_18, a0g_19, a0g_20, a0g_21, a0g_22, a0g_23, a0g_24, a0g_25, a0g_26, a0g_27, a0g_28, a0g_29, a0g_30, a0g_31, a0g_32, a0g_33, a0g_34, a0g_35, a0g_36, a0g_37, a0g_38, a0g_39]))) hP hD rfl (fun hP hD => ?_)
                        refine lv_goto (tgt := 241) hx hb dX8_next_140 (by decide) ?_
                        have hFe : FX = (j5l1.toInt, j67l1.toInt, 1, 0, j67a0_8.toInt, (fl_A j67a0_12_a)) := hF0
                        exact W.vret hx hb hr (fun t ht hW => ⟨⟨(), rfl, trivial, j5l1, j67l1, 1, 0, j67a0_8, j67a0_12_a, ⟨bj67l1_l, bj67l1_u⟩, ⟨Int.le_trans (by decide) l129f_j67a0_8, bj67a0_8_u⟩, (fun h9 => absurd h9 (by decide)), ⟨by omega, Or.inl (by decide)⟩, hFe, by rw [ht]; exact hP, va_K.moved hW.alike hK, hD⟩, hS.F ht⟩) hS.2.2 dX8_next_241
                  · have h69 := hw
                    have u69k1_j67l1 : j67l1.toInt ≤ (899 : Int) := by have h1 := h69; have h2 := ba0_3_u; omega
                    have hF1 := hF1.trans (if_neg (show ¬ (a0_3.toInt ≤ j67l1.toInt) from Int.not_le.mpr h69))
                    refine va_calli (va_runS (As := [.int r69]) (rest := []) ⟨hx, hb, hml, hown, hts⟩ (f_X8_isSmall l dC dI H.size r69 ) (va_cwS 1 hts gX8_next_X8_isSmall rfl rfl rfl zd_X8_isSmall.2 ⟨Nat.le_of_ble_eq_true rfl, Nat.le_of_ble_eq_true rfl⟩) ⟨ax_blind (fun _ _ _ _ _ => trivial), ax_pre (zp_P0 hP) (zp_K hK) (zp_D0 hD) (fun _ _ => trivial)⟩ rfl rfl hl.1 rfl (lv_room (Nat.le_of_ble_eq_true rfl)) dX8_next_72 ⟨Nat.le_of_ble_eq_true rfl, Nat.le_of_ble_eq_true rfl⟩) hS (fun q _ h => zp_F0 hD hS hA q h) (zp_F0 hD hS hA) (fun r72 u t H locs ht hvm hw hB hz1 hk1 hS1 => zo0 hB ht hP hD hk1 (zp_F0 hD hS hA) hS1 (fun hP hK1 hD hS => ?_))
                    obtain ⟨hw, hfr72⟩ := hw
                    have hc72 : Ff_X8_isSmall r69.toInt = r72.toInt := hfr72.symm
                    have hF1 := hF1.trans (fl_lt_eq hc72.symm)
                    rcases hw with hw | hw
                    · obtain ⟨hw, h72_0, h72_1⟩ := hw
                      subst hw
                      have l72k0_r69 : (97 : Int) ≤ r69.toInt := h72_0
                      have u72k0_r69 : r69.toInt ≤ (122 : Int) := h72_1
                      have hF1 := hF1.trans (if_pos (by decide))
                      refine lv_if_eq (tgt := 117) hx hb dX8_next_75 (by decide) (fun c75 => absurd c75 (by decide +kernel)) (fun _ => ?_)
                      refine lv_aload_n hx hb dX8_next_78 rfl (lv_at hl 0 rfl) ?_
                      refine va_get (D := (dC, dI)) (ci := 8) (v := .int j67a0_8) (C := RX8) (T := TX8) (N := 40) hx hb hts zi_X8_next_8 hown hK hP 0 rfl rfl 8 (by decide) (hts (.fieldLink RX8 81 "WaxTurnsModel" "nameSize" "I") (List.mem_cons_of_mem _ (List.mem_append_left _ (List.mem_of_getElem? (i := 2) rfl)))) (fun _ h9 => h9) rfl dX8_next_79 ?_
                      refine lv_bipush (v := 8) hx hb dX8_next_82 zk_bipush_8 ?_
                      have J101 : ∀ (j101a0_12_a : Nat → Int32) (H : Heap) (locs : List Loc) (ls : Array Slot), (SX67 = Gf_X8_next_101_1 j67l1.toInt j67a0_8.toInt (fl_A j101a0_12_a)) → va_P (dC, dI) vwCl [(a0, .inr (8, [a0g_0, Value.ref a0_1, a0g_2, Value.int a0_3, Value.int j5l1, Value.int a0_5, Value.int a0_6, Value.int 0, Value.int j67a0_8, a0g_9, a0g_10, a0g_11, Value.ref a0_12, a0g_13, a0g_14, a0g_15, a0g_16, a0g_17, a0g_18, a0g_19, a0g_20, a0g_21, a0g_22, a0g_23, a0g_24, a0g_25, a0g_26, a0g_27, a0g_28, a0g_29, a0g_30, a0g_31, a0g_32, a0g_33, a0g_34, a0g_35, a0g_36, a0g_37, a0g_38, a0g_39])), (a0_1, .inl (ka0_1, 900, .inl (fa0_1))), (a0_12, .inl (ka0_12, 8, .inl (j101a0_12_a)))] H → va_D A [(a0, .inr (8, [a0g_0, Value.ref a0_1, a0g_2, Value.int a0_3, Value.int j5l1, Value.int a0_5, Value.int a0_6, Value.int 0, Value.int j67a0_8, a0g_9, a0g_10, a0g_11, Value.ref a0_12, a0g_13, a0g_14, a0g_15, a0g_16, a0g_17, a0g_18, a0g_19, a0g_20, a0g_21, a0g_22, a0g_23, a0g_24, a0g_25, a0g_26, a0g_27, a0g_28, a0g_29, a0g_30, a0g_31, a0g_32, a0g_33, a0g_34, a0g_35, a0g_36, a0g_37, a0g_38, a0g_39])), (a0_1, .inl (ka0_1, 900, .inl (fa0_1))), (a0_12, .inl (ka0_12, 8, .inl (j101a0_12_a)))] → va_S A s.heap H locs → lv_has ls 4 [(0, .ref a0), (1, .int j67l1)] → K H locs (F0 m 101 ls []) := by
                        intro j101a0_12_a H locs ls  hF1 hP hD hS hl
                        refine (hK0 _ _ _).mpr ?_
                        have hF1 := hF1.trans (Gf_X8_next_101_1.eq_1 j67l1.toInt j67a0_8.toInt (fl_A j101a0_12_a))
                        refine lv_aload_n hx hb dX8_next_101 rfl (lv_at hl 0 rfl) ?_
                        refine lv_dup hx hb dX8_next_102 rfl ?_
                        refine va_get (D := (dC, dI)) (ci := 8) (v := .int j67a0_8) (C := RX8) (T := TX8) (N := 40) hx hb hts zi_X8_next_8 hown hK hP 0 rfl rfl 8 (by decide) (hts (.fieldLink RX8 81 "WaxTurnsModel" "nameSize" "I") (List.mem_cons_of_mem _ (List.mem_append_left _ (List.mem_of_getElem? (i := 2) rfl)))) (fun _ h9 => h9) rfl dX8_next_103 ?_
                        have u103z_j67a0_8 : j67a0_8.toInt ≤ (899 : Int) := by omega
                        refine lv_iconst (v := 1) hx hb dX8_next_106 zk_iconst_1 ?_
                        refine lv_iadd hx hb dX8_next_107 ?_
                        refine lv_topi (fun x107 ex107 => ?_)
                        have qx107 : x107.toInt = j67a0_8.toInt + (1 : Int32).toInt := ai_add ex107 ⟨bj67a0_8_l, u103z_j67a0_8⟩ ⟨zq1, zq0⟩ (by decide) (by decide)
                        have bx107 : (1 : Int) ≤ x107.toInt ∧ x107.toInt ≤ 900 := ⟨by rw [qx107]; exact Int.add_le_add bj67a0_8_l zq1, by rw [qx107]; exact Int.add_le_add u103z_j67a0_8 zq0⟩
                        have wx107 : x107.toInt = j67a0_8.toInt + 1 := qx107
                        have hF1 := hF1.trans (fl_lt_eq (show x107.toInt = j67a0_8.toInt + 1 from qx107))
                        refine va_put (D := (dC, dI)) (ci := 8) (v := .int x107) (ty := .int) (C := RX8) (T := TX8) (N := 40) hx hb hts zi_X8_next_8 tyX8 tyX8_ok nmX8 hown hK hP hD hS 0 rfl rfl 8 (by decide) (hts (.fieldLink RX8 81 "WaxTurnsModel" "nameSize" "I") (List.mem_cons_of_mem _ (List.mem_append_left _ (List.mem_of_getElem? (i := 2) rfl)))) (fun _ h9 => h9) rfl (tyX8_ok 8 (by decide)) rfl rfl (Nat.le_of_ble_eq_true rfl) dX8_next_108 (fun H locs hP hD hS => ?_)
                        refine zs_0 (y := (a0, .inr (8, [a0g_0, Value.ref a0_1, a0g_2, Value.int a0_3, Value.int j5l1, Value.int a0_5, Value.int a0_6, Value.int 0, Value.int x107, a0g_9, a0g_10, a0g_11, Value.ref a0_12, a0g_13, a0g_14, a0g_15, a0g_16, a0g_17, a0g_18, a0g_19, a0g_20, a0g_21, a0g_22, a0g_23, a0g_24, a0g_25, a0g_26, a0g_27, a0g_28, a0g_29, a0g_30, a0g_31, a0g_32, a0g_33, a0g_34, a0g_35, a0g_36, a0g_37, a0g_38, a0g_39]))) hP hD rfl (fun hP hD => ?_)
                        obtain ⟨x111, ex111⟩ : ∃ y : Int32, y = j67l1 + Int32.ofInt 1 := ⟨_, rfl⟩
                        have qx111 : x111.toInt = j67l1.toInt + 1 := ai_inc ex111 (by decide) (by decide) u69k1_j67l1 (by decide)
                        have bx111 : (1 : Int) ≤ x111.toInt ∧ x111.toInt ≤ 900 := ⟨by rw [qx111]; exact Int.add_le_add bj67l1_l (Int.le_refl _), by rw [qx111]; exact Int.add_le_add u69k1_j67l1 (Int.le_refl _)⟩
                        refine lv_iinc (v := x111) (lv' := [(1, .int x111), (0, .ref a0)]) hx hb dX8_next_111 hl (k := 1) rfl ex111.symm (by decide) rfl (fun ls hl => ?_)
                        have hF1 := hF1.trans (fl_lt_eq (show x111.toInt = j67l1.toInt + 1 from qx111))
                        refine lv_goto (tgt := 67) hx hb dX8_next_114 (by decide) ?_
                        exact (hK0 _ _ _).mp (ih67 x111 x107 j101a0_12_a _ _ _ (by first | exact zg_s hm67 qx111 | (have h0 := qx111; omega)) (Int.le_trans zq4 bx111.1) bx111.2 (Int.le_trans zq4 bx107.1) bx107.2 (by omega) (by omega) (hF0.trans (fl_wh_l (hSX67.trans hF1))) hP hD hS (lv_sub hl [1, 0] rfl))
                      refine lv_icmp_ge (tgt := 101) hx hb dX8_next_84 (by decide) (fun c84 => ?_) (fun c84 => ?_)
                      · have gc84 := ai_le c84
                        have l84t_j67a0_8 : (8 : Int) ≤ j67a0_8.toInt := Int.le_trans zq116 gc84
                        have hF1 := hF1.trans (if_pos (show 8 ≤ j67a0_8.toInt from gc84))
                        exact (hK0 _ _ _).mp (J101 j67a0_12_a _ _ _   hF1 hP hD hS (lv_sub hl [0, 1] rfl))
                      · have gc84 := ai_nle c84
                        have u84f_j67a0_8 : j67a0_8.toInt ≤ (7 : Int) := ai_lthi gc84 zq28
                        have hF1 := hF1.trans (if_neg (show ¬ (8 ≤ j67a0_8.toInt) from Int.not_le.mpr gc84))
                        refine lv_aload_n hx hb dX8_next_87 rfl (lv_at hl 0 rfl) ?_
                        refine va_get (D := (dC, dI)) (ci := 8) (v := .ref a0_12) (C := RX8) (T := TX8) (N := 40) hx hb hts zi_X8_next_8 hown hK hP 0 rfl rfl 12 (by decide) (hts (.fieldLink RX8 17 "WaxTurnsModel" "letters" "[I") (List.mem_cons_of_mem _ (List.mem_append_left _ (List.mem_of_getElem? (i := 5) rfl)))) (fun _ h9 => h9) rfl dX8_next_88 ?_
                        refine lv_aload_n hx hb dX8_next_91 rfl (lv_at hl 0 rfl) ?_
                        refine va_get (D := (dC, dI)) (ci := 8) (v := .int j67a0_8) (C := RX8) (T := TX8) (N := 40) hx hb hts zi_X8_next_8 hown hK hP 0 rfl rfl 8 (by decide) (hts (.fieldLink RX8 81 "WaxTurnsModel" "nameSize" "I") (List.mem_cons_of_mem _ (List.mem_append_left _ (List.mem_of_getElem? (i := 2) rfl)))) (fun _ h9 => h9) rfl dX8_next_92 ?_
                        refine lv_aload_n hx hb dX8_next_95 rfl (lv_at hl 0 rfl) ?_
                        refine lv_iload_n hx hb dX8_next_96 rfl (lv_at hl 1 rfl) ?_
                        have hKc := hK.sub (tys' := [(ka0_1, .int)]) [0] rfl
                        refine va_calli (va_runV (As := [.int j67l1]) (rest := [.int j67a0_8, .ref a0_12]) ⟨hx, hb, hml, hown, hts⟩ (f_X8_see l dC dI H.size a0 j67l1 a0g_0 a0g_2 (Value.int j5l1) (Value.int a0_5) (Value.int a0_6) (Value.int 0) (Value.int j67a0_8) a0g_9 a0g_10 a0g_11 (Value.ref a0_12) a0g_13 a0g_14 a0g_15 a0g_16 a0g_17 a0g_18 a0g_19 a0g_20 a0g_21 a0g_22 a0g_23 a0g_24 a0g_25 a0g_26 a0g_27 a0g_28 a0g_29 a0g_30 a0g_31 a0g_32 a0g_33 a0g_34 a0g_35 a0g_36 a0g_37 a0g_38 a0g_39 a0_1 a0_3 ka0_1 fa0_1 bj67l1_l (Int.le_trans u69k1_j67l1 zq145) ba0_3_l ba0_3_u) (cwV 1 hts gX8_next_X8_see rfl rfl rfl zd_X8_see ⟨Nat.le_of_ble_eq_true rfl, Nat.le_of_ble_eq_true rfl⟩) ⟨ax_blind (fun _ _ _ _ _ => trivial), zr_8 hKc (zp_P2 hP) (q0 := 0) rfl, ax_pre (zp_P2 hP) hKc (zp_D2 hD) (fun _ _ => trivial)⟩ rfl rfl hl.1 rfl (lv_room (Nat.le_of_ble_eq_true rfl)) dX8_next_97 ⟨Nat.le_of_ble_eq_true rfl, Nat.le_of_ble_eq_true rfl⟩) hS (fun q _ h => zp_F2 hD hS hA q h) (zp_F2 hD hS hA) (fun r97 u t H locs ht hvm hw hB hz1 hk1 hS1 => zo2 hB ht hP hD hk1 (zp_F2 hD hS hA) hS1 (fun hP hK1 hD hS => ?_))
                        obtain ⟨hw, hfr97⟩ := hw
                        have hc97 : Ff_X8_see j67l1.toInt a0_3.toInt (fl_A fa0_1) = r97.toInt := hfr97.symm
                        have hF1 := hF1.trans (fl_lt_eq hc97.symm)
                        rcases hw with hw | hw
                        · obtain ⟨hw, h97⟩ := hw
                          subst hw
                          have hF1 := hF1.trans (if_pos (show a0_3.toInt ≤ j67l1.toInt from h97))
                          refine va_iast hx hb hK hP hD hS 2 1 rfl rfl (ai_in bj67a0_8_l u84f_j67a0_8 (by decide) (by decide)) dX8_next_100 (fun H locs hP hD hS => ?_)
                          obtain ⟨f100, ef100⟩ : ∃ g9 : Nat → Int32, g9 = upd j67a0_12_a (j67a0_8 : Int32).toNatClampNeg ((-1) : Int32) := ⟨_, rfl⟩
                          refine zs_2 (y := (a0_12, .inl (ka0_12, 8, .inl (f100)))) hP hD (by rw [ef100]) (fun hP hD => ?_)
                          have fqf100 := fl_up_eq ef100
                          have hF1 := hF1.trans (fl_lt_eq (show (fl_A f100) = fl_up (fl_A j67a0_12_a) (j67a0_8.toInt.toNat) (-1) from fqf100))
                          exact (hK0 _ _ _).mp (J101 f100 _ _ _   hF1 hP hD hS (lv_sub hl [0, 1] rfl))
                        · have h97 := hw
                          have u97k1_j67l1 : j67l1.toInt ≤ (899 : Int) := u69k1_j67l1
                          have hF1 := hF1.trans (if_neg (show ¬ (a0_3.toInt ≤ j67l1.toInt) from Int.not_le.mpr h97))
                          refine va_iast hx hb hK hP hD hS 2 1 rfl rfl (ai_in bj67a0_8_l u84f_j67a0_8 (by decide) (by decide)) dX8_next_100 (fun H locs hP hD hS => ?_)
                          obtain ⟨f100, ef100⟩ : ∃ g9 : Nat → Int32, g9 = upd j67a0_12_a (j67a0_8 : Int32).toNatClampNeg r97 := ⟨_, rfl⟩
                          refine zs_2 (y := (a0_12, .inl (ka0_12, 8, .inl (f100)))) hP hD (by rw [ef100]) (fun hP hD => ?_)
                          have fqf100 := fl_up_eq ef100
                          have hF1 := hF1.trans (fl_lt_eq (show (fl_A f100) = fl_up (fl_A j67a0_12_a) (j67a0_8.toInt.toNat) r97.toInt from fqf100))
                          exact (hK0 _ _ _).mp (J101 f100 _ _ _   hF1 hP hD hS (lv_sub hl [0, 1] rfl))
                    · subst hw
                      have hF1 := hF1.trans (if_neg (by decide))
                      refine lv_if_eq (tgt := 117) hx hb dX8_next_75 (by decide) (fun _ => ?_) (fun c75 => absurd (by decide +kernel) c75)
                      have hF0 := hF0.trans (fl_wh_r (hSX67.trans hF1))
                      refine lv_aload_n hx hb dX8_next_117 rfl (lv_at hl 0 rfl) ?_
                      refine lv_iload_n hx hb dX8_next_118 rfl (lv_at hl 1 rfl) ?_
                      refine va_put (D := (dC, dI)) (ci := 8) (v := .int j67l1) (ty := .int) (C := RX8) (T := TX8) (N := 40) hx hb hts zi_X8_next_8 tyX8 tyX8_ok nmX8 hown hK hP hD hS 0 rfl rfl 5 (by decide) (hts (.fieldLink RX8 71 "WaxTurnsModel" "end" "I") (List.mem_cons_of_mem _ (List.mem_append_left _ (List.mem_of_getElem? (i := 0) rfl)))) (fun _ h9 => h9) rfl (tyX8_ok 5 (by decide)) rfl rfl (Nat.le_of_ble_eq_true rfl) dX8_next_119 (fun H locs hP hD hS => ?_)
                      refine zs_0 (y := (a0, .inr (8, [a0g_0, Value.ref a0_1, a0g_2, Value.int a0_3, Value.int j5l1, Value.int j67l1, Value.int a0_6, Value.int 0, Value.int j67a0_8, a0g_9, a0g_10, a0g_11, Value.ref a0_12, a0g_13, a0g_14, a0g_15, a0g_16, a0g_17, a0g_18, a0g_19, a0g_20, a0g_21, a0g_22, a0g_23, a0g_24, a0g_25, a0g_26, a0g_27, a0g_28, a0g_29, a0g_30, a0g_31, a0g_32, a0g_33, a0g_34, a0g_35, a0g_36, a0g_37, a0g_38, a0g_39]))) hP hD rfl (fun hP hD => ?_)
                      refine lv_aload_n hx hb dX8_next_122 rfl (lv_at hl 0 rfl) ?_
                      refine lv_aload_n hx hb dX8_next_123 rfl (lv_at hl 0 rfl) ?_
                      refine va_get (D := (dC, dI)) (ci := 8) (v := .int j67a0_8) (C := RX8) (T := TX8) (N := 40) hx hb hts zi_X8_next_8 hown hK hP 0 rfl rfl 8 (by decide) (hts (.fieldLink RX8 81 "WaxTurnsModel" "nameSize" "I") (List.mem_cons_of_mem _ (List.mem_append_left _ (List.mem_of_getElem? (i := 2) rfl)))) (fun _ h9 => h9) rfl dX8_next_124 ?_
                      refine lv_bipush (v := 8) hx hb dX8_next_127 zk_bipush_8 ?_
                      refine lv_icmp_le (tgt := 136) hx hb dX8_next_129 (by decide) (fun c129 => ?_) (fun c129 => ?_)
                      · have gc129 := ai_le c129
                        have u129t_j67a0_8 : j67a0_8.toInt ≤ (8 : Int) := Int.le_trans gc129 zq28
                        have hF0 := hF0.trans (if_pos (show j67a0_8.toInt ≤ 8 from gc129))
                        refine lv_iconst (v := 2) hx hb dX8_next_136 zk_iconst_2 ?_
                        refine va_put (D := (dC, dI)) (ci := 8) (v := .int 2) (ty := .int) (C := RX8) (T := TX8) (N := 40) hx hb hts zi_X8_next_8 tyX8 tyX8_ok nmX8 hown hK hP hD hS 0 rfl rfl 6 (by decide) (hts (.fieldLink RX8 87 "WaxTurnsModel" "token" "I") (List.mem_cons_of_mem _ (List.mem_append_left _ (List.mem_of_getElem? (i := 4) rfl)))) (fun _ h9 => h9) rfl (tyX8_ok 6 (by decide)) rfl rfl (Nat.le_of_ble_eq_true rfl) dX8_next_137 (fun H locs hP hD hS => ?_)
                        refine zs_0 (y := (a0, .inr (8, [a0g_0, Value.ref a0_1, a0g_2, Value.int a0_3, Value.int j5l1, Value.int j67l1, Value.int 2, Value.int 0, Value.int j67a0_8, a0g_9, a0g_10, a0g_11, Value.ref a0_12, a0g_13, a0g_14, a0g_15, a0g_16, a0g_17, a0g_18, a0g_19, a0g_20, a0g_21, a0g_22, a0g_23, a0g_24, a0g_25, a0g_26, a0g_27, a0g_28, a0g_29, a0g_30, a0g_31, a0g_32, a0g_33, a0g_34, a0g_35, a0g_36, a0g_37, a0g_38, a0g_39]))) hP hD rfl (fun hP hD => ?_)
                        refine lv_goto (tgt := 241) hx hb dX8_next_140 (by decide) ?_
                        have hFe : FX = (j5l1.toInt, j67l1.toInt, 2, 0, j67a0_8.toInt, (fl_A j67a0_12_a)) := hF0
                        exact W.vret hx hb hr (fun t ht hW => ⟨⟨(), rfl, trivial, j5l1, j67l1, 2, 0, j67a0_8, j67a0_12_a, ⟨bj67l1_l, Int.le_trans u69k1_j67l1 (by decide)⟩, ⟨bj67a0_8_l, Int.le_trans u129t_j67a0_8 (by decide)⟩, (fun _ => u129t_j67a0_8), ⟨by omega, Or.inl (by decide)⟩, hFe, by rw [ht]; exact hP, va_K.moved hW.alike hK, hD⟩, hS.F ht⟩) hS.2.2 dX8_next_241
                      · have gc129 := ai_nle c129
                        have l129f_j67a0_8 : (9 : Int) ≤ j67a0_8.toInt := ai_ltlo gc129 zq116
                        have hF0 := hF0.trans (if_neg (show ¬ (j67a0_8.toInt ≤ 8) from Int.not_le.mpr gc129))
                        refine lv_iconst (v := 1) hx hb dX8_next_132 zk_iconst_1 ?_
                        refine lv_goto (tgt := 137) hx hb dX8_next_133 (by decide) ?_
                        refine va_put (D := (dC, dI)) (ci := 8) (v := .int 1) (ty := .int) (C := RX8) (T := TX8) (N := 40) hx hb hts zi_X8_next_8 tyX8 tyX8_ok nmX8 hown hK hP hD hS 0 rfl rfl 6 (by decide) (hts (.fieldLink RX8 87 "WaxTurnsModel" "token" "I") (List.mem_cons_of_mem _ (List.mem_append_left _ (List.mem_of_getElem? (i := 4) rfl)))) (fun _ h9 => h9) rfl (tyX8_ok 6 (by decide)) rfl rfl (Nat.le_of_ble_eq_true rfl) dX8_next_137 (fun H locs hP hD hS => ?_)
                        refine zs_0 (y := (a0, .inr (8, [a0g_0, Value.ref a0_1, a0g_2, Value.int a0_3, Value.int j5l1, Value.int j67l1, Value.int 1, Value.int 0, Value.int j67a0_8, a0g_9, a0g_10, a0g_11, Value.ref a0_12, a0g_13, a0g_14, a0g_15, a0g_16, a0g_17, a0g_18, a0g_19, a0g_20, a0g_21, a0g_22, a0g_23, a0g_24, a0g_25, a0g_26, a0g_27, a0g_28, a0g_29, a0g_30, a0g_31, a0g_32, a0g_33, a0g_34, a0g_35, a0g_36, a0g_37, a0g_38, a0g_39]))) hP hD rfl (fun hP hD => ?_)
                        refine lv_goto (tgt := 241) hx hb dX8_next_140 (by decide) ?_
                        have hFe : FX = (j5l1.toInt, j67l1.toInt, 1, 0, j67a0_8.toInt, (fl_A j67a0_12_a)) := hF0
                        exact W.vret hx hb hr (fun t ht hW => ⟨⟨(), rfl, trivial, j5l1, j67l1, 1, 0, j67a0_8, j67a0_12_a, ⟨bj67l1_l, Int.le_trans u69k1_j67l1 (by decide)⟩, ⟨Int.le_trans (by decide) l129f_j67a0_8, bj67a0_8_u⟩, (fun h9 => absurd h9 (by decide)), ⟨by omega, Or.inl (by decide)⟩, hFe, by rw [ht]; exact hP, va_K.moved hW.alike hK, hD⟩, hS.F ht⟩) hS.2.2 dX8_next_241
              exact (hK0 _ _ _).mp (J67 901 j5l1 0 fa0_12 _ _ _ (by have h1 : (0 : Int) ≤ j5l1.toInt := bj5l1_l; have h2 : j5l1.toInt ≤ (899 : Int) := u28k1_j5l1; omega) bj5l1_l (Int.le_trans u28k1_j5l1 zq145) zq5 (Int.le_trans zq6 zq40) (by omega) (by have h1 : (0 : Int32).toInt = 0 := (by decide); omega) (by rw [show (0 : Int32).toInt = 0 from by decide]; exact hF0) hP hD hS (lv_sub hl [1, 2] rfl))
            · subst hw
              have hF0 := hF0.trans (if_neg (by decide))
              refine lv_if_eq (tgt := 143) hx hb dX8_next_64 (by decide) (fun _ => ?_) (fun c64 => absurd (by decide +kernel) c64)
              have J67 : ∀ (n : Nat) (j67l1 : Int32) (j67a0_8 : Int32) (j67a0_12_a : Nat → Int32) (H : Heap) (locs : List Loc) (ls : Array Slot), (901 : Int) - j67l1.toInt ≤ (n : Int) → (0 : Int) ≤ j67l1.toInt → j67l1.toInt ≤ (900 : Int) → (0 : Int) ≤ j67a0_8.toInt → j67a0_8.toInt ≤ (900 : Int) → (a0_5.toInt ≤ j67l1.toInt) → (j67a0_8.toInt ≤ j67l1.toInt) → (FX = fl_wh (fun t9 => Sf_X8_next_67_2 a0_3.toInt (fl_A fa0_1) j5l1.toInt t9.1 t9.2.1 t9.2.2) (0, 0, 0, 0, 0, (fun _ => 0)) n (j67l1.toInt, j67a0_8.toInt, (fl_A j67a0_12_a))) → va_P (dC, dI) vwCl [(a0, .inr (8, [a0g_0, Value.ref a0_1, a0g_2, Value.int a0_3, Value.int j5l1, Value.int a0_5, Value.int a0_6, Value.int 0, Value.int j67a0_8, a0g_9, a0g_10, a0g_11, Value.ref a0_12, a0g_13, a0g_14, a0g_15, a0g_16, a0g_17, a0g_18, a0g_19, a0g_20, a0g_21, a0g_22, a0g_23, a0g_24, a0g_25, a0g_26, a0g_27, a0g_28, a0g_29, a0g_30, a0g_31, a0g_32, a0g_33, a0g_34, a0g_35, a0g_36, a0g_37, a0g_38, a0g_39])), (a0_1, .inl (ka0_1, 900, .inl (fa0_1))), (a0_12, .inl (ka0_12, 8, .inl (j67a0_12_a)))] H → va_D A [(a0, .inr (8, [a0g_0, Value.ref a0_1, a0g_2, Value.int a0_3, Value.int j5l1, Value.int a0_5, Value.int a0_6, Value.int 0, Value.int j67a0_8, a0g_9, a0g_10, a0g_11, Value.ref a0_12, a0g_13, a0g_14, a0g_15, a0g_16, a0g_17, a0g_18, a0g_19, a0g_20, a0g_21, a0g_22, a0g_23, a0g_24, a0g_25, a0g_26, a0g_27, a0g_28, a0g_29, a0g_30, a0g_31, a0g_32, a0g_33, a0g_34, a0g_35, a0g_36, a0g_37, a0g_38, a0g_39])), (a0_1, .inl (ka0_1, 900, .inl (fa0_1))), (a0_12, .inl (ka0_12, 8, .inl (j67a0_12_a)))] → va_S A s.heap H locs → lv_has ls 4 [(0, .ref a0), (1, .int j67l1)] → K H locs (F0 m 67 ls []) := by
                intro n
                induction n with
                | zero =>
                  intro j67l1 j67a0_8 j67a0_12_a H locs ls hm bj67l1_l bj67l1_u bj67a0_8_l bj67a0_8_u ke67 nk67 hF0 hP hD hS hl
                  first | exact zg_0 hm bj67l1_u (by decide) | (have h8 := ai_min j67l1; have h9 := ai_max j67l1; exact absurd hm (by omega))
                | succ n ih67 =>
                  intro j67l1 j67a0_8 j67a0_12_a H locs ls hm bj67l1_l bj67l1_u bj67a0_8_l bj67a0_8_u ke67 nk67 hF0 hP hD hS hl
                  refine (hK0 _ _ _).mpr ?_
                  have hm67 := hm
                  obtain ⟨SX67, hSX67⟩ : ∃ q9, Sf_X8_next_67_2 a0_3.toInt (fl_A fa0_1) j5l1.toInt j67l1.toInt j67a0_8.toInt (fl_A j67a0_12_a) = q9 := ⟨_, rfl⟩
                  have hF1 := hSX67.symm.trans (Sf_X8_next_67_2.eq_1 a0_3.toInt (fl_A fa0_1) j5l1.toInt j67l1.toInt j67a0_8.toInt (fl_A j67a0_12_a))
                  refine lv_aload_n hx hb dX8_next_67 rfl (lv_at hl 0 rfl) ?_
                  refine lv_iload_n hx hb dX8_next_68 rfl (lv_at hl 1 rfl) ?_
                  have hKc := hK.sub (tys' := [(ka0_1, .int)]) [0] rfl
                  refine va_calli (va_runV (As := [.int j67l1]) (rest := []) ⟨hx, hb, hml, hown, hts⟩ (f_X8_see l dC dI H.size a0 j67l1 a0g_0 a0g_2 (Value.int j5l1) (Value.int a0_5) (Value.int a0_6) (Value.int 0) (Value.int j67a0_8) a0g_9 a0g_10 a0g_11 (Value.ref a0_12) a0g_13 a0g_14 a0g_15 a0g_16 a0g_17 a0g_18 a0g_19 a0g_20 a0g_21 a0g_22 a0g_23 a0g_24 a0g_25 a0g_26 a0g_27 a0g_28 a0g_29 a0g_30 a0g_31 a0g_32 a0g_33 a0g_34 a0g_35 a0g_36 a0g_37 a0g_38 a0g_39 a0_1 a0_3 ka0_1 fa0_1 bj67l1_l bj67l1_u ba0_3_l ba0_3_u) (cwV 1 hts gX8_next_X8_see rfl rfl rfl zd_X8_see ⟨Nat.le_of_ble_eq_true rfl, Nat.le_of_ble_eq_true rfl⟩) ⟨ax_blind (fun _ _ _ _ _ => trivial), zr_8 hKc (zp_P2 hP) (q0 := 0) rfl, ax_pre (zp_P2 hP) hKc (zp_D2 hD) (fun _ _ => trivial)⟩ rfl rfl hl.1 rfl (lv_room (Nat.le_of_ble_eq_true rfl)) dX8_next_69 ⟨Nat.le_of_ble_eq_true rfl, Nat.le_of_ble_eq_true rfl⟩) hS (fun q _ h => zp_F2 hD hS hA q h) (zp_F2 hD hS hA) (fun r69 u t H locs ht hvm hw hB hz1 hk1 hS1 => zo2 hB ht hP hD hk1 (zp_F2 hD hS hA) hS1 (fun hP hK1 hD hS => ?_))
                  obtain ⟨hw, hfr69⟩ := hw
                  have hc69 : Ff_X8_see j67l1.toInt a0_3.toInt (fl_A fa0_1) = r69.toInt := hfr69.symm
                  have hF1 := hF1.trans (fl_lt_eq hc69.symm)
                  rcases hw with hw | hw
                  · obtain ⟨hw, h69⟩ := hw
                    subst hw
                    have hF1 := hF1.trans (if_pos (show a0_3.toInt ≤ j67l1.toInt from h69))
                    refine va_calli (va_runS (As := [.int (-1)]) (rest := []) ⟨hx, hb, hml, hown, hts⟩ (f_X8_isSmall l dC dI H.size (-1) ) (va_cwS 1 hts gX8_next_X8_isSmall rfl rfl rfl zd_X8_isSmall.2 ⟨Nat.le_of_ble_eq_true rfl, Nat.le_of_ble_eq_true rfl⟩) ⟨ax_blind (fun _ _ _ _ _ => trivial), ax_pre (zp_P0 hP) (zp_K hK) (zp_D0 hD) (fun _ _ => trivial)⟩ rfl rfl hl.1 rfl (lv_room (Nat.le_of_ble_eq_true rfl)) dX8_next_72 ⟨Nat.le_of_ble_eq_true rfl, Nat.le_of_ble_eq_true rfl⟩) hS (fun q _ h => zp_F0 hD hS hA q h) (zp_F0 hD hS hA) (fun r72 u t H locs ht hvm hw hB hz1 hk1 hS1 => zo0 hB ht hP hD hk1 (zp_F0 hD hS hA) hS1 (fun hP hK1 hD hS => ?_))
                    obtain ⟨hw, hfr72⟩ := hw
                    rw [show ((-1) : Int32).toInt = (-1) from by decide] at hfr72
                    have hc72 : Ff_X8_isSmall (-1) = r72.toInt := hfr72.symm
                    have hF1 := hF1.trans (fl_lt_eq hc72.symm)
                    rcases hw with hw | hw
                    · obtain ⟨hw, h72_0, h72_1⟩ := hw
                      subst hw
                      exact absurd h72_0 (by decide)
                    · subst hw
                      have hF1 := hF1.trans (if_neg (by decide))
                      refine lv_if_eq (tgt := 117) hx hb dX8_next_75 (by decide) (fun _ => ?_) (fun c75 => absurd (by decide +kernel) c75)
                      have hF0 := hF0.trans (fl_wh_r (hSX67.trans hF1))
                      refine lv_aload_n hx hb dX8_next_117 rfl (lv_at hl 0 rfl) ?_
                      refine lv_iload_n hx hb dX8_next_118 rfl (lv_at hl 1 rfl) ?_
                      refine va_put (D := (dC, dI)) (ci := 8) (v := .int j67l1) (ty := .int) (C := RX8) (T := TX8) (N := 40) hx hb hts zi_X8_next_8 tyX8 tyX8_ok nmX8 hown hK hP hD hS 0 rfl rfl 5 (by decide) (hts (.fieldLink RX8 71 "WaxTurnsModel" "end" "I") (List.mem_cons_of_mem _ (List.mem_append_left _ (List.mem_of_getElem? (i := 0) rfl)))) (fun _ h9 => h9) rfl (tyX8_ok 5 (by decide)) rfl rfl (Nat.le_of_ble_eq_true rfl) dX8_next_119 (fun H locs hP hD hS => ?_)
                      refine zs_0 (y := (a0, .inr (8, [a0g_0, Value.ref a0_1, a0g_2, Value.int a0_3, Value.int j5l1, Value.int j67l1, Value.int a0_6, Value.int 0, Value.int j67a0_8, a0g_9, a0g_10, a0g_11, Value.ref a0_12, a0g_13, a0g_14, a0g_15, a0g_16, a0g_17, a0g_18, a0g_19, a0g_20, a0g_21, a0g_22, a0g_23, a0g_24, a0g_25, a0g_26, a0g_27, a0g_28, a0g_29, a0g_30, a0g_31, a0g_32, a0g_33, a0g_34, a0g_35, a0g_36, a0g_37, a0g_38, a0g_39]))) hP hD rfl (fun hP hD => ?_)
                      refine lv_aload_n hx hb dX8_next_122 rfl (lv_at hl 0 rfl) ?_
                      refine lv_aload_n hx hb dX8_next_123 rfl (lv_at hl 0 rfl) ?_
                      refine va_get (D := (dC, dI)) (ci := 8) (v := .int j67a0_8) (C := RX8) (T := TX8) (N := 40) hx hb hts zi_X8_next_8 hown hK hP 0 rfl rfl 8 (by decide) (hts (.fieldLink RX8 81 "WaxTurnsModel" "nameSize" "I") (List.mem_cons_of_mem _ (List.mem_append_left _ (List.mem_of_getElem? (i := 2) rfl)))) (fun _ h9 => h9) rfl dX8_next_124 ?_
                      refine lv_bipush (v := 8) hx hb dX8_next_127 zk_bipush_8 ?_
                      refine lv_icmp_le (tgt := 136) hx hb dX8_next_129 (by decide) (fun c129 => ?_) (fun c129 => ?_)
                      · have gc129 := ai_le c129
                        have u129t_j67a0_8 : j67a0_8.toInt ≤ (8 : Int) := Int.le_trans gc129 zq28
                        have hF0 := hF0.trans (if_pos (show j67a0_8.toInt ≤ 8 from gc129))
                        refine lv_iconst (v := 2) hx hb dX8_next_136 zk_iconst_2 ?_
                        refine va_put (D := (dC, dI)) (ci := 8) (v := .int 2) (ty := .int) (C := RX8) (T := TX8) (N := 40) hx hb hts zi_X8_next_8 tyX8 tyX8_ok nmX8 hown hK hP hD hS 0 rfl rfl 6 (by decide) (hts (.fieldLink RX8 87 "WaxTurnsModel" "token" "I") (List.mem_cons_of_mem _ (List.mem_append_left _ (List.mem_of_getElem? (i := 4) rfl)))) (fun _ h9 => h9) rfl (tyX8_ok 6 (by decide)) rfl rfl (Nat.le_of_ble_eq_true rfl) dX8_next_137 (fun H locs hP hD hS => ?_)
                        refine zs_0 (y := (a0, .inr (8, [a0g_0, Value.ref a0_1, a0g_2, Value.int a0_3, Value.int j5l1, Value.int j67l1, Value.int 2, Value.int 0, Value.int j67a0_8, a0g_9, a0g_10, a0g_11, Value.ref a0_12, a0g_13, a0g_14, a0g_15, a0g_16, a0g_17, a0g_18, a0g_19, a0g_20, a0g_21, a0g_22, a0g_23, a0g_24, a0g_25, a0g_26, a0g_27, a0g_28, a0g_29, a0g_30, a0g_31, a0g_32, a0g_33, a0g_34, a0g_35, a0g_36, a0g_37, a0g_38, a0g_39]))) hP hD rfl (fun hP hD => ?_)
                        refine lv_goto (tgt := 241) hx hb dX8_next_140 (by decide) ?_
                        have hFe : FX = (j5l1.toInt, j67l1.toInt, 2, 0, j67a0_8.toInt, (fl_A j67a0_12_a)) := hF0
                        exact W.vret hx hb hr (fun t ht hW => ⟨⟨(), rfl, trivial, j5l1, j67l1, 2, 0, j67a0_8, j67a0_12_a, ⟨bj67l1_l, bj67l1_u⟩, ⟨bj67a0_8_l, Int.le_trans u129t_j67a0_8 (by decide)⟩, (fun _ => u129t_j67a0_8), ⟨by omega, Or.inl (by decide)⟩, hFe, by rw [ht]; exact hP, va_K.moved hW.alike hK, hD⟩, hS.F ht⟩) hS.2.2 dX8_next_241
                      · have gc129 := ai_nle c129
                        have l129f_j67a0_8 : (9 : Int) ≤ j67a0_8.toInt := ai_ltlo gc129 zq116
                        have hF0 := hF0.trans (if_neg (show ¬ (j67a0_8.toInt ≤ 8) from Int.not_le.mpr gc129))
                        refine lv_iconst (v := 1) hx hb dX8_next_132 zk_iconst_1 ?_
                        refine lv_goto (tgt := 137) hx hb dX8_next_133 (by decide) ?_
                        refine va_put (D := (dC, dI)) (ci := 8) (v := .int 1) (ty := .int) (C := RX8) (T := TX8) (N := 40) hx hb hts zi_X8_next_8 tyX8 tyX8_ok nmX8 hown hK hP hD hS 0 rfl rfl 6 (by decide) (hts (.fieldLink RX8 87 "WaxTurnsModel" "token" "I") (List.mem_cons_of_mem _ (List.mem_append_left _ (List.mem_of_getElem? (i := 4) rfl)))) (fun _ h9 => h9) rfl (tyX8_ok 6 (by decide)) rfl rfl (Nat.le_of_ble_eq_true rfl) dX8_next_137 (fun H locs hP hD hS => ?_)
                        refine zs_0 (y := (a0, .inr (8, [a0g_0, Value.ref a0_1, a0g_2, Value.int a0_3, Value.int j5l1, Value.int j67l1, Value.int 1, Value.int 0, Value.int j67a0_8, a0g_9, a0g_10, a0g_11, Value.ref a0_12, a0g_13, a0g_14, a0g_15, a0g_16, a0g_17, a0g_18, a0g_19, a0g_20, a0g_21, a0g_22, a0g_23, a0g_24, a0g_25, a0g_26, a0g_27, a0g_28, a0g_29, a0g_30, a0g_31, a0g_32, a0g_33, a0g_34, a0g_35, a0g_36, a0g_37, a0g_38, a0g_39]))) hP hD rfl (fun hP hD => ?_)
                        refine lv_goto (tgt := 241) hx hb dX8_next_140 (by decide) ?_
                        have hFe : FX = (j5l1.toInt, j67l1.toInt, 1, 0, j67a0_8.toInt, (fl_A j67a0_12_a)) := hF0
                        exact W.vret hx hb hr (fun t ht hW => ⟨⟨(), rfl, trivial, j5l1, j67l1, 1, 0, j67a0_8, j67a0_12_a, ⟨bj67l1_l, bj67l1_u⟩, ⟨Int.le_trans (by decide) l129f_j67a0_8, bj67a0_8_u⟩, (fun h9 => absurd h9 (by decide)), ⟨by omega, Or.inl (by decide)⟩, hFe, by rw [ht]; exact hP, va_K.moved hW.alike hK, hD⟩, hS.F ht⟩) hS.2.2 dX8_next_241
                  · have h69 := hw
                    have u69k1_j67l1 : j67l1.toInt ≤ (899 : Int) := by have h1 := h69; have h2 := ba0_3_u; omega
                    have hF1 := hF1.trans (if_neg (show ¬ (a0_3.toInt ≤ j67l1.toInt) from Int.not_le.mpr h69))
                    refine va_calli (va_runS (As := [.int r69]) (rest := []) ⟨hx, hb, hml, hown, hts⟩ (f_X8_isSmall l dC dI H.size r69 ) (va_cwS 1 hts gX8_next_X8_isSmall rfl rfl rfl zd_X8_isSmall.2 ⟨Nat.le_of_ble_eq_true rfl, Nat.le_of_ble_eq_true rfl⟩) ⟨ax_blind (fun _ _ _ _ _ => trivial), ax_pre (zp_P0 hP) (zp_K hK) (zp_D0 hD) (fun _ _ => trivial)⟩ rfl rfl hl.1 rfl (lv_room (Nat.le_of_ble_eq_true rfl)) dX8_next_72 ⟨Nat.le_of_ble_eq_true rfl, Nat.le_of_ble_eq_true rfl⟩) hS (fun q _ h => zp_F0 hD hS hA q h) (zp_F0 hD hS hA) (fun r72 u t H locs ht hvm hw hB hz1 hk1 hS1 => zo0 hB ht hP hD hk1 (zp_F0 hD hS hA) hS1 (fun hP hK1 hD hS => ?_))
                    obtain ⟨hw, hfr72⟩ := hw
                    have hc72 : Ff_X8_isSmall r69.toInt = r72.toInt := hfr72.symm
                    have hF1 := hF1.trans (fl_lt_eq hc72.symm)
                    rcases hw with hw | hw
                    · obtain ⟨hw, h72_0, h72_1⟩ := hw
                      subst hw
                      have l72k0_r69 : (97 : Int) ≤ r69.toInt := h72_0
                      have u72k0_r69 : r69.toInt ≤ (122 : Int) := h72_1
                      have hF1 := hF1.trans (if_pos (by decide))
                      refine lv_if_eq (tgt := 117) hx hb dX8_next_75 (by decide) (fun c75 => absurd c75 (by decide +kernel)) (fun _ => ?_)
                      refine lv_aload_n hx hb dX8_next_78 rfl (lv_at hl 0 rfl) ?_
                      refine va_get (D := (dC, dI)) (ci := 8) (v := .int j67a0_8) (C := RX8) (T := TX8) (N := 40) hx hb hts zi_X8_next_8 hown hK hP 0 rfl rfl 8 (by decide) (hts (.fieldLink RX8 81 "WaxTurnsModel" "nameSize" "I") (List.mem_cons_of_mem _ (List.mem_append_left _ (List.mem_of_getElem? (i := 2) rfl)))) (fun _ h9 => h9) rfl dX8_next_79 ?_
                      refine lv_bipush (v := 8) hx hb dX8_next_82 zk_bipush_8 ?_
                      have J101 : ∀ (j101a0_12_a : Nat → Int32) (H : Heap) (locs : List Loc) (ls : Array Slot), (SX67 = Gf_X8_next_101_2 j67l1.toInt j67a0_8.toInt (fl_A j101a0_12_a)) → va_P (dC, dI) vwCl [(a0, .inr (8, [a0g_0, Value.ref a0_1, a0g_2, Value.int a0_3, Value.int j5l1, Value.int a0_5, Value.int a0_6, Value.int 0, Value.int j67a0_8, a0g_9, a0g_10, a0g_11, Value.ref a0_12, a0g_13, a0g_14, a0g_15, a0g_16, a0g_17, a0g_18, a0g_19, a0g_20, a0g_21, a0g_22, a0g_23, a0g_24, a0g_25, a0g_26, a0g_27, a0g_28, a0g_29, a0g_30, a0g_31, a0g_32, a0g_33, a0g_34, a0g_35, a0g_36, a0g_37, a0g_38, a0g_39])), (a0_1, .inl (ka0_1, 900, .inl (fa0_1))), (a0_12, .inl (ka0_12, 8, .inl (j101a0_12_a)))] H → va_D A [(a0, .inr (8, [a0g_0, Value.ref a0_1, a0g_2, Value.int a0_3, Value.int j5l1, Value.int a0_5, Value.int a0_6, Value.int 0, Value.int j67a0_8, a0g_9, a0g_10, a0g_11, Value.ref a0_12, a0g_13, a0g_14, a0g_15, a0g_16, a0g_17, a0g_18, a0g_19, a0g_20, a0g_21, a0g_22, a0g_23, a0g_24, a0g_25, a0g_26, a0g_27, a0g_28, a0g_29, a0g_30, a0g_31, a0g_32, a0g_33, a0g_34, a0g_35, a0g_36, a0g_37, a0g_38, a0g_39])), (a0_1, .inl (ka0_1, 900, .inl (fa0_1))), (a0_12, .inl (ka0_12, 8, .inl (j101a0_12_a)))] → va_S A s.heap H locs → lv_has ls 4 [(0, .ref a0), (1, .int j67l1)] → K H locs (F0 m 101 ls []) := by
                        intro j101a0_12_a H locs ls  hF1 hP hD hS hl
                        refine (hK0 _ _ _).mpr ?_
                        have hF1 := hF1.trans (Gf_X8_next_101_2.eq_1 j67l1.toInt j67a0_8.toInt (fl_A j101a0_12_a))
                        refine lv_aload_n hx hb dX8_next_101 rfl (lv_at hl 0 rfl) ?_
                        refine lv_dup hx hb dX8_next_102 rfl ?_
                        refine va_get (D := (dC, dI)) (ci := 8) (v := .int j67a0_8) (C := RX8) (T := TX8) (N := 40) hx hb hts zi_X8_next_8 hown hK hP 0 rfl rfl 8 (by decide) (hts (.fieldLink RX8 81 "WaxTurnsModel" "nameSize" "I") (List.mem_cons_of_mem _ (List.mem_append_left _ (List.mem_of_getElem? (i := 2) rfl)))) (fun _ h9 => h9) rfl dX8_next_103 ?_
                        have u103z_j67a0_8 : j67a0_8.toInt ≤ (899 : Int) := by omega
                        refine lv_iconst (v := 1) hx hb dX8_next_106 zk_iconst_1 ?_
                        refine lv_iadd hx hb dX8_next_107 ?_
                        refine lv_topi (fun x107 ex107 => ?_)
                        have qx107 : x107.toInt = j67a0_8.toInt + (1 : Int32).toInt := ai_add ex107 ⟨bj67a0_8_l, u103z_j67a0_8⟩ ⟨zq1, zq0⟩ (by decide) (by decide)
                        have bx107 : (1 : Int) ≤ x107.toInt ∧ x107.toInt ≤ 900 := ⟨by rw [qx107]; exact Int.add_le_add bj67a0_8_l zq1, by rw [qx107]; exact Int.add_le_add u103z_j67a0_8 zq0⟩
                        have wx107 : x107.toInt = j67a0_8.toInt + 1 := qx107
                        have hF1 := hF1.trans (fl_lt_eq (show x107.toInt = j67a0_8.toInt + 1 from qx107))
                        refine va_put (D := (dC, dI)) (ci := 8) (v := .int x107) (ty := .int) (C := RX8) (T := TX8) (N := 40) hx hb hts zi_X8_next_8 tyX8 tyX8_ok nmX8 hown hK hP hD hS 0 rfl rfl 8 (by decide) (hts (.fieldLink RX8 81 "WaxTurnsModel" "nameSize" "I") (List.mem_cons_of_mem _ (List.mem_append_left _ (List.mem_of_getElem? (i := 2) rfl)))) (fun _ h9 => h9) rfl (tyX8_ok 8 (by decide)) rfl rfl (Nat.le_of_ble_eq_true rfl) dX8_next_108 (fun H locs hP hD hS => ?_)
                        refine zs_0 (y := (a0, .inr (8, [a0g_0, Value.ref a0_1, a0g_2, Value.int a0_3, Value.int j5l1, Value.int a0_5, Value.int a0_6, Value.int 0, Value.int x107, a0g_9, a0g_10, a0g_11, Value.ref a0_12, a0g_13, a0g_14, a0g_15, a0g_16, a0g_17, a0g_18, a0g_19, a0g_20, a0g_21, a0g_22, a0g_23, a0g_24, a0g_25, a0g_26, a0g_27, a0g_28, a0g_29, a0g_30, a0g_31, a0g_32, a0g_33, a0g_34, a0g_35, a0g_36, a0g_37, a0g_38, a0g_39]))) hP hD rfl (fun hP hD => ?_)
                        obtain ⟨x111, ex111⟩ : ∃ y : Int32, y = j67l1 + Int32.ofInt 1 := ⟨_, rfl⟩
                        have qx111 : x111.toInt = j67l1.toInt + 1 := ai_inc ex111 (by decide) (by decide) u69k1_j67l1 (by decide)
                        have bx111 : (1 : Int) ≤ x111.toInt ∧ x111.toInt ≤ 900 := ⟨by rw [qx111]; exact Int.add_le_add bj67l1_l (Int.le_refl _), by rw [qx111]; exact Int.add_le_add u69k1_j67l1 (Int.le_refl _)⟩
                        refine lv_iinc (v := x111) (lv' := [(1, .int x111), (0, .ref a0)]) hx hb dX8_next_111 hl (k := 1) rfl ex111.symm (by decide) rfl (fun ls hl => ?_)
                        have hF1 := hF1.trans (fl_lt_eq (show x111.toInt = j67l1.toInt + 1 from qx111))
                        refine lv_goto (tgt := 67) hx hb dX8_next_114 (by decide) ?_
                        exact (hK0 _ _ _).mp (ih67 x111 x107 j101a0_12_a _ _ _ (by first | exact zg_s hm67 qx111 | (have h0 := qx111; omega)) (Int.le_trans zq4 bx111.1) bx111.2 (Int.le_trans zq4 bx107.1) bx107.2 (by omega) (by omega) (hF0.trans (fl_wh_l (hSX67.trans hF1))) hP hD hS (lv_sub hl [1, 0] rfl))
                      refine lv_icmp_ge (tgt := 101) hx hb dX8_next_84 (by decide) (fun c84 => ?_) (fun c84 => ?_)
                      · have gc84 := ai_le c84
                        have l84t_j67a0_8 : (8 : Int) ≤ j67a0_8.toInt := Int.le_trans zq116 gc84
                        have hF1 := hF1.trans (if_pos (show 8 ≤ j67a0_8.toInt from gc84))
                        exact (hK0 _ _ _).mp (J101 j67a0_12_a _ _ _   hF1 hP hD hS (lv_sub hl [0, 1] rfl))
                      · have gc84 := ai_nle c84
                        have u84f_j67a0_8 : j67a0_8.toInt ≤ (7 : Int) := ai_lthi gc84 zq28
                        have hF1 := hF1.trans (if_neg (show ¬ (8 ≤ j67a0_8.toInt) from Int.not_le.mpr gc84))
                        refine lv_aload_n hx hb dX8_next_87 rfl (lv_at hl 0 rfl) ?_
                        refine va_get (D := (dC, dI)) (ci := 8) (v := .ref a0_12) (C := RX8) (T := TX8) (N := 40) hx hb hts zi_X8_next_8 hown hK hP 0 rfl rfl 12 (by decide) (hts (.fieldLink RX8 17 "WaxTurnsModel" "letters" "[I") (List.mem_cons_of_mem _ (List.mem_append_left _ (List.mem_of_getElem? (i := 5) rfl)))) (fun _ h9 => h9) rfl dX8_next_88 ?_
                        refine lv_aload_n hx hb dX8_next_91 rfl (lv_at hl 0 rfl) ?_
                        refine va_get (D := (dC, dI)) (ci := 8) (v := .int j67a0_8) (C := RX8) (T := TX8) (N := 40) hx hb hts zi_X8_next_8 hown hK hP 0 rfl rfl 8 (by decide) (hts (.fieldLink RX8 81 "WaxTurnsModel" "nameSize" "I") (List.mem_cons_of_mem _ (List.mem_append_left _ (List.mem_of_getElem? (i := 2) rfl)))) (fun _ h9 => h9) rfl dX8_next_92 ?_
                        refine lv_aload_n hx hb dX8_next_95 rfl (lv_at hl 0 rfl) ?_
                        refine lv_iload_n hx hb dX8_next_96 rfl (lv_at hl 1 rfl) ?_
                        have hKc := hK.sub (tys' := [(ka0_1, .int)]) [0] rfl
                        refine va_calli (va_runV (As := [.int j67l1]) (rest := [.int j67a0_8, .ref a0_12]) ⟨hx, hb, hml, hown, hts⟩ (f_X8_see l dC dI H.size a0 j67l1 a0g_0 a0g_2 (Value.int j5l1) (Value.int a0_5) (Value.int a0_6) (Value.int 0) (Value.int j67a0_8) a0g_9 a0g_10 a0g_11 (Value.ref a0_12) a0g_13 a0g_14 a0g_15 a0g_16 a0g_17 a0g_18 a0g_19 a0g_20 a0g_21 a0g_22 a0g_23 a0g_24 a0g_25 a0g_26 a0g_27 a0g_28 a0g_29 a0g_30 a0g_31 a0g_32 a0g_33 a0g_34 a0g_35 a0g_36 a0g_37 a0g_38 a0g_39 a0_1 a0_3 ka0_1 fa0_1 bj67l1_l (Int.le_trans u69k1_j67l1 zq145) ba0_3_l ba0_3_u) (cwV 1 hts gX8_next_X8_see rfl rfl rfl zd_X8_see ⟨Nat.le_of_ble_eq_true rfl, Nat.le_of_ble_eq_true rfl⟩) ⟨ax_blind (fun _ _ _ _ _ => trivial), zr_8 hKc (zp_P2 hP) (q0 := 0) rfl, ax_pre (zp_P2 hP) hKc (zp_D2 hD) (fun _ _ => trivial)⟩ rfl rfl hl.1 rfl (lv_room (Nat.le_of_ble_eq_true rfl)) dX8_next_97 ⟨Nat.le_of_ble_eq_true rfl, Nat.le_of_ble_eq_true rfl⟩) hS (fun q _ h => zp_F2 hD hS hA q h) (zp_F2 hD hS hA) (fun r97 u t H locs ht hvm hw hB hz1 hk1 hS1 => zo2 hB ht hP hD hk1 (zp_F2 hD hS hA) hS1 (fun hP hK1 hD hS => ?_))
                        obtain ⟨hw, hfr97⟩ := hw
                        have hc97 : Ff_X8_see j67l1.toInt a0_3.toInt (fl_A fa0_1) = r97.toInt := hfr97.symm
                        have hF1 := hF1.trans (fl_lt_eq hc97.symm)
                        rcases hw with hw | hw
                        · obtain ⟨hw, h97⟩ := hw
                          subst hw
                          have hF1 := hF1.trans (if_pos (show a0_3.toInt ≤ j67l1.toInt from h97))
                          refine va_iast hx hb hK hP hD hS 2 1 rfl rfl (ai_in bj67a0_8_l u84f_j67a0_8 (by decide) (by decide)) dX8_next_100 (fun H locs hP hD hS => ?_)
                          obtain ⟨f100, ef100⟩ : ∃ g9 : Nat → Int32, g9 = upd j67a0_12_a (j67a0_8 : Int32).toNatClampNeg ((-1) : Int32) := ⟨_, rfl⟩
                          refine zs_2 (y := (a0_12, .inl (ka0_12, 8, .inl (f100)))) hP hD (by rw [ef100]) (fun hP hD => ?_)
                          have fqf100 := fl_up_eq ef100
                          have hF1 := hF1.trans (fl_lt_eq (show (fl_A f100) = fl_up (fl_A j67a0_12_a) (j67a0_8.toInt.toNat) (-1) from fqf100))
                          exact (hK0 _ _ _).mp (J101 f100 _ _ _   hF1 hP hD hS (lv_sub hl [0, 1] rfl))
                        · have h97 := hw
                          have u97k1_j67l1 : j67l1.toInt ≤ (899 : Int) := u69k1_j67l1
                          have hF1 := hF1.trans (if_neg (show ¬ (a0_3.toInt ≤ j67l1.toInt) from Int.not_le.mpr h97))
                          refine va_iast hx hb hK hP hD hS 2 1 rfl rfl (ai_in bj67a0_8_l u84f_j67a0_8 (by decide) (by decide)) dX8_next_100 (fun H locs hP hD hS => ?_)
                          obtain ⟨f100, ef100⟩ : ∃ g9 : Nat → Int32, g9 = upd j67a0_12_a (j67a0_8 : Int32).toNatClampNeg r97 := ⟨_, rfl⟩
                          refine zs_2 (y := (a0_12, .inl (ka0_12, 8, .inl (f100)))) hP hD (by rw [ef100]) (fun hP hD => ?_)
                          have fqf100 := fl_up_eq ef100
                          have hF1 := hF1.trans (fl_lt_eq (show (fl_A f100) = fl_up (fl_A j67a0_12_a) (j67a0_8.toInt.toNat) r97.toInt from fqf100))
                          exact (hK0 _ _ _).mp (J101 f100 _ _ _   hF1 hP hD hS (lv_sub hl [0, 1] rfl))
                    · subst hw
                      have hF1 := hF1.trans (if_neg (by decide))
                      refine lv_if_eq (tgt := 117) hx hb dX8_next_75 (by decide) (fun _ => ?_) (fun c75 => absurd (by decide +kernel) c75)
                      have hF0 := hF0.trans (fl_wh_r (hSX67.trans hF1))
                      refine lv_aload_n hx hb dX8_next_117 rfl (lv_at hl 0 rfl) ?_
                      refine lv_iload_n hx hb dX8_next_118 rfl (lv_at hl 1 rfl) ?_
                      refine va_put (D := (dC, dI)) (ci := 8) (v := .int j67l1) (ty := .int) (C := RX8) (T := TX8) (N := 40) hx hb hts zi_X8_next_8 tyX8 tyX8_ok nmX8 hown hK hP hD hS 0 rfl rfl 5 (by decide) (hts (.fieldLink RX8 71 "WaxTurnsModel" "end" "I") (List.mem_cons_of_mem _ (List.mem_append_left _ (List.mem_of_getElem? (i := 0) rfl)))) (fun _ h9 => h9) rfl (tyX8_ok 5 (by decide)) rfl rfl (Nat.le_of_ble_eq_true rfl) dX8_next_119 (fun H locs hP hD hS => ?_)
                      refine zs_0 (y := (a0, .inr (8, [a0g_0, Value.ref a0_1, a0g_2, Value.int a0_3, Value.int j5l1, Value.int j67l1, Value.int a0_6, Value.int 0, Value.int j67a0_8, a0g_9, a0g_10, a0g_11, Value.ref a0_12, a0g_13, a0g_14, a0g_15, a0g_16, a0g_17, a0g_18, a0g_19, a0g_20, a0g_21, a0g_22, a0g_23, a0g_24, a0g_25, a0g_26, a0g_27, a0g_28, a0g_29, a0g_30, a0g_31, a0g_32, a0g_33, a0g_34, a0g_35, a0g_36, a0g_37, a0g_38, a0g_39]))) hP hD rfl (fun hP hD => ?_)
                      refine lv_aload_n hx hb dX8_next_122 rfl (lv_at hl 0 rfl) ?_
                      refine lv_aload_n hx hb dX8_next_123 rfl (lv_at hl 0 rfl) ?_
                      refine va_get (D := (dC, dI)) (ci := 8) (v := .int j67a0_8) (C := RX8) (T := TX8) (N := 40) hx hb hts zi_X8_next_8 hown hK hP 0 rfl rfl 8 (by decide) (hts (.fieldLink RX8 81 "WaxTurnsModel" "nameSize" "I") (List.mem_cons_of_mem _ (List.mem_append_left _ (List.mem_of_getElem? (i := 2) rfl)))) (fun _ h9 => h9) rfl dX8_next_124 ?_
                      refine lv_bipush (v := 8) hx hb dX8_next_127 zk_bipush_8 ?_
                      refine lv_icmp_le (tgt := 136) hx hb dX8_next_129 (by decide) (fun c129 => ?_) (fun c129 => ?_)
                      · have gc129 := ai_le c129
                        have u129t_j67a0_8 : j67a0_8.toInt ≤ (8 : Int) := Int.le_trans gc129 zq28
                        have hF0 := hF0.trans (if_pos (show j67a0_8.toInt ≤ 8 from gc129))
                        refine lv_iconst (v := 2) hx hb dX8_next_136 zk_iconst_2 ?_
                        refine va_put (D := (dC, dI)) (ci := 8) (v := .int 2) (ty := .int) (C := RX8) (T := TX8) (N := 40) hx hb hts zi_X8_next_8 tyX8 tyX8_ok nmX8 hown hK hP hD hS 0 rfl rfl 6 (by decide) (hts (.fieldLink RX8 87 "WaxTurnsModel" "token" "I") (List.mem_cons_of_mem _ (List.mem_append_left _ (List.mem_of_getElem? (i := 4) rfl)))) (fun _ h9 => h9) rfl (tyX8_ok 6 (by decide)) rfl rfl (Nat.le_of_ble_eq_true rfl) dX8_next_137 (fun H locs hP hD hS => ?_)
                        refine zs_0 (y := (a0, .inr (8, [a0g_0, Value.ref a0_1, a0g_2, Value.int a0_3, Value.int j5l1, Value.int j67l1, Value.int 2, Value.int 0, Value.int j67a0_8, a0g_9, a0g_10, a0g_11, Value.ref a0_12, a0g_13, a0g_14, a0g_15, a0g_16, a0g_17, a0g_18, a0g_19, a0g_20, a0g_21, a0g_22, a0g_23, a0g_24, a0g_25, a0g_26, a0g_27, a0g_28, a0g_29, a0g_30, a0g_31, a0g_32, a0g_33, a0g_34, a0g_35, a0g_36, a0g_37, a0g_38, a0g_39]))) hP hD rfl (fun hP hD => ?_)
                        refine lv_goto (tgt := 241) hx hb dX8_next_140 (by decide) ?_
                        have hFe : FX = (j5l1.toInt, j67l1.toInt, 2, 0, j67a0_8.toInt, (fl_A j67a0_12_a)) := hF0
                        exact W.vret hx hb hr (fun t ht hW => ⟨⟨(), rfl, trivial, j5l1, j67l1, 2, 0, j67a0_8, j67a0_12_a, ⟨bj67l1_l, Int.le_trans u69k1_j67l1 (by decide)⟩, ⟨bj67a0_8_l, Int.le_trans u129t_j67a0_8 (by decide)⟩, (fun _ => u129t_j67a0_8), ⟨by omega, Or.inl (by decide)⟩, hFe, by rw [ht]; exact hP, va_K.moved hW.alike hK, hD⟩, hS.F ht⟩) hS.2.2 dX8_next_241
                      · have gc129 := ai_nle c129
                        have l129f_j67a0_8 : (9 : Int) ≤ j67a0_8.toInt := ai_ltlo gc129 zq116
                        have hF0 := hF0.trans (if_neg (show ¬ (j67a0_8.toInt ≤ 8) from Int.not_le.mpr gc129))
                        refine lv_iconst (v := 1) hx hb dX8_next_132 zk_iconst_1 ?_
                        refine lv_goto (tgt := 137) hx hb dX8_next_133 (by decide) ?_
                        refine va_put (D := (dC, dI)) (ci := 8) (v := .int 1) (ty := .int) (C := RX8) (T := TX8) (N := 40) hx hb hts zi_X8_next_8 tyX8 tyX8_ok nmX8 hown hK hP hD hS 0 rfl rfl 6 (by decide) (hts (.fieldLink RX8 87 "WaxTurnsModel" "token" "I") (List.mem_cons_of_mem _ (List.mem_append_left _ (List.mem_of_getElem? (i := 4) rfl)))) (fun _ h9 => h9) rfl (tyX8_ok 6 (by decide)) rfl rfl (Nat.le_of_ble_eq_true rfl) dX8_next_137 (fun H locs hP hD hS => ?_)
                        refine zs_0 (y := (a0, .inr (8, [a0g_0, Value.ref a0_1, a0g_2, Value.int a0_3, Value.int j5l1, Value.int j67l1, Value.int 1, Value.int 0, Value.int j67a0_8, a0g_9, a0g_10, a0g_11, Value.ref a0_12, a0g_13, a0g_14, a0g_15, a0g_16, a0g_17, a0g_18, a0g_19, a0g_20, a0g_21, a0g_22, a0g_23, a0g_24, a0g_25, a0g_26, a0g_27, a0g_28, a0g_29, a0g_30, a0g_31, a0g_32, a0g_33, a0g_34, a0g_35, a0g_36, a0g_37, a0g_38, a0g_39]))) hP hD rfl (fun hP hD => ?_)
                        refine lv_goto (tgt := 241) hx hb dX8_next_140 (by decide) ?_
                        have hFe : FX = (j5l1.toInt, j67l1.toInt, 1, 0, j67a0_8.toInt, (fl_A j67a0_12_a)) := hF0
                        exact W.vret hx hb hr (fun t ht hW => ⟨⟨(), rfl, trivial, j5l1, j67l1, 1, 0, j67a0_8, j67a0_12_a, ⟨bj67l1_l, Int.le_trans u69k1_j67l1 (by decide)⟩, ⟨Int.le_trans (by decide) l129f_j67a0_8, bj67a0_8_u⟩, (fun h9 => absurd h9 (by decide)), ⟨by omega, Or.inl (by decide)⟩, hFe, by rw [ht]; exact hP, va_K.moved hW.alike hK, hD⟩, hS.F ht⟩) hS.2.2 dX8_next_241
              refine lv_iload_n hx hb dX8_next_143 rfl (lv_at hl 0 rfl) ?_
              refine va_calli (va_runS (As := [.int r28]) (rest := []) ⟨hx, hb, hml, hown, hts⟩ (f_X8_isDigit l dC dI H.size r28 ) (va_cwS 1 hts gX8_next_X8_isDigit rfl rfl rfl zd_X8_isDigit.2 ⟨Nat.le_of_ble_eq_true rfl, Nat.le_of_ble_eq_true rfl⟩) ⟨ax_blind (fun _ _ _ _ _ => trivial), ax_pre (zp_P0 hP) (zp_K hK) (zp_D0 hD) (fun _ _ => trivial)⟩ rfl rfl hl.1 rfl (lv_room (Nat.le_of_ble_eq_true rfl)) dX8_next_144 ⟨Nat.le_of_ble_eq_true rfl, Nat.le_of_ble_eq_true rfl⟩) hS (fun q _ h => zp_F0 hD hS hA q h) (zp_F0 hD hS hA) (fun r144 u t H locs ht hvm hw hB hz1 hk1 hS1 => zo0 hB ht hP hD hk1 (zp_F0 hD hS hA) hS1 (fun hP hK1 hD hS => ?_))
              obtain ⟨hw, hfr144⟩ := hw
              have hc144 : Ff_X8_isDigit r28.toInt = r144.toInt := hfr144.symm
              have hF0 := hF0.trans (fl_lt_eq hc144.symm)
              rcases hw with hw | hw
              · obtain ⟨hw, h144_0, h144_1⟩ := hw
                subst hw
                have l144k0_r28 : (48 : Int) ≤ r28.toInt := h144_0
                have u144k0_r28 : r28.toInt ≤ (57 : Int) := h144_1
                have hF0 := hF0.trans (if_pos (by decide))
                refine lv_if_eq (tgt := 219) hx hb dX8_next_147 (by decide) (fun c147 => absurd c147 (by decide +kernel)) (fun _ => ?_)
                refine lv_iconst (v := 0) hx hb dX8_next_150 zk_iconst_0 ?_
                refine lv_istore_n (lv' := [(3, .int 0), (2, .int r28), (0, .ref a0), (1, .int j5l1)]) hx hb dX8_next_151 rfl hl (by decide) rfl (fun ls hl => ?_)
                have J152 : ∀ (n : Nat) (j152l3 : Int32) (j152l1 : Int32) (j152a0_7 : Int32) (H : Heap) (locs : List Loc) (ls : Array Slot), (901 : Int) - j152l1.toInt ≤ (n : Int) → (0 : Int) ≤ j152l1.toInt → j152l1.toInt ≤ (900 : Int) → (a0_5.toInt ≤ j152l1.toInt) → (FX = fl_wh (fun t9 => Sf_X8_next_152_1 a0_3.toInt (fl_A fa0_1) (fl_A fa0_12) j5l1.toInt t9.1 t9.2.1 t9.2.2) (0, 0, 0, 0, 0, (fun _ => 0)) n (j152l3.toInt, j152l1.toInt, j152a0_7.toInt)) → va_P (dC, dI) vwCl [(a0, .inr (8, [a0g_0, Value.ref a0_1, a0g_2, Value.int a0_3, Value.int j5l1, Value.int a0_5, Value.int a0_6, Value.int j152a0_7, Value.int 0, a0g_9, a0g_10, a0g_11, Value.ref a0_12, a0g_13, a0g_14, a0g_15, a0g_16, a0g_17, a0g_18, a0g_19, a0g_20, a0g_21, a0g_22, a0g_23, a0g_24, a0g_25, a0g_26, a0g_27, a0g_28, a0g_29, a0g_30, a0g_31, a0g_32, a0g_33, a0g_34, a0g_35, a0g_36, a0g_37, a0g_38, a0g_39])), (a0_1, .inl (ka0_1, 900, .inl (fa0_1))), (a0_12, .inl (ka0_12, 8, .inl (fa0_12)))] H → va_D A [(a0, .inr (8, [a0g_0, Value.ref a0_1, a0g_2, Value.int a0_3, Value.int j5l1, Value.int a0_5, Value.int a0_6, Value.int j152a0_7, Value.int 0, a0g_9, a0g_10, a0g_11, Value.ref a0_12, a0g_13, a0g_14, a0g_15, a0g_16, a0g_17, a0g_18, a0g_19, a0g_20, a0g_21, a0g_22, a0g_23, a0g_24, a0g_25, a0g_26, a0g_27, a0g_28, a0g_29, a0g_30, a0g_31, a0g_32, a0g_33, a0g_34, a0g_35, a0g_36, a0g_37, a0g_38, a0g_39])), (a0_1, .inl (ka0_1, 900, .inl (fa0_1))), (a0_12, .inl (ka0_12, 8, .inl (fa0_12)))] → va_S A s.heap H locs → lv_has ls 4 [(0, .ref a0), (1, .int j152l1), (3, .int j152l3)] → K H locs (F0 m 152 ls []) := by
                  intro n
                  induction n with
                  | zero =>
                    intro j152l3 j152l1 j152a0_7 H locs ls hm bj152l1_l bj152l1_u ke152 hF0 hP hD hS hl
                    first | exact zg_0 hm bj152l1_u (by decide) | (have h8 := ai_min j152l1; have h9 := ai_max j152l1; exact absurd hm (by omega))
                  | succ n ih152 =>
                    intro j152l3 j152l1 j152a0_7 H locs ls hm bj152l1_l bj152l1_u ke152 hF0 hP hD hS hl
                    refine (hK0 _ _ _).mpr ?_
                    have hm152 := hm
                    obtain ⟨SX152, hSX152⟩ : ∃ q9, Sf_X8_next_152_1 a0_3.toInt (fl_A fa0_1) (fl_A fa0_12) j5l1.toInt j152l3.toInt j152l1.toInt j152a0_7.toInt = q9 := ⟨_, rfl⟩
                    have hF1 := hSX152.symm.trans (Sf_X8_next_152_1.eq_1 a0_3.toInt (fl_A fa0_1) (fl_A fa0_12) j5l1.toInt j152l3.toInt j152l1.toInt j152a0_7.toInt)
                    refine lv_aload_n hx hb dX8_next_152 rfl (lv_at hl 0 rfl) ?_
                    refine lv_iload_n hx hb dX8_next_153 rfl (lv_at hl 1 rfl) ?_
                    have hKc := hK.sub (tys' := [(ka0_1, .int)]) [0] rfl
                    refine va_calli (va_runV (As := [.int j152l1]) (rest := []) ⟨hx, hb, hml, hown, hts⟩ (f_X8_see l dC dI H.size a0 j152l1 a0g_0 a0g_2 (Value.int j5l1) (Value.int a0_5) (Value.int a0_6) (Value.int j152a0_7) (Value.int 0) a0g_9 a0g_10 a0g_11 (Value.ref a0_12) a0g_13 a0g_14 a0g_15 a0g_16 a0g_17 a0g_18 a0g_19 a0g_20 a0g_21 a0g_22 a0g_23 a0g_24 a0g_25 a0g_26 a0g_27 a0g_28 a0g_29 a0g_30 a0g_31 a0g_32 a0g_33 a0g_34 a0g_35 a0g_36 a0g_37 a0g_38 a0g_39 a0_1 a0_3 ka0_1 fa0_1 bj152l1_l bj152l1_u ba0_3_l ba0_3_u) (cwV 1 hts gX8_next_X8_see rfl rfl rfl zd_X8_see ⟨Nat.le_of_ble_eq_true rfl, Nat.le_of_ble_eq_true rfl⟩) ⟨ax_blind (fun _ _ _ _ _ => trivial), zr_8 hKc (zp_P2 hP) (q0 := 0) rfl, ax_pre (zp_P2 hP) hKc (zp_D2 hD) (fun _ _ => trivial)⟩ rfl rfl hl.1 rfl (lv_room (Nat.le_of_ble_eq_true rfl)) dX8_next_154 ⟨Nat.le_of_ble_eq_true rfl, Nat.le_of_ble_eq_true rfl⟩) hS (fun q _ h => zp_F2 hD hS hA q h) (zp_F2 hD hS hA) (fun r154 u t H locs ht hvm hw hB hz1 hk1 hS1 => zo2 hB ht hP hD hk1 (zp_F2 hD hS hA) hS1 (fun hP hK1 hD hS => ?_))
                    obtain ⟨hw, hfr154⟩ := hw
                    have hc154 : Ff_X8_see j152l1.toInt a0_3.toInt (fl_A fa0_1) = r154.toInt := hfr154.symm
                    have hF1 := hF1.trans (fl_lt_eq hc154.symm)
                    rcases hw with hw | hw
                    · obtain ⟨hw, h154⟩ := hw
                      subst hw
                      have hF1 := hF1.trans (if_pos (show a0_3.toInt ≤ j152l1.toInt from h154))
                      refine va_calli (va_runS (As := [.int (-1)]) (rest := []) ⟨hx, hb, hml, hown, hts⟩ (f_X8_isDigit l dC dI H.size (-1) ) (va_cwS 1 hts gX8_next_X8_isDigit rfl rfl rfl zd_X8_isDigit.2 ⟨Nat.le_of_ble_eq_true rfl, Nat.le_of_ble_eq_true rfl⟩) ⟨ax_blind (fun _ _ _ _ _ => trivial), ax_pre (zp_P0 hP) (zp_K hK) (zp_D0 hD) (fun _ _ => trivial)⟩ rfl rfl hl.1 rfl (lv_room (Nat.le_of_ble_eq_true rfl)) dX8_next_157 ⟨Nat.le_of_ble_eq_true rfl, Nat.le_of_ble_eq_true rfl⟩) hS (fun q _ h => zp_F0 hD hS hA q h) (zp_F0 hD hS hA) (fun r157 u t H locs ht hvm hw hB hz1 hk1 hS1 => zo0 hB ht hP hD hk1 (zp_F0 hD hS hA) hS1 (fun hP hK1 hD hS => ?_))
                      obtain ⟨hw, hfr157⟩ := hw
                      rw [show ((-1) : Int32).toInt = (-1) from by decide] at hfr157
                      have hc157 : Ff_X8_isDigit (-1) = r157.toInt := hfr157.symm
                      have hF1 := hF1.trans (fl_lt_eq hc157.symm)
                      rcases hw with hw | hw
                      · obtain ⟨hw, h157_0, h157_1⟩ := hw
                        subst hw
                        exact absurd h157_0 (by decide)
                      · subst hw
                        have hF1 := hF1.trans (if_neg (by decide))
                        refine lv_if_eq (tgt := 197) hx hb dX8_next_160 (by decide) (fun _ => ?_) (fun c160 => absurd (by decide +kernel) c160)
                        have hF0 := hF0.trans (fl_wh_r (hSX152.trans hF1))
                        refine lv_aload_n hx hb dX8_next_197 rfl (lv_at hl 0 rfl) ?_
                        refine lv_iload_n hx hb dX8_next_198 rfl (lv_at hl 1 rfl) ?_
                        refine va_put (D := (dC, dI)) (ci := 8) (v := .int j152l1) (ty := .int) (C := RX8) (T := TX8) (N := 40) hx hb hts zi_X8_next_8 tyX8 tyX8_ok nmX8 hown hK hP hD hS 0 rfl rfl 5 (by decide) (hts (.fieldLink RX8 71 "WaxTurnsModel" "end" "I") (List.mem_cons_of_mem _ (List.mem_append_left _ (List.mem_of_getElem? (i := 0) rfl)))) (fun _ h9 => h9) rfl (tyX8_ok 5 (by decide)) rfl rfl (Nat.le_of_ble_eq_true rfl) dX8_next_199 (fun H locs hP hD hS => ?_)
                        refine zs_0 (y := (a0, .inr (8, [a0g_0, Value.ref a0_1, a0g_2, Value.int a0_3, Value.int j5l1, Value.int j152l1, Value.int a0_6, Value.int j152a0_7, Value.int 0, a0g_9, a0g_10, a0g_11, Value.ref a0_12, a0g_13, a0g_14, a0g_15, a0g_16, a0g_17, a0g_18, a0g_19, a0g_20, a0g_21, a0g_22, a0g_23, a0g_24, a0g_25, a0g_26, a0g_27, a0g_28, a0g_29, a0g_30, a0g_31, a0g_32, a0g_33, a0g_34, a0g_35, a0g_36, a0g_37, a0g_38, a0g_39]))) hP hD rfl (fun hP hD => ?_)
                        refine lv_aload_n hx hb dX8_next_202 rfl (lv_at hl 0 rfl) ?_
                        refine lv_iload_n hx hb dX8_next_203 rfl (lv_at hl 2 rfl) ?_
                        refine lv_iconst (v := 3) hx hb dX8_next_204 zk_iconst_3 ?_
                        refine lv_icmp_le (tgt := 212) hx hb dX8_next_205 (by decide) (fun c205 => ?_) (fun c205 => ?_)
                        · have gc205 := ai_le c205
                          have u205t_j152l3 : j152l3.toInt ≤ (3 : Int) := Int.le_trans gc205 zq9
                          have hF0 := hF0.trans (if_pos (show j152l3.toInt ≤ 3 from gc205))
                          refine lv_iconst (v := 3) hx hb dX8_next_212 zk_iconst_3 ?_
                          refine va_put (D := (dC, dI)) (ci := 8) (v := .int 3) (ty := .int) (C := RX8) (T := TX8) (N := 40) hx hb hts zi_X8_next_8 tyX8 tyX8_ok nmX8 hown hK hP hD hS 0 rfl rfl 6 (by decide) (hts (.fieldLink RX8 87 "WaxTurnsModel" "token" "I") (List.mem_cons_of_mem _ (List.mem_append_left _ (List.mem_of_getElem? (i := 4) rfl)))) (fun _ h9 => h9) rfl (tyX8_ok 6 (by decide)) rfl rfl (Nat.le_of_ble_eq_true rfl) dX8_next_213 (fun H locs hP hD hS => ?_)
                          refine zs_0 (y := (a0, .inr (8, [a0g_0, Value.ref a0_1, a0g_2, Value.int a0_3, Value.int j5l1, Value.int j152l1, Value.int 3, Value.int j152a0_7, Value.int 0, a0g_9, a0g_10, a0g_11, Value.ref a0_12, a0g_13, a0g_14, a0g_15, a0g_16, a0g_17, a0g_18, a0g_19, a0g_20, a0g_21, a0g_22, a0g_23, a0g_24, a0g_25, a0g_26, a0g_27, a0g_28, a0g_29, a0g_30, a0g_31, a0g_32, a0g_33, a0g_34, a0g_35, a0g_36, a0g_37, a0g_38, a0g_39]))) hP hD rfl (fun hP hD => ?_)
                          refine lv_goto (tgt := 241) hx hb dX8_next_216 (by decide) ?_
                          have hFe : FX = (j5l1.toInt, j152l1.toInt, 3, j152a0_7.toInt, 0, (fl_A fa0_12)) := hF0
                          exact W.vret hx hb hr (fun t ht hW => ⟨⟨(), rfl, trivial, j5l1, j152l1, 3, j152a0_7, 0, fa0_12, ⟨bj152l1_l, bj152l1_u⟩, ⟨zq5, Int.le_trans zq6 (by decide)⟩, (fun h9 => absurd h9 (by decide)), ⟨by omega, Or.inl (by decide)⟩, hFe, by rw [ht]; exact hP, va_K.moved hW.alike hK, hD⟩, hS.F ht⟩) hS.2.2 dX8_next_241
                        · have gc205 := ai_nle c205
                          have l205f_j152l3 : (4 : Int) ≤ j152l3.toInt := ai_ltlo gc205 zq8
                          have hF0 := hF0.trans (if_neg (show ¬ (j152l3.toInt ≤ 3) from Int.not_le.mpr gc205))
                          refine lv_iconst (v := 1) hx hb dX8_next_208 zk_iconst_1 ?_
                          refine lv_goto (tgt := 213) hx hb dX8_next_209 (by decide) ?_
                          refine va_put (D := (dC, dI)) (ci := 8) (v := .int 1) (ty := .int) (C := RX8) (T := TX8) (N := 40) hx hb hts zi_X8_next_8 tyX8 tyX8_ok nmX8 hown hK hP hD hS 0 rfl rfl 6 (by decide) (hts (.fieldLink RX8 87 "WaxTurnsModel" "token" "I") (List.mem_cons_of_mem _ (List.mem_append_left _ (List.mem_of_getElem? (i := 4) rfl)))) (fun _ h9 => h9) rfl (tyX8_ok 6 (by decide)) rfl rfl (Nat.le_of_ble_eq_true rfl) dX8_next_213 (fun H locs hP hD hS => ?_)
                          refine zs_0 (y := (a0, .inr (8, [a0g_0, Value.ref a0_1, a0g_2, Value.int a0_3, Value.int j5l1, Value.int j152l1, Value.int 1, Value.int j152a0_7, Value.int 0, a0g_9, a0g_10, a0g_11, Value.ref a0_12, a0g_13, a0g_14, a0g_15, a0g_16, a0g_17, a0g_18, a0g_19, a0g_20, a0g_21, a0g_22, a0g_23, a0g_24, a0g_25, a0g_26, a0g_27, a0g_28, a0g_29, a0g_30, a0g_31, a0g_32, a0g_33, a0g_34, a0g_35, a0g_36, a0g_37, a0g_38, a0g_39]))) hP hD rfl (fun hP hD => ?_)
                          refine lv_goto (tgt := 241) hx hb dX8_next_216 (by decide) ?_
                          have hFe : FX = (j5l1.toInt, j152l1.toInt, 1, j152a0_7.toInt, 0, (fl_A fa0_12)) := hF0
                          exact W.vret hx hb hr (fun t ht hW => ⟨⟨(), rfl, trivial, j5l1, j152l1, 1, j152a0_7, 0, fa0_12, ⟨bj152l1_l, bj152l1_u⟩, ⟨zq5, Int.le_trans zq6 (by decide)⟩, (fun h9 => absurd h9 (by decide)), ⟨by omega, Or.inl (by decide)⟩, hFe, by rw [ht]; exact hP, va_K.moved hW.alike hK, hD⟩, hS.F ht⟩) hS.2.2 dX8_next_241
                    · have h154 := hw
                      have u154k1_j152l1 : j152l1.toInt ≤ (899 : Int) := by have h1 := h154; have h2 := ba0_3_u; omega
                      have hF1 := hF1.trans (if_neg (show ¬ (a0_3.toInt ≤ j152l1.toInt) from Int.not_le.mpr h154))
                      refine va_calli (va_runS (As := [.int r154]) (rest := []) ⟨hx, hb, hml, hown, hts⟩ (f_X8_isDigit l dC dI H.size r154 ) (va_cwS 1 hts gX8_next_X8_isDigit rfl rfl rfl zd_X8_isDigit.2 ⟨Nat.le_of_ble_eq_true rfl, Nat.le_of_ble_eq_true rfl⟩) ⟨ax_blind (fun _ _ _ _ _ => trivial), ax_pre (zp_P0 hP) (zp_K hK) (zp_D0 hD) (fun _ _ => trivial)⟩ rfl rfl hl.1 rfl (lv_room (Nat.le_of_ble_eq_true rfl)) dX8_next_157 ⟨Nat.le_of_ble_eq_true rfl, Nat.le_of_ble_eq_true rfl⟩) hS (fun q _ h => zp_F0 hD hS hA q h) (zp_F0 hD hS hA) (fun r157 u t H locs ht hvm hw hB hz1 hk1 hS1 => zo0 hB ht hP hD hk1 (zp_F0 hD hS hA) hS1 (fun hP hK1 hD hS => ?_))
                      obtain ⟨hw, hfr157⟩ := hw
                      have hc157 : Ff_X8_isDigit r154.toInt = r157.toInt := hfr157.symm
                      have hF1 := hF1.trans (fl_lt_eq hc157.symm)
                      rcases hw with hw | hw
                      · obtain ⟨hw, h157_0, h157_1⟩ := hw
                        subst hw
                        have l157k0_r154 : (48 : Int) ≤ r154.toInt := h157_0
                        have u157k0_r154 : r154.toInt ≤ (57 : Int) := h157_1
                        have hF1 := hF1.trans (if_pos (by decide))
                        refine lv_if_eq (tgt := 197) hx hb dX8_next_160 (by decide) (fun c160 => absurd c160 (by decide +kernel)) (fun _ => ?_)
                        refine lv_iload_n hx hb dX8_next_163 rfl (lv_at hl 2 rfl) ?_
                        refine lv_iconst (v := 3) hx hb dX8_next_164 zk_iconst_3 ?_
                        have J188 : ∀ (j188a0_7 : Int32) (H : Heap) (locs : List Loc) (ls : Array Slot), (SX152 = Gf_X8_next_188_1 j152l3.toInt j152l1.toInt j188a0_7.toInt) → va_P (dC, dI) vwCl [(a0, .inr (8, [a0g_0, Value.ref a0_1, a0g_2, Value.int a0_3, Value.int j5l1, Value.int a0_5, Value.int a0_6, Value.int j188a0_7, Value.int 0, a0g_9, a0g_10, a0g_11, Value.ref a0_12, a0g_13, a0g_14, a0g_15, a0g_16, a0g_17, a0g_18, a0g_19, a0g_20, a0g_21, a0g_22, a0g_23, a0g_24, a0g_25, a0g_26, a0g_27, a0g_28, a0g_29, a0g_30, a0g_31, a0g_32, a0g_33, a0g_34, a0g_35, a0g_36, a0g_37, a0g_38, a0g_39])), (a0_1, .inl (ka0_1, 900, .inl (fa0_1))), (a0_12, .inl (ka0_12, 8, .inl (fa0_12)))] H → va_D A [(a0, .inr (8, [a0g_0, Value.ref a0_1, a0g_2, Value.int a0_3, Value.int j5l1, Value.int a0_5, Value.int a0_6, Value.int j188a0_7, Value.int 0, a0g_9, a0g_10, a0g_11, Value.ref a0_12, a0g_13, a0g_14, a0g_15, a0g_16, a0g_17, a0g_18, a0g_19, a0g_20, a0g_21, a0g_22, a0g_23, a0g_24, a0g_25, a0g_26, a0g_27, a0g_28, a0g_29, a0g_30, a0g_31, a0g_32, a0g_33, a0g_34, a0g_35, a0g_36, a0g_37, a0g_38, a0g_39])), (a0_1, .inl (ka0_1, 900, .inl (fa0_1))), (a0_12, .inl (ka0_12, 8, .inl (fa0_12)))] → va_S A s.heap H locs → lv_has ls 4 [(0, .ref a0), (1, .int j152l1), (3, .int j152l3)] → K H locs (F0 m 188 ls []) := by
                          intro j188a0_7 H locs ls  hF1 hP hD hS hl
                          refine (hK0 _ _ _).mpr ?_
                          have hF1 := hF1.trans (Gf_X8_next_188_1.eq_1 j152l3.toInt j152l1.toInt j188a0_7.toInt)
                          obtain ⟨x188, ex188⟩ : ∃ y : Int32, y = j152l3 + Int32.ofInt 1 := ⟨_, rfl⟩
                          refine lv_iinc (v := x188) (lv' := [(3, .int x188), (0, .ref a0), (1, .int j152l1)]) hx hb dX8_next_188 hl (k := 2) rfl ex188.symm (by decide) rfl (fun ls hl => ?_)
                          have fqx188 := fl_iadd_eq ex188
                          have hF1 := hF1.trans (fl_lt_eq (show x188.toInt = fl_iadd j152l3.toInt 1 from fqx188))
                          obtain ⟨x191, ex191⟩ : ∃ y : Int32, y = j152l1 + Int32.ofInt 1 := ⟨_, rfl⟩
                          have qx191 : x191.toInt = j152l1.toInt + 1 := ai_inc ex191 (by decide) (by decide) u154k1_j152l1 (by decide)
                          have bx191 : (1 : Int) ≤ x191.toInt ∧ x191.toInt ≤ 900 := ⟨by rw [qx191]; exact Int.add_le_add bj152l1_l (Int.le_refl _), by rw [qx191]; exact Int.add_le_add u154k1_j152l1 (Int.le_refl _)⟩
                          refine lv_iinc (v := x191) (lv' := [(1, .int x191), (3, .int x188), (0, .ref a0)]) hx hb dX8_next_191 hl (k := 2) rfl ex191.symm (by decide) rfl (fun ls hl => ?_)
                          have hF1 := hF1.trans (fl_lt_eq (show x191.toInt = j152l1.toInt + 1 from qx191))
                          refine lv_goto (tgt := 152) hx hb dX8_next_194 (by decide) ?_
                          exact (hK0 _ _ _).mp (ih152 x188 x191 j188a0_7 _ _ _ (by first | exact zg_s hm152 qx191 | (have h0 := qx191; omega)) (Int.le_trans zq4 bx191.1) bx191.2 (by omega) (hF0.trans (fl_wh_l (hSX152.trans hF1))) hP hD hS (lv_sub hl [2, 0, 1] rfl))
                        refine lv_icmp_ge (tgt := 188) hx hb dX8_next_165 (by decide) (fun c165 => ?_) (fun c165 => ?_)
                        · have gc165 := ai_le c165
                          have l165t_j152l3 : (3 : Int) ≤ j152l3.toInt := Int.le_trans zq8 gc165
                          have hF1 := hF1.trans (if_pos (show 3 ≤ j152l3.toInt from gc165))
                          exact (hK0 _ _ _).mp (J188 j152a0_7 _ _ _   hF1 hP hD hS (lv_sub hl [0, 1, 2] rfl))
                        · have gc165 := ai_nle c165
                          have u165f_j152l3 : j152l3.toInt ≤ (2 : Int) := ai_lthi gc165 zq9
                          have hF1 := hF1.trans (if_neg (show ¬ (3 ≤ j152l3.toInt) from Int.not_le.mpr gc165))
                          refine lv_aload_n hx hb dX8_next_168 rfl (lv_at hl 0 rfl) ?_
                          refine lv_bipush (v := 10) hx hb dX8_next_169 zk_bipush_10 ?_
                          refine lv_aload_n hx hb dX8_next_171 rfl (lv_at hl 0 rfl) ?_
                          refine va_get (D := (dC, dI)) (ci := 8) (v := .int j152a0_7) (C := RX8) (T := TX8) (N := 40) hx hb hts zi_X8_next_8 hown hK hP 0 rfl rfl 7 (by decide) (hts (.fieldLink RX8 84 "WaxTurnsModel" "whole" "I") (List.mem_cons_of_mem _ (List.mem_append_left _ (List.mem_of_getElem? (i := 3) rfl)))) (fun _ h9 => h9) rfl dX8_next_172 ?_
                          refine lv_imul hx hb dX8_next_175 ?_
                          refine lv_topi (fun x175 ex175 => ?_)
                          have fqx175 := fl_imul_eq ex175
                          have hF1 := hF1.trans (fl_lt_eq (show x175.toInt = fl_imul 10 j152a0_7.toInt from fqx175))
                          refine lv_aload_n hx hb dX8_next_176 rfl (lv_at hl 0 rfl) ?_
                          refine lv_iload_n hx hb dX8_next_177 rfl (lv_at hl 1 rfl) ?_
                          have hKc := hK.sub (tys' := [(ka0_1, .int)]) [0] rfl
                          refine va_calli (va_runV (As := [.int j152l1]) (rest := [.int x175, .ref a0]) ⟨hx, hb, hml, hown, hts⟩ (f_X8_see l dC dI H.size a0 j152l1 a0g_0 a0g_2 (Value.int j5l1) (Value.int a0_5) (Value.int a0_6) (Value.int j152a0_7) (Value.int 0) a0g_9 a0g_10 a0g_11 (Value.ref a0_12) a0g_13 a0g_14 a0g_15 a0g_16 a0g_17 a0g_18 a0g_19 a0g_20 a0g_21 a0g_22 a0g_23 a0g_24 a0g_25 a0g_26 a0g_27 a0g_28 a0g_29 a0g_30 a0g_31 a0g_32 a0g_33 a0g_34 a0g_35 a0g_36 a0g_37 a0g_38 a0g_39 a0_1 a0_3 ka0_1 fa0_1 bj152l1_l (Int.le_trans u154k1_j152l1 zq145) ba0_3_l ba0_3_u) (cwV 1 hts gX8_next_X8_see rfl rfl rfl zd_X8_see ⟨Nat.le_of_ble_eq_true rfl, Nat.le_of_ble_eq_true rfl⟩) ⟨ax_blind (fun _ _ _ _ _ => trivial), zr_8 hKc (zp_P2 hP) (q0 := 0) rfl, ax_pre (zp_P2 hP) hKc (zp_D2 hD) (fun _ _ => trivial)⟩ rfl rfl hl.1 rfl (lv_room (Nat.le_of_ble_eq_true rfl)) dX8_next_178 ⟨Nat.le_of_ble_eq_true rfl, Nat.le_of_ble_eq_true rfl⟩) hS (fun q _ h => zp_F2 hD hS hA q h) (zp_F2 hD hS hA) (fun r178 u t H locs ht hvm hw hB hz1 hk1 hS1 => zo2 hB ht hP hD hk1 (zp_F2 hD hS hA) hS1 (fun hP hK1 hD hS => ?_))
                          obtain ⟨hw, hfr178⟩ := hw
                          have hc178 : Ff_X8_see j152l1.toInt a0_3.toInt (fl_A fa0_1) = r178.toInt := hfr178.symm
                          have hF1 := hF1.trans (fl_lt_eq hc178.symm)
                          rcases hw with hw | hw
                          · obtain ⟨hw, h178⟩ := hw
                            subst hw
                            have hF1 := hF1.trans (if_pos (show a0_3.toInt ≤ j152l1.toInt from h178))
                            refine lv_iadd hx hb dX8_next_181 ?_
                            refine lv_topi (fun x181 ex181 => ?_)
                            have fqx181 := fl_iadd_eq ex181
                            have hF1 := hF1.trans (fl_lt_eq (show x181.toInt = fl_iadd x175.toInt (-1) from fqx181))
                            refine lv_bipush (v := 48) hx hb dX8_next_182 zk_bipush_48 ?_
                            refine lv_isub hx hb dX8_next_184 ?_
                            refine lv_topi (fun x184 ex184 => ?_)
                            have fqx184 := fl_isub_eq ex184
                            have hF1 := hF1.trans (fl_lt_eq (show x184.toInt = fl_isub x181.toInt 48 from fqx184))
                            refine va_put (D := (dC, dI)) (ci := 8) (v := .int x184) (ty := .int) (C := RX8) (T := TX8) (N := 40) hx hb hts zi_X8_next_8 tyX8 tyX8_ok nmX8 hown hK hP hD hS 0 rfl rfl 7 (by decide) (hts (.fieldLink RX8 84 "WaxTurnsModel" "whole" "I") (List.mem_cons_of_mem _ (List.mem_append_left _ (List.mem_of_getElem? (i := 3) rfl)))) (fun _ h9 => h9) rfl (tyX8_ok 7 (by decide)) rfl rfl (Nat.le_of_ble_eq_true rfl) dX8_next_185 (fun H locs hP hD hS => ?_)
                            refine zs_0 (y := (a0, .inr (8, [a0g_0, Value.ref a0_1, a0g_2, Value.int a0_3, Value.int j5l1, Value.int a0_5, Value.int a0_6, Value.int x184, Value.int 0, a0g_9, a0g_10, a0g_11, Value.ref a0_12, a0g_13, a0g_14, a0g_15, a0g_16, a0g_17, a0g_18, a0g_19, a0g_20, a0g_21, a0g_22, a0g_23, a0g_24, a0g_25, a0g_26, a0g_27, a0g_28, a0g_29, a0g_30, a0g_31, a0g_32, a0g_33, a0g_34, a0g_35, a0g_36, a0g_37, a0g_38, a0g_39]))) hP hD rfl (fun hP hD => ?_)
                            exact (hK0 _ _ _).mp (J188 x184 _ _ _   hF1 hP hD hS (lv_sub hl [0, 1, 2] rfl))
                          · have h178 := hw
                            have u178k1_j152l1 : j152l1.toInt ≤ (899 : Int) := u154k1_j152l1
                            have hF1 := hF1.trans (if_neg (show ¬ (a0_3.toInt ≤ j152l1.toInt) from Int.not_le.mpr h178))
                            refine lv_iadd hx hb dX8_next_181 ?_
                            refine lv_topi (fun x181 ex181 => ?_)
                            have fqx181 := fl_iadd_eq ex181
                            have hF1 := hF1.trans (fl_lt_eq (show x181.toInt = fl_iadd x175.toInt r178.toInt from fqx181))
                            refine lv_bipush (v := 48) hx hb dX8_next_182 zk_bipush_48 ?_
                            refine lv_isub hx hb dX8_next_184 ?_
                            refine lv_topi (fun x184 ex184 => ?_)
                            have fqx184 := fl_isub_eq ex184
                            have hF1 := hF1.trans (fl_lt_eq (show x184.toInt = fl_isub x181.toInt 48 from fqx184))
                            refine va_put (D := (dC, dI)) (ci := 8) (v := .int x184) (ty := .int) (C := RX8) (T := TX8) (N := 40) hx hb hts zi_X8_next_8 tyX8 tyX8_ok nmX8 hown hK hP hD hS 0 rfl rfl 7 (by decide) (hts (.fieldLink RX8 84 "WaxTurnsModel" "whole" "I") (List.mem_cons_of_mem _ (List.mem_append_left _ (List.mem_of_getElem? (i := 3) rfl)))) (fun _ h9 => h9) rfl (tyX8_ok 7 (by decide)) rfl rfl (Nat.le_of_ble_eq_true rfl) dX8_next_185 (fun H locs hP hD hS => ?_)
                            refine zs_0 (y := (a0, .inr (8, [a0g_0, Value.ref a0_1, a0g_2, Value.int a0_3, Value.int j5l1, Value.int a0_5, Value.int a0_6, Value.int x184, Value.int 0, a0g_9, a0g_10, a0g_11, Value.ref a0_12, a0g_13, a0g_14, a0g_15, a0g_16, a0g_17, a0g_18, a0g_19, a0g_20, a0g_21, a0g_22, a0g_23, a0g_24, a0g_25, a0g_26, a0g_27, a0g_28, a0g_29, a0g_30, a0g_31, a0g_32, a0g_33, a0g_34, a0g_35, a0g_36, a0g_37, a0g_38, a0g_39]))) hP hD rfl (fun hP hD => ?_)
                            exact (hK0 _ _ _).mp (J188 x184 _ _ _   hF1 hP hD hS (lv_sub hl [0, 1, 2] rfl))
                      · subst hw
                        have hF1 := hF1.trans (if_neg (by decide))
                        refine lv_if_eq (tgt := 197) hx hb dX8_next_160 (by decide) (fun _ => ?_) (fun c160 => absurd (by decide +kernel) c160)
                        have hF0 := hF0.trans (fl_wh_r (hSX152.trans hF1))
                        refine lv_aload_n hx hb dX8_next_197 rfl (lv_at hl 0 rfl) ?_
                        refine lv_iload_n hx hb dX8_next_198 rfl (lv_at hl 1 rfl) ?_
                        refine va_put (D := (dC, dI)) (ci := 8) (v := .int j152l1) (ty := .int) (C := RX8) (T := TX8) (N := 40) hx hb hts zi_X8_next_8 tyX8 tyX8_ok nmX8 hown hK hP hD hS 0 rfl rfl 5 (by decide) (hts (.fieldLink RX8 71 "WaxTurnsModel" "end" "I") (List.mem_cons_of_mem _ (List.mem_append_left _ (List.mem_of_getElem? (i := 0) rfl)))) (fun _ h9 => h9) rfl (tyX8_ok 5 (by decide)) rfl rfl (Nat.le_of_ble_eq_true rfl) dX8_next_199 (fun H locs hP hD hS => ?_)
                        refine zs_0 (y := (a0, .inr (8, [a0g_0, Value.ref a0_1, a0g_2, Value.int a0_3, Value.int j5l1, Value.int j152l1, Value.int a0_6, Value.int j152a0_7, Value.int 0, a0g_9, a0g_10, a0g_11, Value.ref a0_12, a0g_13, a0g_14, a0g_15, a0g_16, a0g_17, a0g_18, a0g_19, a0g_20, a0g_21, a0g_22, a0g_23, a0g_24, a0g_25, a0g_26, a0g_27, a0g_28, a0g_29, a0g_30, a0g_31, a0g_32, a0g_33, a0g_34, a0g_35, a0g_36, a0g_37, a0g_38, a0g_39]))) hP hD rfl (fun hP hD => ?_)
                        refine lv_aload_n hx hb dX8_next_202 rfl (lv_at hl 0 rfl) ?_
                        refine lv_iload_n hx hb dX8_next_203 rfl (lv_at hl 2 rfl) ?_
                        refine lv_iconst (v := 3) hx hb dX8_next_204 zk_iconst_3 ?_
                        refine lv_icmp_le (tgt := 212) hx hb dX8_next_205 (by decide) (fun c205 => ?_) (fun c205 => ?_)
                        · have gc205 := ai_le c205
                          have u205t_j152l3 : j152l3.toInt ≤ (3 : Int) := Int.le_trans gc205 zq9
                          have hF0 := hF0.trans (if_pos (show j152l3.toInt ≤ 3 from gc205))
                          refine lv_iconst (v := 3) hx hb dX8_next_212 zk_iconst_3 ?_
                          refine va_put (D := (dC, dI)) (ci := 8) (v := .int 3) (ty := .int) (C := RX8) (T := TX8) (N := 40) hx hb hts zi_X8_next_8 tyX8 tyX8_ok nmX8 hown hK hP hD hS 0 rfl rfl 6 (by decide) (hts (.fieldLink RX8 87 "WaxTurnsModel" "token" "I") (List.mem_cons_of_mem _ (List.mem_append_left _ (List.mem_of_getElem? (i := 4) rfl)))) (fun _ h9 => h9) rfl (tyX8_ok 6 (by decide)) rfl rfl (Nat.le_of_ble_eq_true rfl) dX8_next_213 (fun H locs hP hD hS => ?_)
                          refine zs_0 (y := (a0, .inr (8, [a0g_0, Value.ref a0_1, a0g_2, Value.int a0_3, Value.int j5l1, Value.int j152l1, Value.int 3, Value.int j152a0_7, Value.int 0, a0g_9, a0g_10, a0g_11, Value.ref a0_12, a0g_13, a0g_14, a0g_15, a0g_16, a0g_17, a0g_18, a0g_19, a0g_20, a0g_21, a0g_22, a0g_23, a0g_24, a0g_25, a0g_26, a0g_27, a0g_28, a0g_29, a0g_30, a0g_31, a0g_32, a0g_33, a0g_34, a0g_35, a0g_36, a0g_37, a0g_38, a0g_39]))) hP hD rfl (fun hP hD => ?_)
                          refine lv_goto (tgt := 241) hx hb dX8_next_216 (by decide) ?_
                          have hFe : FX = (j5l1.toInt, j152l1.toInt, 3, j152a0_7.toInt, 0, (fl_A fa0_12)) := hF0
                          exact W.vret hx hb hr (fun t ht hW => ⟨⟨(), rfl, trivial, j5l1, j152l1, 3, j152a0_7, 0, fa0_12, ⟨bj152l1_l, Int.le_trans u154k1_j152l1 (by decide)⟩, ⟨zq5, Int.le_trans zq6 (by decide)⟩, (fun h9 => absurd h9 (by decide)), ⟨by omega, Or.inl (by decide)⟩, hFe, by rw [ht]; exact hP, va_K.moved hW.alike hK, hD⟩, hS.F ht⟩) hS.2.2 dX8_next_241
                        · have gc205 := ai_nle c205
                          have l205f_j152l3 : (4 : Int) ≤ j152l3.toInt := ai_ltlo gc205 zq8
                          have hF0 := hF0.trans (if_neg (show ¬ (j152l3.toInt ≤ 3) from Int.not_le.mpr gc205))
                          refine lv_iconst (v := 1) hx hb dX8_next_208 zk_iconst_1 ?_
                          refine lv_goto (tgt := 213) hx hb dX8_next_209 (by decide) ?_
                          refine va_put (D := (dC, dI)) (ci := 8) (v := .int 1) (ty := .int) (C := RX8) (T := TX8) (N := 40) hx hb hts zi_X8_next_8 tyX8 tyX8_ok nmX8 hown hK hP hD hS 0 rfl rfl 6 (by decide) (hts (.fieldLink RX8 87 "WaxTurnsModel" "token" "I") (List.mem_cons_of_mem _ (List.mem_append_left _ (List.mem_of_getElem? (i := 4) rfl)))) (fun _ h9 => h9) rfl (tyX8_ok 6 (by decide)) rfl rfl (Nat.le_of_ble_eq_true rfl) dX8_next_213 (fun H locs hP hD hS => ?_)
                          refine zs_0 (y := (a0, .inr (8, [a0g_0, Value.ref a0_1, a0g_2, Value.int a0_3, Value.int j5l1, Value.int j152l1, Value.int 1, Value.int j152a0_7, Value.int 0, a0g_9, a0g_10, a0g_11, Value.ref a0_12, a0g_13, a0g_14, a0g_15, a0g_16, a0g_17, a0g_18, a0g_19, a0g_20, a0g_21, a0g_22, a0g_23, a0g_24, a0g_25, a0g_26, a0g_27, a0g_28, a0g_29, a0g_30, a0g_31, a0g_32, a0g_33, a0g_34, a0g_35, a0g_36, a0g_37, a0g_38, a0g_39]))) hP hD rfl (fun hP hD => ?_)
                          refine lv_goto (tgt := 241) hx hb dX8_next_216 (by decide) ?_
                          have hFe : FX = (j5l1.toInt, j152l1.toInt, 1, j152a0_7.toInt, 0, (fl_A fa0_12)) := hF0
                          exact W.vret hx hb hr (fun t ht hW => ⟨⟨(), rfl, trivial, j5l1, j152l1, 1, j152a0_7, 0, fa0_12, ⟨bj152l1_l, Int.le_trans u154k1_j152l1 (by decide)⟩, ⟨zq5, Int.le_trans zq6 (by decide)⟩, (fun h9 => absurd h9 (by decide)), ⟨by omega, Or.inl (by decide)⟩, hFe, by rw [ht]; exact hP, va_K.moved hW.alike hK, hD⟩, hS.F ht⟩) hS.2.2 dX8_next_241
                exact (hK0 _ _ _).mp (J152 901 0 j5l1 0 _ _ _ (by have h1 : (0 : Int) ≤ j5l1.toInt := bj5l1_l; have h2 : j5l1.toInt ≤ (899 : Int) := u28k1_j5l1; omega) bj5l1_l (Int.le_trans u28k1_j5l1 zq145) (by omega) (by rw [show (0 : Int32).toInt = 0 from by decide]; exact hF0) hP hD hS (lv_sub hl [2, 3, 0] rfl))
              · subst hw
                have hF0 := hF0.trans (if_neg (by decide))
                refine lv_if_eq (tgt := 219) hx hb dX8_next_147 (by decide) (fun _ => ?_) (fun c147 => absurd (by decide +kernel) c147)
                refine lv_aload_n hx hb dX8_next_219 rfl (lv_at hl 1 rfl) ?_
                refine lv_iload_n hx hb dX8_next_220 rfl (lv_at hl 2 rfl) ?_
                refine lv_iconst (v := 1) hx hb dX8_next_221 zk_iconst_1 ?_
                refine lv_iadd hx hb dX8_next_222 ?_
                refine lv_topi (fun x222 ex222 => ?_)
                have qx222 : x222.toInt = j5l1.toInt + (1 : Int32).toInt := ai_add ex222 ⟨bj5l1_l, u28k1_j5l1⟩ ⟨zq1, zq0⟩ (by decide) (by decide)
                have bx222 : (1 : Int) ≤ x222.toInt ∧ x222.toInt ≤ 900 := ⟨by rw [qx222]; exact Int.add_le_add bj5l1_l zq1, by rw [qx222]; exact Int.add_le_add u28k1_j5l1 zq0⟩
                have wx222 : x222.toInt = j5l1.toInt + 1 := qx222
                have hF0 := hF0.trans (fl_lt_eq (show x222.toInt = j5l1.toInt + 1 from qx222))
                refine va_put (D := (dC, dI)) (ci := 8) (v := .int x222) (ty := .int) (C := RX8) (T := TX8) (N := 40) hx hb hts zi_X8_next_8 tyX8 tyX8_ok nmX8 hown hK hP hD hS 0 rfl rfl 5 (by decide) (hts (.fieldLink RX8 71 "WaxTurnsModel" "end" "I") (List.mem_cons_of_mem _ (List.mem_append_left _ (List.mem_of_getElem? (i := 0) rfl)))) (fun _ h9 => h9) rfl (tyX8_ok 5 (by decide)) rfl rfl (Nat.le_of_ble_eq_true rfl) dX8_next_223 (fun H locs hP hD hS => ?_)
                refine zs_0 (y := (a0, .inr (8, [a0g_0, Value.ref a0_1, a0g_2, Value.int a0_3, Value.int j5l1, Value.int x222, Value.int a0_6, Value.int 0, Value.int 0, a0g_9, a0g_10, a0g_11, Value.ref a0_12, a0g_13, a0g_14, a0g_15, a0g_16, a0g_17, a0g_18, a0g_19, a0g_20, a0g_21, a0g_22, a0g_23, a0g_24, a0g_25, a0g_26, a0g_27, a0g_28, a0g_29, a0g_30, a0g_31, a0g_32, a0g_33, a0g_34, a0g_35, a0g_36, a0g_37, a0g_38, a0g_39]))) hP hD rfl (fun hP hD => ?_)
                refine lv_aload_n hx hb dX8_next_226 rfl (lv_at hl 1 rfl) ?_
                refine lv_iload_n hx hb dX8_next_227 rfl (lv_at hl 0 rfl) ?_
                refine lv_bipush (v := 59) hx hb dX8_next_228 zk_bipush_59 ?_
                refine lv_icmp_ne (tgt := 237) hx hb dX8_next_230 (by decide) (fun c230 => ?_) (fun c230 => ?_)
                · have gc230 := ai_ne c230
                  have hF0 := hF0.trans (if_neg (show ¬ (r28.toInt = 59) from  gc230))
                  refine lv_iconst (v := 1) hx hb dX8_next_237 zk_iconst_1 ?_
                  refine va_put (D := (dC, dI)) (ci := 8) (v := .int 1) (ty := .int) (C := RX8) (T := TX8) (N := 40) hx hb hts zi_X8_next_8 tyX8 tyX8_ok nmX8 hown hK hP hD hS 0 rfl rfl 6 (by decide) (hts (.fieldLink RX8 87 "WaxTurnsModel" "token" "I") (List.mem_cons_of_mem _ (List.mem_append_left _ (List.mem_of_getElem? (i := 4) rfl)))) (fun _ h9 => h9) rfl (tyX8_ok 6 (by decide)) rfl rfl (Nat.le_of_ble_eq_true rfl) dX8_next_238 (fun H locs hP hD hS => ?_)
                  refine zs_0 (y := (a0, .inr (8, [a0g_0, Value.ref a0_1, a0g_2, Value.int a0_3, Value.int j5l1, Value.int x222, Value.int 1, Value.int 0, Value.int 0, a0g_9, a0g_10, a0g_11, Value.ref a0_12, a0g_13, a0g_14, a0g_15, a0g_16, a0g_17, a0g_18, a0g_19, a0g_20, a0g_21, a0g_22, a0g_23, a0g_24, a0g_25, a0g_26, a0g_27, a0g_28, a0g_29, a0g_30, a0g_31, a0g_32, a0g_33, a0g_34, a0g_35, a0g_36, a0g_37, a0g_38, a0g_39]))) hP hD rfl (fun hP hD => ?_)
                  have hFe : FX = (j5l1.toInt, x222.toInt, 1, 0, 0, (fl_A fa0_12)) := hF0
                  exact W.vret hx hb hr (fun t ht hW => ⟨⟨(), rfl, trivial, j5l1, x222, 1, 0, 0, fa0_12, ⟨Int.le_trans (by decide) bx222.1, bx222.2⟩, ⟨zq5, Int.le_trans zq6 (by decide)⟩, (fun h9 => absurd h9 (by decide)), ⟨by omega, Or.inl (by decide)⟩, hFe, by rw [ht]; exact hP, va_K.moved hW.alike hK, hD⟩, hS.F ht⟩) hS.2.2 dX8_next_241
                · have gc230 := ai_eq c230
                  have u230f_r28 : r28.toInt ≤ (59 : Int) := Int.le_trans (Int.le_of_eq gc230) zq146
                  have l230f_r28 : (59 : Int) ≤ r28.toInt := Int.le_trans zq147 (Int.le_of_eq gc230.symm)
                  have hF0 := hF0.trans (if_pos (show r28.toInt = 59 from gc230))
                  refine lv_iload_n hx hb dX8_next_233 rfl (lv_at hl 0 rfl) ?_
                  refine lv_goto (tgt := 238) hx hb dX8_next_234 (by decide) ?_
                  refine va_put (D := (dC, dI)) (ci := 8) (v := .int r28) (ty := .int) (C := RX8) (T := TX8) (N := 40) hx hb hts zi_X8_next_8 tyX8 tyX8_ok nmX8 hown hK hP hD hS 0 rfl rfl 6 (by decide) (hts (.fieldLink RX8 87 "WaxTurnsModel" "token" "I") (List.mem_cons_of_mem _ (List.mem_append_left _ (List.mem_of_getElem? (i := 4) rfl)))) (fun _ h9 => h9) rfl (tyX8_ok 6 (by decide)) rfl rfl (Nat.le_of_ble_eq_true rfl) dX8_next_238 (fun H locs hP hD hS => ?_)
                  refine zs_0 (y := (a0, .inr (8, [a0g_0, Value.ref a0_1, a0g_2, Value.int a0_3, Value.int j5l1, Value.int x222, Value.int r28, Value.int 0, Value.int 0, a0g_9, a0g_10, a0g_11, Value.ref a0_12, a0g_13, a0g_14, a0g_15, a0g_16, a0g_17, a0g_18, a0g_19, a0g_20, a0g_21, a0g_22, a0g_23, a0g_24, a0g_25, a0g_26, a0g_27, a0g_28, a0g_29, a0g_30, a0g_31, a0g_32, a0g_33, a0g_34, a0g_35, a0g_36, a0g_37, a0g_38, a0g_39]))) hP hD rfl (fun hP hD => ?_)
                  have hFe : FX = (j5l1.toInt, x222.toInt, r28.toInt, 0, 0, (fl_A fa0_12)) := hF0
                  exact W.vret hx hb hr (fun t ht hW => ⟨⟨(), rfl, trivial, j5l1, x222, r28, 0, 0, fa0_12, ⟨Int.le_trans (by decide) bx222.1, bx222.2⟩, ⟨zq5, Int.le_trans zq6 (by decide)⟩, (fun _ => by decide), ⟨by omega, Or.inr (by omega)⟩, hFe, by rw [ht]; exact hP, va_K.moved hW.alike hK, hD⟩, hS.F ht⟩) hS.2.2 dX8_next_241
          · have gc44 := ai_eq c44
            have u44f_r28 : r28.toInt ≤ (-1 : Int) := Int.le_trans (Int.le_of_eq gc44) zq71
            have l44f_r28 : (-1 : Int) ≤ r28.toInt := Int.le_trans zq70 (Int.le_of_eq gc44.symm)
            have hF0 := hF0.trans (if_pos (show r28.toInt = (-1) from gc44))
            refine lv_aload_n hx hb dX8_next_47 rfl (lv_at hl 1 rfl) ?_
            refine lv_iconst (v := 0) hx hb dX8_next_48 zk_iconst_0 ?_
            refine va_put (D := (dC, dI)) (ci := 8) (v := .int 0) (ty := .int) (C := RX8) (T := TX8) (N := 40) hx hb hts zi_X8_next_8 tyX8 tyX8_ok nmX8 hown hK hP hD hS 0 rfl rfl 6 (by decide) (hts (.fieldLink RX8 87 "WaxTurnsModel" "token" "I") (List.mem_cons_of_mem _ (List.mem_append_left _ (List.mem_of_getElem? (i := 4) rfl)))) (fun _ h9 => h9) rfl (tyX8_ok 6 (by decide)) rfl rfl (Nat.le_of_ble_eq_true rfl) dX8_next_49 (fun H locs hP hD hS => ?_)
            refine zs_0 (y := (a0, .inr (8, [a0g_0, Value.ref a0_1, a0g_2, Value.int a0_3, Value.int j5l1, Value.int a0_5, Value.int 0, Value.int 0, Value.int 0, a0g_9, a0g_10, a0g_11, Value.ref a0_12, a0g_13, a0g_14, a0g_15, a0g_16, a0g_17, a0g_18, a0g_19, a0g_20, a0g_21, a0g_22, a0g_23, a0g_24, a0g_25, a0g_26, a0g_27, a0g_28, a0g_29, a0g_30, a0g_31, a0g_32, a0g_33, a0g_34, a0g_35, a0g_36, a0g_37, a0g_38, a0g_39]))) hP hD rfl (fun hP hD => ?_)
            refine lv_aload_n hx hb dX8_next_52 rfl (lv_at hl 1 rfl) ?_
            refine lv_iload_n hx hb dX8_next_53 rfl (lv_at hl 2 rfl) ?_
            refine va_put (D := (dC, dI)) (ci := 8) (v := .int j5l1) (ty := .int) (C := RX8) (T := TX8) (N := 40) hx hb hts zi_X8_next_8 tyX8 tyX8_ok nmX8 hown hK hP hD hS 0 rfl rfl 5 (by decide) (hts (.fieldLink RX8 71 "WaxTurnsModel" "end" "I") (List.mem_cons_of_mem _ (List.mem_append_left _ (List.mem_of_getElem? (i := 0) rfl)))) (fun _ h9 => h9) rfl (tyX8_ok 5 (by decide)) rfl rfl (Nat.le_of_ble_eq_true rfl) dX8_next_54 (fun H locs hP hD hS => ?_)
            refine zs_0 (y := (a0, .inr (8, [a0g_0, Value.ref a0_1, a0g_2, Value.int a0_3, Value.int j5l1, Value.int j5l1, Value.int 0, Value.int 0, Value.int 0, a0g_9, a0g_10, a0g_11, Value.ref a0_12, a0g_13, a0g_14, a0g_15, a0g_16, a0g_17, a0g_18, a0g_19, a0g_20, a0g_21, a0g_22, a0g_23, a0g_24, a0g_25, a0g_26, a0g_27, a0g_28, a0g_29, a0g_30, a0g_31, a0g_32, a0g_33, a0g_34, a0g_35, a0g_36, a0g_37, a0g_38, a0g_39]))) hP hD rfl (fun hP hD => ?_)
            refine lv_goto (tgt := 241) hx hb dX8_next_57 (by decide) ?_
            have hFe : FX = (j5l1.toInt, j5l1.toInt, 0, 0, 0, (fl_A fa0_12)) := hF0
            exact W.vret hx hb hr (fun t ht hW => ⟨⟨(), rfl, trivial, j5l1, j5l1, 0, 0, 0, fa0_12, ⟨bj5l1_l, Int.le_trans u28k1_j5l1 (by decide)⟩, ⟨zq5, Int.le_trans zq6 (by decide)⟩, (fun h9 => absurd h9 (by decide)), ⟨by omega, Or.inl (by decide)⟩, hFe, by rw [ht]; exact hP, va_K.moved hW.alike hK, hD⟩, hS.F ht⟩) hS.2.2 dX8_next_241
      · have h7 := hw
        have u7k1_j5l1 : j5l1.toInt ≤ (899 : Int) := by have h1 := h7; have h2 := ba0_3_u; omega
        have hF1 := hF1.trans (if_neg (show ¬ (a0_3.toInt ≤ j5l1.toInt) from Int.not_le.mpr h7))
        refine lv_bipush (v := 32) hx hb dX8_next_10 zk_bipush_32 ?_
        refine lv_icmp_ne (tgt := 21) hx hb dX8_next_12 (by decide) (fun c12 => ?_) (fun c12 => ?_)
        · have gc12 := ai_ne c12
          have hF1 := hF1.trans (if_neg (show ¬ (r7.toInt = 32) from  gc12))
          have hF0 := hF0.trans (fl_wh_r (hSX5.trans hF1))
          refine lv_aload_n hx hb dX8_next_21 rfl (lv_at hl 0 rfl) ?_
          refine lv_iload_n hx hb dX8_next_22 rfl (lv_at hl 1 rfl) ?_
          refine va_put (D := (dC, dI)) (ci := 8) (v := .int j5l1) (ty := .int) (C := RX8) (T := TX8) (N := 40) hx hb hts zi_X8_next_8 tyX8 tyX8_ok nmX8 hown hK hP hD hS 0 rfl rfl 4 (by decide) (hts (.fieldLink RX8 78 "WaxTurnsModel" "at" "I") (List.mem_cons_of_mem _ (List.mem_append_left _ (List.mem_of_getElem? (i := 1) rfl)))) (fun _ h9 => h9) rfl (tyX8_ok 4 (by decide)) rfl rfl (Nat.le_of_ble_eq_true rfl) dX8_next_23 (fun H locs hP hD hS => ?_)
          refine zs_0 (y := (a0, .inr (8, [a0g_0, Value.ref a0_1, a0g_2, Value.int a0_3, Value.int j5l1, Value.int a0_5, Value.int a0_6, Value.int a0_7, Value.int a0_8, a0g_9, a0g_10, a0g_11, Value.ref a0_12, a0g_13, a0g_14, a0g_15, a0g_16, a0g_17, a0g_18, a0g_19, a0g_20, a0g_21, a0g_22, a0g_23, a0g_24, a0g_25, a0g_26, a0g_27, a0g_28, a0g_29, a0g_30, a0g_31, a0g_32, a0g_33, a0g_34, a0g_35, a0g_36, a0g_37, a0g_38, a0g_39]))) hP hD rfl (fun hP hD => ?_)
          refine lv_aload_n hx hb dX8_next_26 rfl (lv_at hl 0 rfl) ?_
          refine lv_iload_n hx hb dX8_next_27 rfl (lv_at hl 1 rfl) ?_
          have hKc := hK.sub (tys' := [(ka0_1, .int)]) [0] rfl
          refine va_calli (va_runV (As := [.int j5l1]) (rest := []) ⟨hx, hb, hml, hown, hts⟩ (f_X8_see l dC dI H.size a0 j5l1 a0g_0 a0g_2 (Value.int j5l1) (Value.int a0_5) (Value.int a0_6) (Value.int a0_7) (Value.int a0_8) a0g_9 a0g_10 a0g_11 (Value.ref a0_12) a0g_13 a0g_14 a0g_15 a0g_16 a0g_17 a0g_18 a0g_19 a0g_20 a0g_21 a0g_22 a0g_23 a0g_24 a0g_25 a0g_26 a0g_27 a0g_28 a0g_29 a0g_30 a0g_31 a0g_32 a0g_33 a0g_34 a0g_35 a0g_36 a0g_37 a0g_38 a0g_39 a0_1 a0_3 ka0_1 fa0_1 bj5l1_l (Int.le_trans u7k1_j5l1 zq145) ba0_3_l ba0_3_u) (cwV 1 hts gX8_next_X8_see rfl rfl rfl zd_X8_see ⟨Nat.le_of_ble_eq_true rfl, Nat.le_of_ble_eq_true rfl⟩) ⟨ax_blind (fun _ _ _ _ _ => trivial), zr_8 hKc (zp_P2 hP) (q0 := 0) rfl, ax_pre (zp_P2 hP) hKc (zp_D2 hD) (fun _ _ => trivial)⟩ rfl rfl hl.1 rfl (lv_room (Nat.le_of_ble_eq_true rfl)) dX8_next_28 ⟨Nat.le_of_ble_eq_true rfl, Nat.le_of_ble_eq_true rfl⟩) hS (fun q _ h => zp_F2 hD hS hA q h) (zp_F2 hD hS hA) (fun r28 u t H locs ht hvm hw hB hz1 hk1 hS1 => zo2 hB ht hP hD hk1 (zp_F2 hD hS hA) hS1 (fun hP hK1 hD hS => ?_))
          obtain ⟨hw, hfr28⟩ := hw
          have hc28 : Ff_X8_see j5l1.toInt a0_3.toInt (fl_A fa0_1) = r28.toInt := hfr28.symm
          have hF0 := hF0.trans (fl_lt_eq hc28.symm)
          rcases hw with hw | hw
          · obtain ⟨hw, h28⟩ := hw
            subst hw
            have hF0 := hF0.trans (if_pos (show a0_3.toInt ≤ j5l1.toInt from h28))
            refine lv_istore_n (lv' := [(2, .int (-1)), (0, .ref a0), (1, .int j5l1)]) hx hb dX8_next_31 rfl hl (by decide) rfl (fun ls hl => ?_)
            refine lv_aload_n hx hb dX8_next_32 rfl (lv_at hl 1 rfl) ?_
            refine lv_iconst (v := 0) hx hb dX8_next_33 zk_iconst_0 ?_
            refine va_put (D := (dC, dI)) (ci := 8) (v := .int 0) (ty := .int) (C := RX8) (T := TX8) (N := 40) hx hb hts zi_X8_next_8 tyX8 tyX8_ok nmX8 hown hK hP hD hS 0 rfl rfl 8 (by decide) (hts (.fieldLink RX8 81 "WaxTurnsModel" "nameSize" "I") (List.mem_cons_of_mem _ (List.mem_append_left _ (List.mem_of_getElem? (i := 2) rfl)))) (fun _ h9 => h9) rfl (tyX8_ok 8 (by decide)) rfl rfl (Nat.le_of_ble_eq_true rfl) dX8_next_34 (fun H locs hP hD hS => ?_)
            refine zs_0 (y := (a0, .inr (8, [a0g_0, Value.ref a0_1, a0g_2, Value.int a0_3, Value.int j5l1, Value.int a0_5, Value.int a0_6, Value.int a0_7, Value.int 0, a0g_9, a0g_10, a0g_11, Value.ref a0_12, a0g_13, a0g_14, a0g_15, a0g_16, a0g_17, a0g_18, a0g_19, a0g_20, a0g_21, a0g_22, a0g_23, a0g_24, a0g_25, a0g_26, a0g_27, a0g_28, a0g_29, a0g_30, a0g_31, a0g_32, a0g_33, a0g_34, a0g_35, a0g_36, a0g_37, a0g_38, a0g_39]))) hP hD rfl (fun hP hD => ?_)
            refine lv_aload_n hx hb dX8_next_37 rfl (lv_at hl 1 rfl) ?_
            refine lv_iconst (v := 0) hx hb dX8_next_38 zk_iconst_0 ?_
            refine va_put (D := (dC, dI)) (ci := 8) (v := .int 0) (ty := .int) (C := RX8) (T := TX8) (N := 40) hx hb hts zi_X8_next_8 tyX8 tyX8_ok nmX8 hown hK hP hD hS 0 rfl rfl 7 (by decide) (hts (.fieldLink RX8 84 "WaxTurnsModel" "whole" "I") (List.mem_cons_of_mem _ (List.mem_append_left _ (List.mem_of_getElem? (i := 3) rfl)))) (fun _ h9 => h9) rfl (tyX8_ok 7 (by decide)) rfl rfl (Nat.le_of_ble_eq_true rfl) dX8_next_39 (fun H locs hP hD hS => ?_)
            refine zs_0 (y := (a0, .inr (8, [a0g_0, Value.ref a0_1, a0g_2, Value.int a0_3, Value.int j5l1, Value.int a0_5, Value.int a0_6, Value.int 0, Value.int 0, a0g_9, a0g_10, a0g_11, Value.ref a0_12, a0g_13, a0g_14, a0g_15, a0g_16, a0g_17, a0g_18, a0g_19, a0g_20, a0g_21, a0g_22, a0g_23, a0g_24, a0g_25, a0g_26, a0g_27, a0g_28, a0g_29, a0g_30, a0g_31, a0g_32, a0g_33, a0g_34, a0g_35, a0g_36, a0g_37, a0g_38, a0g_39]))) hP hD rfl (fun hP hD => ?_)
            refine lv_iload_n hx hb dX8_next_42 rfl (lv_at hl 0 rfl) ?_
            refine lv_iconst (v := (-1)) hx hb dX8_next_43 zk_iconst_n1 ?_
            refine lv_icmp_ne (tgt := 60) hx hb dX8_next_44 (by decide) (fun c44 => absurd (by decide +kernel) c44) (fun _ => ?_)
            refine lv_aload_n hx hb dX8_next_47 rfl (lv_at hl 1 rfl) ?_
            refine lv_iconst (v := 0) hx hb dX8_next_48 zk_iconst_0 ?_
            refine va_put (D := (dC, dI)) (ci := 8) (v := .int 0) (ty := .int) (C := RX8) (T := TX8) (N := 40) hx hb hts zi_X8_next_8 tyX8 tyX8_ok nmX8 hown hK hP hD hS 0 rfl rfl 6 (by decide) (hts (.fieldLink RX8 87 "WaxTurnsModel" "token" "I") (List.mem_cons_of_mem _ (List.mem_append_left _ (List.mem_of_getElem? (i := 4) rfl)))) (fun _ h9 => h9) rfl (tyX8_ok 6 (by decide)) rfl rfl (Nat.le_of_ble_eq_true rfl) dX8_next_49 (fun H locs hP hD hS => ?_)
            refine zs_0 (y := (a0, .inr (8, [a0g_0, Value.ref a0_1, a0g_2, Value.int a0_3, Value.int j5l1, Value.int a0_5, Value.int 0, Value.int 0, Value.int 0, a0g_9, a0g_10, a0g_11, Value.ref a0_12, a0g_13, a0g_14, a0g_15, a0g_16, a0g_17, a0g_18, a0g_19, a0g_20, a0g_21, a0g_22, a0g_23, a0g_24, a0g_25, a0g_26, a0g_27, a0g_28, a0g_29, a0g_30, a0g_31, a0g_32, a0g_33, a0g_34, a0g_35, a0g_36, a0g_37, a0g_38, a0g_39]))) hP hD rfl (fun hP hD => ?_)
            refine lv_aload_n hx hb dX8_next_52 rfl (lv_at hl 1 rfl) ?_
            refine lv_iload_n hx hb dX8_next_53 rfl (lv_at hl 2 rfl) ?_
            refine va_put (D := (dC, dI)) (ci := 8) (v := .int j5l1) (ty := .int) (C := RX8) (T := TX8) (N := 40) hx hb hts zi_X8_next_8 tyX8 tyX8_ok nmX8 hown hK hP hD hS 0 rfl rfl 5 (by decide) (hts (.fieldLink RX8 71 "WaxTurnsModel" "end" "I") (List.mem_cons_of_mem _ (List.mem_append_left _ (List.mem_of_getElem? (i := 0) rfl)))) (fun _ h9 => h9) rfl (tyX8_ok 5 (by decide)) rfl rfl (Nat.le_of_ble_eq_true rfl) dX8_next_54 (fun H locs hP hD hS => ?_)
            refine zs_0 (y := (a0, .inr (8, [a0g_0, Value.ref a0_1, a0g_2, Value.int a0_3, Value.int j5l1, Value.int j5l1, Value.int 0, Value.int 0, Value.int 0, a0g_9, a0g_10, a0g_11, Value.ref a0_12, a0g_13, a0g_14, a0g_15, a0g_16, a0g_17, a0g_18, a0g_19, a0g_20, a0g_21, a0g_22, a0g_23, a0g_24, a0g_25, a0g_26, a0g_27, a0g_28, a0g_29, a0g_30, a0g_31, a0g_32, a0g_33, a0g_34, a0g_35, a0g_36, a0g_37, a0g_38, a0g_39]))) hP hD rfl (fun hP hD => ?_)
            refine lv_goto (tgt := 241) hx hb dX8_next_57 (by decide) ?_
            have hFe : FX = (j5l1.toInt, j5l1.toInt, 0, 0, 0, (fl_A fa0_12)) := hF0
            exact W.vret hx hb hr (fun t ht hW => ⟨⟨(), rfl, trivial, j5l1, j5l1, 0, 0, 0, fa0_12, ⟨bj5l1_l, Int.le_trans u7k1_j5l1 (by decide)⟩, ⟨zq5, Int.le_trans zq6 (by decide)⟩, (fun h9 => absurd h9 (by decide)), ⟨by omega, Or.inl (by decide)⟩, hFe, by rw [ht]; exact hP, va_K.moved hW.alike hK, hD⟩, hS.F ht⟩) hS.2.2 dX8_next_241
          · have h28 := hw
            have u28k1_j5l1 : j5l1.toInt ≤ (899 : Int) := u7k1_j5l1
            have hF0 := hF0.trans (if_neg (show ¬ (a0_3.toInt ≤ j5l1.toInt) from Int.not_le.mpr h28))
            refine lv_istore_n (lv' := [(2, .int r28), (0, .ref a0), (1, .int j5l1)]) hx hb dX8_next_31 rfl hl (by decide) rfl (fun ls hl => ?_)
            refine lv_aload_n hx hb dX8_next_32 rfl (lv_at hl 1 rfl) ?_
            refine lv_iconst (v := 0) hx hb dX8_next_33 zk_iconst_0 ?_
            refine va_put (D := (dC, dI)) (ci := 8) (v := .int 0) (ty := .int) (C := RX8) (T := TX8) (N := 40) hx hb hts zi_X8_next_8 tyX8 tyX8_ok nmX8 hown hK hP hD hS 0 rfl rfl 8 (by decide) (hts (.fieldLink RX8 81 "WaxTurnsModel" "nameSize" "I") (List.mem_cons_of_mem _ (List.mem_append_left _ (List.mem_of_getElem? (i := 2) rfl)))) (fun _ h9 => h9) rfl (tyX8_ok 8 (by decide)) rfl rfl (Nat.le_of_ble_eq_true rfl) dX8_next_34 (fun H locs hP hD hS => ?_)
            refine zs_0 (y := (a0, .inr (8, [a0g_0, Value.ref a0_1, a0g_2, Value.int a0_3, Value.int j5l1, Value.int a0_5, Value.int a0_6, Value.int a0_7, Value.int 0, a0g_9, a0g_10, a0g_11, Value.ref a0_12, a0g_13, a0g_14, a0g_15, a0g_16, a0g_17, a0g_18, a0g_19, a0g_20, a0g_21, a0g_22, a0g_23, a0g_24, a0g_25, a0g_26, a0g_27, a0g_28, a0g_29, a0g_30, a0g_31, a0g_32, a0g_33, a0g_34, a0g_35, a0g_36, a0g_37, a0g_38, a0g_39]))) hP hD rfl (fun hP hD => ?_)
            refine lv_aload_n hx hb dX8_next_37 rfl (lv_at hl 1 rfl) ?_
            refine lv_iconst (v := 0) hx hb dX8_next_38 zk_iconst_0 ?_
            refine va_put (D := (dC, dI)) (ci := 8) (v := .int 0) (ty := .int) (C := RX8) (T := TX8) (N := 40) hx hb hts zi_X8_next_8 tyX8 tyX8_ok nmX8 hown hK hP hD hS 0 rfl rfl 7 (by decide) (hts (.fieldLink RX8 84 "WaxTurnsModel" "whole" "I") (List.mem_cons_of_mem _ (List.mem_append_left _ (List.mem_of_getElem? (i := 3) rfl)))) (fun _ h9 => h9) rfl (tyX8_ok 7 (by decide)) rfl rfl (Nat.le_of_ble_eq_true rfl) dX8_next_39 (fun H locs hP hD hS => ?_)
            refine zs_0 (y := (a0, .inr (8, [a0g_0, Value.ref a0_1, a0g_2, Value.int a0_3, Value.int j5l1, Value.int a0_5, Value.int a0_6, Value.int 0, Value.int 0, a0g_9, a0g_10, a0g_11, Value.ref a0_12, a0g_13, a0g_14, a0g_15, a0g_16, a0g_17, a0g_18, a0g_19, a0g_20, a0g_21, a0g_22, a0g_23, a0g_24, a0g_25, a0g_26, a0g_27, a0g_28, a0g_29, a0g_30, a0g_31, a0g_32, a0g_33, a0g_34, a0g_35, a0g_36, a0g_37, a0g_38, a0g_39]))) hP hD rfl (fun hP hD => ?_)
            refine lv_iload_n hx hb dX8_next_42 rfl (lv_at hl 0 rfl) ?_
            refine lv_iconst (v := (-1)) hx hb dX8_next_43 zk_iconst_n1 ?_
            refine lv_icmp_ne (tgt := 60) hx hb dX8_next_44 (by decide) (fun c44 => ?_) (fun c44 => ?_)
            · have gc44 := ai_ne c44
              have hF0 := hF0.trans (if_neg (show ¬ (r28.toInt = (-1)) from  gc44))
              refine lv_iload_n hx hb dX8_next_60 rfl (lv_at hl 0 rfl) ?_
              refine va_calli (va_runS (As := [.int r28]) (rest := []) ⟨hx, hb, hml, hown, hts⟩ (f_X8_isSmall l dC dI H.size r28 ) (va_cwS 1 hts gX8_next_X8_isSmall rfl rfl rfl zd_X8_isSmall.2 ⟨Nat.le_of_ble_eq_true rfl, Nat.le_of_ble_eq_true rfl⟩) ⟨ax_blind (fun _ _ _ _ _ => trivial), ax_pre (zp_P0 hP) (zp_K hK) (zp_D0 hD) (fun _ _ => trivial)⟩ rfl rfl hl.1 rfl (lv_room (Nat.le_of_ble_eq_true rfl)) dX8_next_61 ⟨Nat.le_of_ble_eq_true rfl, Nat.le_of_ble_eq_true rfl⟩) hS (fun q _ h => zp_F0 hD hS hA q h) (zp_F0 hD hS hA) (fun r61 u t H locs ht hvm hw hB hz1 hk1 hS1 => zo0 hB ht hP hD hk1 (zp_F0 hD hS hA) hS1 (fun hP hK1 hD hS => ?_))
              obtain ⟨hw, hfr61⟩ := hw
              have hc61 : Ff_X8_isSmall r28.toInt = r61.toInt := hfr61.symm
              have hF0 := hF0.trans (fl_lt_eq hc61.symm)
              rcases hw with hw | hw
              · obtain ⟨hw, h61_0, h61_1⟩ := hw
                subst hw
                have l61k0_r28 : (97 : Int) ≤ r28.toInt := h61_0
                have u61k0_r28 : r28.toInt ≤ (122 : Int) := h61_1
                have hF0 := hF0.trans (if_pos (by decide))
                refine lv_if_eq (tgt := 143) hx hb dX8_next_64 (by decide) (fun c64 => absurd c64 (by decide +kernel)) (fun _ => ?_)
                have J67 : ∀ (n : Nat) (j67l1 : Int32) (j67a0_8 : Int32) (j67a0_12_a : Nat → Int32) (H : Heap) (locs : List Loc) (ls : Array Slot), (901 : Int) - j67l1.toInt ≤ (n : Int) → (0 : Int) ≤ j67l1.toInt → j67l1.toInt ≤ (900 : Int) → (0 : Int) ≤ j67a0_8.toInt → j67a0_8.toInt ≤ (900 : Int) → (a0_5.toInt ≤ j67l1.toInt) → (j67a0_8.toInt ≤ j67l1.toInt) → (FX = fl_wh (fun t9 => Sf_X8_next_67_3 a0_3.toInt (fl_A fa0_1) j5l1.toInt t9.1 t9.2.1 t9.2.2) (0, 0, 0, 0, 0, (fun _ => 0)) n (j67l1.toInt, j67a0_8.toInt, (fl_A j67a0_12_a))) → va_P (dC, dI) vwCl [(a0, .inr (8, [a0g_0, Value.ref a0_1, a0g_2, Value.int a0_3, Value.int j5l1, Value.int a0_5, Value.int a0_6, Value.int 0, Value.int j67a0_8, a0g_9, a0g_10, a0g_11, Value.ref a0_12, a0g_13, a0g_14, a0g_15, a0g_16, a0g_17, a0g_18, a0g_19, a0g_20, a0g_21, a0g_22, a0g_23, a0g_24, a0g_25, a0g_26, a0g_27, a0g_28, a0g_29, a0g_30, a0g_31, a0g_32, a0g_33, a0g_34, a0g_35, a0g_36, a0g_37, a0g_38, a0g_39])), (a0_1, .inl (ka0_1, 900, .inl (fa0_1))), (a0_12, .inl (ka0_12, 8, .inl (j67a0_12_a)))] H → va_D A [(a0, .inr (8, [a0g_0, Value.ref a0_1, a0g_2, Value.int a0_3, Value.int j5l1, Value.int a0_5, Value.int a0_6, Value.int 0, Value.int j67a0_8, a0g_9, a0g_10, a0g_11, Value.ref a0_12, a0g_13, a0g_14, a0g_15, a0g_16, a0g_17, a0g_18, a0g_19, a0g_20, a0g_21, a0g_22, a0g_23, a0g_24, a0g_25, a0g_26, a0g_27, a0g_28, a0g_29, a0g_30, a0g_31, a0g_32, a0g_33, a0g_34, a0g_35, a0g_36, a0g_37, a0g_38, a0g_39])), (a0_1, .inl (ka0_1, 900, .inl (fa0_1))), (a0_12, .inl (ka0_12, 8, .inl (j67a0_12_a)))] → va_S A s.heap H locs → lv_has ls 4 [(0, .ref a0), (1, .int j67l1)] → K H locs (F0 m 67 ls []) := by
                  intro n
                  induction n with
                  | zero =>
                    intro j67l1 j67a0_8 j67a0_12_a H locs ls hm bj67l1_l bj67l1_u bj67a0_8_l bj67a0_8_u ke67 nk67 hF0 hP hD hS hl
                    first | exact zg_0 hm bj67l1_u (by decide) | (have h8 := ai_min j67l1; have h9 := ai_max j67l1; exact absurd hm (by omega))
                  | succ n ih67 =>
                    intro j67l1 j67a0_8 j67a0_12_a H locs ls hm bj67l1_l bj67l1_u bj67a0_8_l bj67a0_8_u ke67 nk67 hF0 hP hD hS hl
                    refine (hK0 _ _ _).mpr ?_
                    have hm67 := hm
                    obtain ⟨SX67, hSX67⟩ : ∃ q9, Sf_X8_next_67_3 a0_3.toInt (fl_A fa0_1) j5l1.toInt j67l1.toInt j67a0_8.toInt (fl_A j67a0_12_a) = q9 := ⟨_, rfl⟩
                    have hF1 := hSX67.symm.trans (Sf_X8_next_67_3.eq_1 a0_3.toInt (fl_A fa0_1) j5l1.toInt j67l1.toInt j67a0_8.toInt (fl_A j67a0_12_a))
                    refine lv_aload_n hx hb dX8_next_67 rfl (lv_at hl 0 rfl) ?_
                    refine lv_iload_n hx hb dX8_next_68 rfl (lv_at hl 1 rfl) ?_
                    have hKc := hK.sub (tys' := [(ka0_1, .int)]) [0] rfl
                    refine va_calli (va_runV (As := [.int j67l1]) (rest := []) ⟨hx, hb, hml, hown, hts⟩ (f_X8_see l dC dI H.size a0 j67l1 a0g_0 a0g_2 (Value.int j5l1) (Value.int a0_5) (Value.int a0_6) (Value.int 0) (Value.int j67a0_8) a0g_9 a0g_10 a0g_11 (Value.ref a0_12) a0g_13 a0g_14 a0g_15 a0g_16 a0g_17 a0g_18 a0g_19 a0g_20 a0g_21 a0g_22 a0g_23 a0g_24 a0g_25 a0g_26 a0g_27 a0g_28 a0g_29 a0g_30 a0g_31 a0g_32 a0g_33 a0g_34 a0g_35 a0g_36 a0g_37 a0g_38 a0g_39 a0_1 a0_3 ka0_1 fa0_1 bj67l1_l bj67l1_u ba0_3_l ba0_3_u) (cwV 1 hts gX8_next_X8_see rfl rfl rfl zd_X8_see ⟨Nat.le_of_ble_eq_true rfl, Nat.le_of_ble_eq_true rfl⟩) ⟨ax_blind (fun _ _ _ _ _ => trivial), zr_8 hKc (zp_P2 hP) (q0 := 0) rfl, ax_pre (zp_P2 hP) hKc (zp_D2 hD) (fun _ _ => trivial)⟩ rfl rfl hl.1 rfl (lv_room (Nat.le_of_ble_eq_true rfl)) dX8_next_69 ⟨Nat.le_of_ble_eq_true rfl, Nat.le_of_ble_eq_true rfl⟩) hS (fun q _ h => zp_F2 hD hS hA q h) (zp_F2 hD hS hA) (fun r69 u t H locs ht hvm hw hB hz1 hk1 hS1 => zo2 hB ht hP hD hk1 (zp_F2 hD hS hA) hS1 (fun hP hK1 hD hS => ?_))
                    obtain ⟨hw, hfr69⟩ := hw
                    have hc69 : Ff_X8_see j67l1.toInt a0_3.toInt (fl_A fa0_1) = r69.toInt := hfr69.symm
                    have hF1 := hF1.trans (fl_lt_eq hc69.symm)
                    rcases hw with hw | hw
                    · obtain ⟨hw, h69⟩ := hw
                      subst hw
                      have hF1 := hF1.trans (if_pos (show a0_3.toInt ≤ j67l1.toInt from h69))
                      refine va_calli (va_runS (As := [.int (-1)]) (rest := []) ⟨hx, hb, hml, hown, hts⟩ (f_X8_isSmall l dC dI H.size (-1) ) (va_cwS 1 hts gX8_next_X8_isSmall rfl rfl rfl zd_X8_isSmall.2 ⟨Nat.le_of_ble_eq_true rfl, Nat.le_of_ble_eq_true rfl⟩) ⟨ax_blind (fun _ _ _ _ _ => trivial), ax_pre (zp_P0 hP) (zp_K hK) (zp_D0 hD) (fun _ _ => trivial)⟩ rfl rfl hl.1 rfl (lv_room (Nat.le_of_ble_eq_true rfl)) dX8_next_72 ⟨Nat.le_of_ble_eq_true rfl, Nat.le_of_ble_eq_true rfl⟩) hS (fun q _ h => zp_F0 hD hS hA q h) (zp_F0 hD hS hA) (fun r72 u t H locs ht hvm hw hB hz1 hk1 hS1 => zo0 hB ht hP hD hk1 (zp_F0 hD hS hA) hS1 (fun hP hK1 hD hS => ?_))
                      obtain ⟨hw, hfr72⟩ := hw
                      rw [show ((-1) : Int32).toInt = (-1) from by decide] at hfr72
                      have hc72 : Ff_X8_isSmall (-1) = r72.toInt := hfr72.symm
                      have hF1 := hF1.trans (fl_lt_eq hc72.symm)
                      rcases hw with hw | hw
                      · obtain ⟨hw, h72_0, h72_1⟩ := hw
                        subst hw
                        exact absurd h72_0 (by decide)
                      · subst hw
                        have hF1 := hF1.trans (if_neg (by decide))
                        refine lv_if_eq (tgt := 117) hx hb dX8_next_75 (by decide) (fun _ => ?_) (fun c75 => absurd (by decide +kernel) c75)
                        have hF0 := hF0.trans (fl_wh_r (hSX67.trans hF1))
                        refine lv_aload_n hx hb dX8_next_117 rfl (lv_at hl 0 rfl) ?_
                        refine lv_iload_n hx hb dX8_next_118 rfl (lv_at hl 1 rfl) ?_
                        refine va_put (D := (dC, dI)) (ci := 8) (v := .int j67l1) (ty := .int) (C := RX8) (T := TX8) (N := 40) hx hb hts zi_X8_next_8 tyX8 tyX8_ok nmX8 hown hK hP hD hS 0 rfl rfl 5 (by decide) (hts (.fieldLink RX8 71 "WaxTurnsModel" "end" "I") (List.mem_cons_of_mem _ (List.mem_append_left _ (List.mem_of_getElem? (i := 0) rfl)))) (fun _ h9 => h9) rfl (tyX8_ok 5 (by decide)) rfl rfl (Nat.le_of_ble_eq_true rfl) dX8_next_119 (fun H locs hP hD hS => ?_)
                        refine zs_0 (y := (a0, .inr (8, [a0g_0, Value.ref a0_1, a0g_2, Value.int a0_3, Value.int j5l1, Value.int j67l1, Value.int a0_6, Value.int 0, Value.int j67a0_8, a0g_9, a0g_10, a0g_11, Value.ref a0_12, a0g_13, a0g_14, a0g_15, a0g_16, a0g_17, a0g_18, a0g_19, a0g_20, a0g_21, a0g_22, a0g_23, a0g_24, a0g_25, a0g_26, a0g_27, a0g_28, a0g_29, a0g_30, a0g_31, a0g_32, a0g_33, a0g_34, a0g_35, a0g_36, a0g_37, a0g_38, a0g_39]))) hP hD rfl (fun hP hD => ?_)
                        refine lv_aload_n hx hb dX8_next_122 rfl (lv_at hl 0 rfl) ?_
                        refine lv_aload_n hx hb dX8_next_123 rfl (lv_at hl 0 rfl) ?_
                        refine va_get (D := (dC, dI)) (ci := 8) (v := .int j67a0_8) (C := RX8) (T := TX8) (N := 40) hx hb hts zi_X8_next_8 hown hK hP 0 rfl rfl 8 (by decide) (hts (.fieldLink RX8 81 "WaxTurnsModel" "nameSize" "I") (List.mem_cons_of_mem _ (List.mem_append_left _ (List.mem_of_getElem? (i := 2) rfl)))) (fun _ h9 => h9) rfl dX8_next_124 ?_
                        refine lv_bipush (v := 8) hx hb dX8_next_127 zk_bipush_8 ?_
                        refine lv_icmp_le (tgt := 136) hx hb dX8_next_129 (by decide) (fun c129 => ?_) (fun c129 => ?_)
                        · have gc129 := ai_le c129
                          have u129t_j67a0_8 : j67a0_8.toInt ≤ (8 : Int) := Int.le_trans gc129 zq28
                          have hF0 := hF0.trans (if_pos (show j67a0_8.toInt ≤ 8 from gc129))
                          refine lv_iconst (v := 2) hx hb dX8_next_136 zk_iconst_2 ?_
                          refine va_put (D := (dC, dI)) (ci := 8) (v := .int 2) (ty := .int) (C := RX8) (T := TX8) (N := 40) hx hb hts zi_X8_next_8 tyX8 tyX8_ok nmX8 hown hK hP hD hS 0 rfl rfl 6 (by decide) (hts (.fieldLink RX8 87 "WaxTurnsModel" "token" "I") (List.mem_cons_of_mem _ (List.mem_append_left _ (List.mem_of_getElem? (i := 4) rfl)))) (fun _ h9 => h9) rfl (tyX8_ok 6 (by decide)) rfl rfl (Nat.le_of_ble_eq_true rfl) dX8_next_137 (fun H locs hP hD hS => ?_)
                          refine zs_0 (y := (a0, .inr (8, [a0g_0, Value.ref a0_1, a0g_2, Value.int a0_3, Value.int j5l1, Value.int j67l1, Value.int 2, Value.int 0, Value.int j67a0_8, a0g_9, a0g_10, a0g_11, Value.ref a0_12, a0g_13, a0g_14, a0g_15, a0g_16, a0g_17, a0g_18, a0g_19, a0g_20, a0g_21, a0g_22, a0g_23, a0g_24, a0g_25, a0g_26, a0g_27, a0g_28, a0g_29, a0g_30, a0g_31, a0g_32, a0g_33, a0g_34, a0g_35, a0g_36, a0g_37, a0g_38, a0g_39]))) hP hD rfl (fun hP hD => ?_)
                          refine lv_goto (tgt := 241) hx hb dX8_next_140 (by decide) ?_
                          have hFe : FX = (j5l1.toInt, j67l1.toInt, 2, 0, j67a0_8.toInt, (fl_A j67a0_12_a)) := hF0
                          exact W.vret hx hb hr (fun t ht hW => ⟨⟨(), rfl, trivial, j5l1, j67l1, 2, 0, j67a0_8, j67a0_12_a, ⟨bj67l1_l, bj67l1_u⟩, ⟨bj67a0_8_l, Int.le_trans u129t_j67a0_8 (by decide)⟩, (fun _ => u129t_j67a0_8), ⟨by omega, Or.inl (by decide)⟩, hFe, by rw [ht]; exact hP, va_K.moved hW.alike hK, hD⟩, hS.F ht⟩) hS.2.2 dX8_next_241
                        · have gc129 := ai_nle c129
                          have l129f_j67a0_8 : (9 : Int) ≤ j67a0_8.toInt := ai_ltlo gc129 zq116
                          have hF0 := hF0.trans (if_neg (show ¬ (j67a0_8.toInt ≤ 8) from Int.not_le.mpr gc129))
                          refine lv_iconst (v := 1) hx hb dX8_next_132 zk_iconst_1 ?_
                          refine lv_goto (tgt := 137) hx hb dX8_next_133 (by decide) ?_
                          refine va_put (D := (dC, dI)) (ci := 8) (v := .int 1) (ty := .int) (C := RX8) (T := TX8) (N := 40) hx hb hts zi_X8_next_8 tyX8 tyX8_ok nmX8 hown hK hP hD hS 0 rfl rfl 6 (by decide) (hts (.fieldLink RX8 87 "WaxTurnsModel" "token" "I") (List.mem_cons_of_mem _ (List.mem_append_left _ (List.mem_of_getElem? (i := 4) rfl)))) (fun _ h9 => h9) rfl (tyX8_ok 6 (by decide)) rfl rfl (Nat.le_of_ble_eq_true rfl) dX8_next_137 (fun H locs hP hD hS => ?_)
                          refine zs_0 (y := (a0, .inr (8, [a0g_0, Value.ref a0_1, a0g_2, Value.int a0_3, Value.int j5l1, Value.int j67l1, Value.int 1, Value.int 0, Value.int j67a0_8, a0g_9, a0g_10, a0g_11, Value.ref a0_12, a0g_13, a0g_14, a0g_15, a0g_16, a0g_17, a0g_18, a0g_19, a0g_20, a0g_21, a0g_22, a0g_23, a0g_24, a0g_25, a0g_26, a0g_27, a0g_28, a0g_29, a0g_30, a0g_31, a0g_32, a0g_33, a0g_34, a0g_35, a0g_36, a0g_37, a0g_38, a0g_39]))) hP hD rfl (fun hP hD => ?_)
                          refine lv_goto (tgt := 241) hx hb dX8_next_140 (by decide) ?_
                          have hFe : FX = (j5l1.toInt, j67l1.toInt, 1, 0, j67a0_8.toInt, (fl_A j67a0_12_a)) := hF0
                          exact W.vret hx hb hr (fun t ht hW => ⟨⟨(), rfl, trivial, j5l1, j67l1, 1, 0, j67a0_8, j67a0_12_a, ⟨bj67l1_l, bj67l1_u⟩, ⟨Int.le_trans (by decide) l129f_j67a0_8, bj67a0_8_u⟩, (fun h9 => absurd h9 (by decide)), ⟨by omega, Or.inl (by decide)⟩, hFe, by rw [ht]; exact hP, va_K.moved hW.alike hK, hD⟩, hS.F ht⟩) hS.2.2 dX8_next_241
                    · have h69 := hw
                      have u69k1_j67l1 : j67l1.toInt ≤ (899 : Int) := by have h1 := h69; have h2 := ba0_3_u; omega
                      have hF1 := hF1.trans (if_neg (show ¬ (a0_3.toInt ≤ j67l1.toInt) from Int.not_le.mpr h69))
                      refine va_calli (va_runS (As := [.int r69]) (rest := []) ⟨hx, hb, hml, hown, hts⟩ (f_X8_isSmall l dC dI H.size r69 ) (va_cwS 1 hts gX8_next_X8_isSmall rfl rfl rfl zd_X8_isSmall.2 ⟨Nat.le_of_ble_eq_true rfl, Nat.le_of_ble_eq_true rfl⟩) ⟨ax_blind (fun _ _ _ _ _ => trivial), ax_pre (zp_P0 hP) (zp_K hK) (zp_D0 hD) (fun _ _ => trivial)⟩ rfl rfl hl.1 rfl (lv_room (Nat.le_of_ble_eq_true rfl)) dX8_next_72 ⟨Nat.le_of_ble_eq_true rfl, Nat.le_of_ble_eq_true rfl⟩) hS (fun q _ h => zp_F0 hD hS hA q h) (zp_F0 hD hS hA) (fun r72 u t H locs ht hvm hw hB hz1 hk1 hS1 => zo0 hB ht hP hD hk1 (zp_F0 hD hS hA) hS1 (fun hP hK1 hD hS => ?_))
                      obtain ⟨hw, hfr72⟩ := hw
                      have hc72 : Ff_X8_isSmall r69.toInt = r72.toInt := hfr72.symm
                      have hF1 := hF1.trans (fl_lt_eq hc72.symm)
                      rcases hw with hw | hw
                      · obtain ⟨hw, h72_0, h72_1⟩ := hw
                        subst hw
                        have l72k0_r69 : (97 : Int) ≤ r69.toInt := h72_0
                        have u72k0_r69 : r69.toInt ≤ (122 : Int) := h72_1
                        have hF1 := hF1.trans (if_pos (by decide))
                        refine lv_if_eq (tgt := 117) hx hb dX8_next_75 (by decide) (fun c75 => absurd c75 (by decide +kernel)) (fun _ => ?_)
                        refine lv_aload_n hx hb dX8_next_78 rfl (lv_at hl 0 rfl) ?_
                        refine va_get (D := (dC, dI)) (ci := 8) (v := .int j67a0_8) (C := RX8) (T := TX8) (N := 40) hx hb hts zi_X8_next_8 hown hK hP 0 rfl rfl 8 (by decide) (hts (.fieldLink RX8 81 "WaxTurnsModel" "nameSize" "I") (List.mem_cons_of_mem _ (List.mem_append_left _ (List.mem_of_getElem? (i := 2) rfl)))) (fun _ h9 => h9) rfl dX8_next_79 ?_
                        refine lv_bipush (v := 8) hx hb dX8_next_82 zk_bipush_8 ?_
                        have J101 : ∀ (j101a0_12_a : Nat → Int32) (H : Heap) (locs : List Loc) (ls : Array Slot), (SX67 = Gf_X8_next_101_3 j67l1.toInt j67a0_8.toInt (fl_A j101a0_12_a)) → va_P (dC, dI) vwCl [(a0, .inr (8, [a0g_0, Value.ref a0_1, a0g_2, Value.int a0_3, Value.int j5l1, Value.int a0_5, Value.int a0_6, Value.int 0, Value.int j67a0_8, a0g_9, a0g_10, a0g_11, Value.ref a0_12, a0g_13, a0g_14, a0g_15, a0g_16, a0g_17, a0g_18, a0g_19, a0g_20, a0g_21, a0g_22, a0g_23, a0g_24, a0g_25, a0g_26, a0g_27, a0g_28, a0g_29, a0g_30, a0g_31, a0g_32, a0g_33, a0g_34, a0g_35, a0g_36, a0g_37, a0g_38, a0g_39])), (a0_1, .inl (ka0_1, 900, .inl (fa0_1))), (a0_12, .inl (ka0_12, 8, .inl (j101a0_12_a)))] H → va_D A [(a0, .inr (8, [a0g_0, Value.ref a0_1, a0g_2, Value.int a0_3, Value.int j5l1, Value.int a0_5, Value.int a0_6, Value.int 0, Value.int j67a0_8, a0g_9, a0g_10, a0g_11, Value.ref a0_12, a0g_13, a0g_14, a0g_15, a0g_16, a0g_17, a0g_18, a0g_19, a0g_20, a0g_21, a0g_22, a0g_23, a0g_24, a0g_25, a0g_26, a0g_27, a0g_28, a0g_29, a0g_30, a0g_31, a0g_32, a0g_33, a0g_34, a0g_35, a0g_36, a0g_37, a0g_38, a0g_39])), (a0_1, .inl (ka0_1, 900, .inl (fa0_1))), (a0_12, .inl (ka0_12, 8, .inl (j101a0_12_a)))] → va_S A s.heap H locs → lv_has ls 4 [(0, .ref a0), (1, .int j67l1)] → K H locs (F0 m 101 ls []) := by
                          intro j101a0_12_a H locs ls  hF1 hP hD hS hl
                          refine (hK0 _ _ _).mpr ?_
                          have hF1 := hF1.trans (Gf_X8_next_101_3.eq_1 j67l1.toInt j67a0_8.toInt (fl_A j101a0_12_a))
                          refine lv_aload_n hx hb dX8_next_101 rfl (lv_at hl 0 rfl) ?_
                          refine lv_dup hx hb dX8_next_102 rfl ?_
                          refine va_get (D := (dC, dI)) (ci := 8) (v := .int j67a0_8) (C := RX8) (T := TX8) (N := 40) hx hb hts zi_X8_next_8 hown hK hP 0 rfl rfl 8 (by decide) (hts (.fieldLink RX8 81 "WaxTurnsModel" "nameSize" "I") (List.mem_cons_of_mem _ (List.mem_append_left _ (List.mem_of_getElem? (i := 2) rfl)))) (fun _ h9 => h9) rfl dX8_next_103 ?_
                          have u103z_j67a0_8 : j67a0_8.toInt ≤ (899 : Int) := by omega
                          refine lv_iconst (v := 1) hx hb dX8_next_106 zk_iconst_1 ?_
                          refine lv_iadd hx hb dX8_next_107 ?_
                          refine lv_topi (fun x107 ex107 => ?_)
                          have qx107 : x107.toInt = j67a0_8.toInt + (1 : Int32).toInt := ai_add ex107 ⟨bj67a0_8_l, u103z_j67a0_8⟩ ⟨zq1, zq0⟩ (by decide) (by decide)
                          have bx107 : (1 : Int) ≤ x107.toInt ∧ x107.toInt ≤ 900 := ⟨by rw [qx107]; exact Int.add_le_add bj67a0_8_l zq1, by rw [qx107]; exact Int.add_le_add u103z_j67a0_8 zq0⟩
                          have wx107 : x107.toInt = j67a0_8.toInt + 1 := qx107
                          have hF1 := hF1.trans (fl_lt_eq (show x107.toInt = j67a0_8.toInt + 1 from qx107))
                          refine va_put (D := (dC, dI)) (ci := 8) (v := .int x107) (ty := .int) (C := RX8) (T := TX8) (N := 40) hx hb hts zi_X8_next_8 tyX8 tyX8_ok nmX8 hown hK hP hD hS 0 rfl rfl 8 (by decide) (hts (.fieldLink RX8 81 "WaxTurnsModel" "nameSize" "I") (List.mem_cons_of_mem _ (List.mem_append_left _ (List.mem_of_getElem? (i := 2) rfl)))) (fun _ h9 => h9) rfl (tyX8_ok 8 (by decide)) rfl rfl (Nat.le_of_ble_eq_true rfl) dX8_next_108 (fun H locs hP hD hS => ?_)
                          refine zs_0 (y := (a0, .inr (8, [a0g_0, Value.ref a0_1, a0g_2, Value.int a0_3, Value.int j5l1, Value.int a0_5, Value.int a0_6, Value.int 0, Value.int x107, a0g_9, a0g_10, a0g_11, Value.ref a0_12, a0g_13, a0g_14, a0g_15, a0g_16, a0g_17, a0g_18, a0g_19, a0g_20, a0g_21, a0g_22, a0g_23, a0g_24, a0g_25, a0g_26, a0g_27, a0g_28, a0g_29, a0g_30, a0g_31, a0g_32, a0g_33, a0g_34, a0g_35, a0g_36, a0g_37, a0g_38, a0g_39]))) hP hD rfl (fun hP hD => ?_)
                          obtain ⟨x111, ex111⟩ : ∃ y : Int32, y = j67l1 + Int32.ofInt 1 := ⟨_, rfl⟩
                          have qx111 : x111.toInt = j67l1.toInt + 1 := ai_inc ex111 (by decide) (by decide) u69k1_j67l1 (by decide)
                          have bx111 : (1 : Int) ≤ x111.toInt ∧ x111.toInt ≤ 900 := ⟨by rw [qx111]; exact Int.add_le_add bj67l1_l (Int.le_refl _), by rw [qx111]; exact Int.add_le_add u69k1_j67l1 (Int.le_refl _)⟩
                          refine lv_iinc (v := x111) (lv' := [(1, .int x111), (0, .ref a0)]) hx hb dX8_next_111 hl (k := 1) rfl ex111.symm (by decide) rfl (fun ls hl => ?_)
                          have hF1 := hF1.trans (fl_lt_eq (show x111.toInt = j67l1.toInt + 1 from qx111))
                          refine lv_goto (tgt := 67) hx hb dX8_next_114 (by decide) ?_
                          exact (hK0 _ _ _).mp (ih67 x111 x107 j101a0_12_a _ _ _ (by first | exact zg_s hm67 qx111 | (have h0 := qx111; omega)) (Int.le_trans zq4 bx111.1) bx111.2 (Int.le_trans zq4 bx107.1) bx107.2 (by omega) (by omega) (hF0.trans (fl_wh_l (hSX67.trans hF1))) hP hD hS (lv_sub hl [1, 0] rfl))
                        refine lv_icmp_ge (tgt := 101) hx hb dX8_next_84 (by decide) (fun c84 => ?_) (fun c84 => ?_)
                        · have gc84 := ai_le c84
                          have l84t_j67a0_8 : (8 : Int) ≤ j67a0_8.toInt := Int.le_trans zq116 gc84
                          have hF1 := hF1.trans (if_pos (show 8 ≤ j67a0_8.toInt from gc84))
                          exact (hK0 _ _ _).mp (J101 j67a0_12_a _ _ _   hF1 hP hD hS (lv_sub hl [0, 1] rfl))
                        · have gc84 := ai_nle c84
                          have u84f_j67a0_8 : j67a0_8.toInt ≤ (7 : Int) := ai_lthi gc84 zq28
                          have hF1 := hF1.trans (if_neg (show ¬ (8 ≤ j67a0_8.toInt) from Int.not_le.mpr gc84))
                          refine lv_aload_n hx hb dX8_next_87 rfl (lv_at hl 0 rfl) ?_
                          refine va_get (D := (dC, dI)) (ci := 8) (v := .ref a0_12) (C := RX8) (T := TX8) (N := 40) hx hb hts zi_X8_next_8 hown hK hP 0 rfl rfl 12 (by decide) (hts (.fieldLink RX8 17 "WaxTurnsModel" "letters" "[I") (List.mem_cons_of_mem _ (List.mem_append_left _ (List.mem_of_getElem? (i := 5) rfl)))) (fun _ h9 => h9) rfl dX8_next_88 ?_
                          refine lv_aload_n hx hb dX8_next_91 rfl (lv_at hl 0 rfl) ?_
                          refine va_get (D := (dC, dI)) (ci := 8) (v := .int j67a0_8) (C := RX8) (T := TX8) (N := 40) hx hb hts zi_X8_next_8 hown hK hP 0 rfl rfl 8 (by decide) (hts (.fieldLink RX8 81 "WaxTurnsModel" "nameSize" "I") (List.mem_cons_of_mem _ (List.mem_append_left _ (List.mem_of_getElem? (i := 2) rfl)))) (fun _ h9 => h9) rfl dX8_next_92 ?_
                          refine lv_aload_n hx hb dX8_next_95 rfl (lv_at hl 0 rfl) ?_
                          refine lv_iload_n hx hb dX8_next_96 rfl (lv_at hl 1 rfl) ?_
                          have hKc := hK.sub (tys' := [(ka0_1, .int)]) [0] rfl
                          refine va_calli (va_runV (As := [.int j67l1]) (rest := [.int j67a0_8, .ref a0_12]) ⟨hx, hb, hml, hown, hts⟩ (f_X8_see l dC dI H.size a0 j67l1 a0g_0 a0g_2 (Value.int j5l1) (Value.int a0_5) (Value.int a0_6) (Value.int 0) (Value.int j67a0_8) a0g_9 a0g_10 a0g_11 (Value.ref a0_12) a0g_13 a0g_14 a0g_15 a0g_16 a0g_17 a0g_18 a0g_19 a0g_20 a0g_21 a0g_22 a0g_23 a0g_24 a0g_25 a0g_26 a0g_27 a0g_28 a0g_29 a0g_30 a0g_31 a0g_32 a0g_33 a0g_34 a0g_35 a0g_36 a0g_37 a0g_38 a0g_39 a0_1 a0_3 ka0_1 fa0_1 bj67l1_l (Int.le_trans u69k1_j67l1 zq145) ba0_3_l ba0_3_u) (cwV 1 hts gX8_next_X8_see rfl rfl rfl zd_X8_see ⟨Nat.le_of_ble_eq_true rfl, Nat.le_of_ble_eq_true rfl⟩) ⟨ax_blind (fun _ _ _ _ _ => trivial), zr_8 hKc (zp_P2 hP) (q0 := 0) rfl, ax_pre (zp_P2 hP) hKc (zp_D2 hD) (fun _ _ => trivial)⟩ rfl rfl hl.1 rfl (lv_room (Nat.le_of_ble_eq_true rfl)) dX8_next_97 ⟨Nat.le_of_ble_eq_true rfl, Nat.le_of_ble_eq_true rfl⟩) hS (fun q _ h => zp_F2 hD hS hA q h) (zp_F2 hD hS hA) (fun r97 u t H locs ht hvm hw hB hz1 hk1 hS1 => zo2 hB ht hP hD hk1 (zp_F2 hD hS hA) hS1 (fun hP hK1 hD hS => ?_))
                          obtain ⟨hw, hfr97⟩ := hw
                          have hc97 : Ff_X8_see j67l1.toInt a0_3.toInt (fl_A fa0_1) = r97.toInt := hfr97.symm
                          have hF1 := hF1.trans (fl_lt_eq hc97.symm)
                          rcases hw with hw | hw
                          · obtain ⟨hw, h97⟩ := hw
                            subst hw
                            have hF1 := hF1.trans (if_pos (show a0_3.toInt ≤ j67l1.toInt from h97))
                            refine va_iast hx hb hK hP hD hS 2 1 rfl rfl (ai_in bj67a0_8_l u84f_j67a0_8 (by decide) (by decide)) dX8_next_100 (fun H locs hP hD hS => ?_)
                            obtain ⟨f100, ef100⟩ : ∃ g9 : Nat → Int32, g9 = upd j67a0_12_a (j67a0_8 : Int32).toNatClampNeg ((-1) : Int32) := ⟨_, rfl⟩
                            refine zs_2 (y := (a0_12, .inl (ka0_12, 8, .inl (f100)))) hP hD (by rw [ef100]) (fun hP hD => ?_)
                            have fqf100 := fl_up_eq ef100
                            have hF1 := hF1.trans (fl_lt_eq (show (fl_A f100) = fl_up (fl_A j67a0_12_a) (j67a0_8.toInt.toNat) (-1) from fqf100))
                            exact (hK0 _ _ _).mp (J101 f100 _ _ _   hF1 hP hD hS (lv_sub hl [0, 1] rfl))
                          · have h97 := hw
                            have u97k1_j67l1 : j67l1.toInt ≤ (899 : Int) := u69k1_j67l1
                            have hF1 := hF1.trans (if_neg (show ¬ (a0_3.toInt ≤ j67l1.toInt) from Int.not_le.mpr h97))
                            refine va_iast hx hb hK hP hD hS 2 1 rfl rfl (ai_in bj67a0_8_l u84f_j67a0_8 (by decide) (by decide)) dX8_next_100 (fun H locs hP hD hS => ?_)
                            obtain ⟨f100, ef100⟩ : ∃ g9 : Nat → Int32, g9 = upd j67a0_12_a (j67a0_8 : Int32).toNatClampNeg r97 := ⟨_, rfl⟩
                            refine zs_2 (y := (a0_12, .inl (ka0_12, 8, .inl (f100)))) hP hD (by rw [ef100]) (fun hP hD => ?_)
                            have fqf100 := fl_up_eq ef100
                            have hF1 := hF1.trans (fl_lt_eq (show (fl_A f100) = fl_up (fl_A j67a0_12_a) (j67a0_8.toInt.toNat) r97.toInt from fqf100))
                            exact (hK0 _ _ _).mp (J101 f100 _ _ _   hF1 hP hD hS (lv_sub hl [0, 1] rfl))
                      · subst hw
                        have hF1 := hF1.trans (if_neg (by decide))
                        refine lv_if_eq (tgt := 117) hx hb dX8_next_75 (by decide) (fun _ => ?_) (fun c75 => absurd (by decide +kernel) c75)
                        have hF0 := hF0.trans (fl_wh_r (hSX67.trans hF1))
                        refine lv_aload_n hx hb dX8_next_117 rfl (lv_at hl 0 rfl) ?_
                        refine lv_iload_n hx hb dX8_next_118 rfl (lv_at hl 1 rfl) ?_
                        refine va_put (D := (dC, dI)) (ci := 8) (v := .int j67l1) (ty := .int) (C := RX8) (T := TX8) (N := 40) hx hb hts zi_X8_next_8 tyX8 tyX8_ok nmX8 hown hK hP hD hS 0 rfl rfl 5 (by decide) (hts (.fieldLink RX8 71 "WaxTurnsModel" "end" "I") (List.mem_cons_of_mem _ (List.mem_append_left _ (List.mem_of_getElem? (i := 0) rfl)))) (fun _ h9 => h9) rfl (tyX8_ok 5 (by decide)) rfl rfl (Nat.le_of_ble_eq_true rfl) dX8_next_119 (fun H locs hP hD hS => ?_)
                        refine zs_0 (y := (a0, .inr (8, [a0g_0, Value.ref a0_1, a0g_2, Value.int a0_3, Value.int j5l1, Value.int j67l1, Value.int a0_6, Value.int 0, Value.int j67a0_8, a0g_9, a0g_10, a0g_11, Value.ref a0_12, a0g_13, a0g_14, a0g_15, a0g_16, a0g_17, a0g_18, a0g_19, a0g_20, a0g_21, a0g_22, a0g_23, a0g_24, a0g_25, a0g_26, a0g_27, a0g_28, a0g_29, a0g_30, a0g_31, a0g_32, a0g_33, a0g_34, a0g_35, a0g_36, a0g_37, a0g_38, a0g_39]))) hP hD rfl (fun hP hD => ?_)
                        refine lv_aload_n hx hb dX8_next_122 rfl (lv_at hl 0 rfl) ?_
                        refine lv_aload_n hx hb dX8_next_123 rfl (lv_at hl 0 rfl) ?_
                        refine va_get (D := (dC, dI)) (ci := 8) (v := .int j67a0_8) (C := RX8) (T := TX8) (N := 40) hx hb hts zi_X8_next_8 hown hK hP 0 rfl rfl 8 (by decide) (hts (.fieldLink RX8 81 "WaxTurnsModel" "nameSize" "I") (List.mem_cons_of_mem _ (List.mem_append_left _ (List.mem_of_getElem? (i := 2) rfl)))) (fun _ h9 => h9) rfl dX8_next_124 ?_
                        refine lv_bipush (v := 8) hx hb dX8_next_127 zk_bipush_8 ?_
                        refine lv_icmp_le (tgt := 136) hx hb dX8_next_129 (by decide) (fun c129 => ?_) (fun c129 => ?_)
                        · have gc129 := ai_le c129
                          have u129t_j67a0_8 : j67a0_8.toInt ≤ (8 : Int) := Int.le_trans gc129 zq28
                          have hF0 := hF0.trans (if_pos (show j67a0_8.toInt ≤ 8 from gc129))
                          refine lv_iconst (v := 2) hx hb dX8_next_136 zk_iconst_2 ?_
                          refine va_put (D := (dC, dI)) (ci := 8) (v := .int 2) (ty := .int) (C := RX8) (T := TX8) (N := 40) hx hb hts zi_X8_next_8 tyX8 tyX8_ok nmX8 hown hK hP hD hS 0 rfl rfl 6 (by decide) (hts (.fieldLink RX8 87 "WaxTurnsModel" "token" "I") (List.mem_cons_of_mem _ (List.mem_append_left _ (List.mem_of_getElem? (i := 4) rfl)))) (fun _ h9 => h9) rfl (tyX8_ok 6 (by decide)) rfl rfl (Nat.le_of_ble_eq_true rfl) dX8_next_137 (fun H locs hP hD hS => ?_)
                          refine zs_0 (y := (a0, .inr (8, [a0g_0, Value.ref a0_1, a0g_2, Value.int a0_3, Value.int j5l1, Value.int j67l1, Value.int 2, Value.int 0, Value.int j67a0_8, a0g_9, a0g_10, a0g_11, Value.ref a0_12, a0g_13, a0g_14, a0g_15, a0g_16, a0g_17, a0g_18, a0g_19, a0g_20, a0g_21, a0g_22, a0g_23, a0g_24, a0g_25, a0g_26, a0g_27, a0g_28, a0g_29, a0g_30, a0g_31, a0g_32, a0g_33, a0g_34, a0g_35, a0g_36, a0g_37, a0g_38, a0g_39]))) hP hD rfl (fun hP hD => ?_)
                          refine lv_goto (tgt := 241) hx hb dX8_next_140 (by decide) ?_
                          have hFe : FX = (j5l1.toInt, j67l1.toInt, 2, 0, j67a0_8.toInt, (fl_A j67a0_12_a)) := hF0
                          exact W.vret hx hb hr (fun t ht hW => ⟨⟨(), rfl, trivial, j5l1, j67l1, 2, 0, j67a0_8, j67a0_12_a, ⟨bj67l1_l, Int.le_trans u69k1_j67l1 (by decide)⟩, ⟨bj67a0_8_l, Int.le_trans u129t_j67a0_8 (by decide)⟩, (fun _ => u129t_j67a0_8), ⟨by omega, Or.inl (by decide)⟩, hFe, by rw [ht]; exact hP, va_K.moved hW.alike hK, hD⟩, hS.F ht⟩) hS.2.2 dX8_next_241
                        · have gc129 := ai_nle c129
                          have l129f_j67a0_8 : (9 : Int) ≤ j67a0_8.toInt := ai_ltlo gc129 zq116
                          have hF0 := hF0.trans (if_neg (show ¬ (j67a0_8.toInt ≤ 8) from Int.not_le.mpr gc129))
                          refine lv_iconst (v := 1) hx hb dX8_next_132 zk_iconst_1 ?_
                          refine lv_goto (tgt := 137) hx hb dX8_next_133 (by decide) ?_
                          refine va_put (D := (dC, dI)) (ci := 8) (v := .int 1) (ty := .int) (C := RX8) (T := TX8) (N := 40) hx hb hts zi_X8_next_8 tyX8 tyX8_ok nmX8 hown hK hP hD hS 0 rfl rfl 6 (by decide) (hts (.fieldLink RX8 87 "WaxTurnsModel" "token" "I") (List.mem_cons_of_mem _ (List.mem_append_left _ (List.mem_of_getElem? (i := 4) rfl)))) (fun _ h9 => h9) rfl (tyX8_ok 6 (by decide)) rfl rfl (Nat.le_of_ble_eq_true rfl) dX8_next_137 (fun H locs hP hD hS => ?_)
                          refine zs_0 (y := (a0, .inr (8, [a0g_0, Value.ref a0_1, a0g_2, Value.int a0_3, Value.int j5l1, Value.int j67l1, Value.int 1, Value.int 0, Value.int j67a0_8, a0g_9, a0g_10, a0g_11, Value.ref a0_12, a0g_13, a0g_14, a0g_15, a0g_16, a0g_17, a0g_18, a0g_19, a0g_20, a0g_21, a0g_22, a0g_23, a0g_24, a0g_25, a0g_26, a0g_27, a0g_28, a0g_29, a0g_30, a0g_31, a0g_32, a0g_33, a0g_34, a0g_35, a0g_36, a0g_37, a0g_38, a0g_39]))) hP hD rfl (fun hP hD => ?_)
                          refine lv_goto (tgt := 241) hx hb dX8_next_140 (by decide) ?_
                          have hFe : FX = (j5l1.toInt, j67l1.toInt, 1, 0, j67a0_8.toInt, (fl_A j67a0_12_a)) := hF0
                          exact W.vret hx hb hr (fun t ht hW => ⟨⟨(), rfl, trivial, j5l1, j67l1, 1, 0, j67a0_8, j67a0_12_a, ⟨bj67l1_l, Int.le_trans u69k1_j67l1 (by decide)⟩, ⟨Int.le_trans (by decide) l129f_j67a0_8, bj67a0_8_u⟩, (fun h9 => absurd h9 (by decide)), ⟨by omega, Or.inl (by decide)⟩, hFe, by rw [ht]; exact hP, va_K.moved hW.alike hK, hD⟩, hS.F ht⟩) hS.2.2 dX8_next_241
                exact (hK0 _ _ _).mp (J67 901 j5l1 0 fa0_12 _ _ _ (by have h1 : (0 : Int) ≤ j5l1.toInt := bj5l1_l; have h2 : j5l1.toInt ≤ (899 : Int) := u28k1_j5l1; omega) bj5l1_l (Int.le_trans u28k1_j5l1 zq145) zq5 (Int.le_trans zq6 zq40) (by omega) (by have h1 : (0 : Int32).toInt = 0 := (by decide); omega) (by rw [show (0 : Int32).toInt = 0 from by decide]; exact hF0) hP hD hS (lv_sub hl [1, 2] rfl))
              · subst hw
                have hF0 := hF0.trans (if_neg (by decide))
                refine lv_if_eq (tgt := 143) hx hb dX8_next_64 (by decide) (fun _ => ?_) (fun c64 => absurd (by decide +kernel) c64)
                have J67 : ∀ (n : Nat) (j67l1 : Int32) (j67a0_8 : Int32) (j67a0_12_a : Nat → Int32) (H : Heap) (locs : List Loc) (ls : Array Slot), (901 : Int) - j67l1.toInt ≤ (n : Int) → (0 : Int) ≤ j67l1.toInt → j67l1.toInt ≤ (900 : Int) → (0 : Int) ≤ j67a0_8.toInt → j67a0_8.toInt ≤ (900 : Int) → (a0_5.toInt ≤ j67l1.toInt) → (j67a0_8.toInt ≤ j67l1.toInt) → (FX = fl_wh (fun t9 => Sf_X8_next_67_4 a0_3.toInt (fl_A fa0_1) j5l1.toInt t9.1 t9.2.1 t9.2.2) (0, 0, 0, 0, 0, (fun _ => 0)) n (j67l1.toInt, j67a0_8.toInt, (fl_A j67a0_12_a))) → va_P (dC, dI) vwCl [(a0, .inr (8, [a0g_0, Value.ref a0_1, a0g_2, Value.int a0_3, Value.int j5l1, Value.int a0_5, Value.int a0_6, Value.int 0, Value.int j67a0_8, a0g_9, a0g_10, a0g_11, Value.ref a0_12, a0g_13, a0g_14, a0g_15, a0g_16, a0g_17, a0g_18, a0g_19, a0g_20, a0g_21, a0g_22, a0g_23, a0g_24, a0g_25, a0g_26, a0g_27, a0g_28, a0g_29, a0g_30, a0g_31, a0g_32, a0g_33, a0g_34, a0g_35, a0g_36, a0g_37, a0g_38, a0g_39])), (a0_1, .inl (ka0_1, 900, .inl (fa0_1))), (a0_12, .inl (ka0_12, 8, .inl (j67a0_12_a)))] H → va_D A [(a0, .inr (8, [a0g_0, Value.ref a0_1, a0g_2, Value.int a0_3, Value.int j5l1, Value.int a0_5, Value.int a0_6, Value.int 0, Value.int j67a0_8, a0g_9, a0g_10, a0g_11, Value.ref a0_12, a0g_13, a0g_14, a0g_15, a0g_16, a0g_17, a0g_18, a0g_19, a0g_20, a0g_21, a0g_22, a0g_23, a0g_24, a0g_25, a0g_26, a0g_27, a0g_28, a0g_29, a0g_30, a0g_31, a0g_32, a0g_33, a0g_34, a0g_35, a0g_36, a0g_37, a0g_38, a0g_39])), (a0_1, .inl (ka0_1, 900, .inl (fa0_1))), (a0_12, .inl (ka0_12, 8, .inl (j67a0_12_a)))] → va_S A s.heap H locs → lv_has ls 4 [(0, .ref a0), (1, .int j67l1)] → K H locs (F0 m 67 ls []) := by
                  intro n
                  induction n with
                  | zero =>
                    intro j67l1 j67a0_8 j67a0_12_a H locs ls hm bj67l1_l bj67l1_u bj67a0_8_l bj67a0_8_u ke67 nk67 hF0 hP hD hS hl
                    first | exact zg_0 hm bj67l1_u (by decide) | (have h8 := ai_min j67l1; have h9 := ai_max j67l1; exact absurd hm (by omega))
                  | succ n ih67 =>
                    intro j67l1 j67a0_8 j67a0_12_a H locs ls hm bj67l1_l bj67l1_u bj67a0_8_l bj67a0_8_u ke67 nk67 hF0 hP hD hS hl
                    refine (hK0 _ _ _).mpr ?_
                    have hm67 := hm
                    obtain ⟨SX67, hSX67⟩ : ∃ q9, Sf_X8_next_67_4 a0_3.toInt (fl_A fa0_1) j5l1.toInt j67l1.toInt j67a0_8.toInt (fl_A j67a0_12_a) = q9 := ⟨_, rfl⟩
                    have hF1 := hSX67.symm.trans (Sf_X8_next_67_4.eq_1 a0_3.toInt (fl_A fa0_1) j5l1.toInt j67l1.toInt j67a0_8.toInt (fl_A j67a0_12_a))
                    refine lv_aload_n hx hb dX8_next_67 rfl (lv_at hl 0 rfl) ?_
                    refine lv_iload_n hx hb dX8_next_68 rfl (lv_at hl 1 rfl) ?_
                    have hKc := hK.sub (tys' := [(ka0_1, .int)]) [0] rfl
                    refine va_calli (va_runV (As := [.int j67l1]) (rest := []) ⟨hx, hb, hml, hown, hts⟩ (f_X8_see l dC dI H.size a0 j67l1 a0g_0 a0g_2 (Value.int j5l1) (Value.int a0_5) (Value.int a0_6) (Value.int 0) (Value.int j67a0_8) a0g_9 a0g_10 a0g_11 (Value.ref a0_12) a0g_13 a0g_14 a0g_15 a0g_16 a0g_17 a0g_18 a0g_19 a0g_20 a0g_21 a0g_22 a0g_23 a0g_24 a0g_25 a0g_26 a0g_27 a0g_28 a0g_29 a0g_30 a0g_31 a0g_32 a0g_33 a0g_34 a0g_35 a0g_36 a0g_37 a0g_38 a0g_39 a0_1 a0_3 ka0_1 fa0_1 bj67l1_l bj67l1_u ba0_3_l ba0_3_u) (cwV 1 hts gX8_next_X8_see rfl rfl rfl zd_X8_see ⟨Nat.le_of_ble_eq_true rfl, Nat.le_of_ble_eq_true rfl⟩) ⟨ax_blind (fun _ _ _ _ _ => trivial), zr_8 hKc (zp_P2 hP) (q0 := 0) rfl, ax_pre (zp_P2 hP) hKc (zp_D2 hD) (fun _ _ => trivial)⟩ rfl rfl hl.1 rfl (lv_room (Nat.le_of_ble_eq_true rfl)) dX8_next_69 ⟨Nat.le_of_ble_eq_true rfl, Nat.le_of_ble_eq_true rfl⟩) hS (fun q _ h => zp_F2 hD hS hA q h) (zp_F2 hD hS hA) (fun r69 u t H locs ht hvm hw hB hz1 hk1 hS1 => zo2 hB ht hP hD hk1 (zp_F2 hD hS hA) hS1 (fun hP hK1 hD hS => ?_))
                    obtain ⟨hw, hfr69⟩ := hw
                    have hc69 : Ff_X8_see j67l1.toInt a0_3.toInt (fl_A fa0_1) = r69.toInt := hfr69.symm
                    have hF1 := hF1.trans (fl_lt_eq hc69.symm)
                    rcases hw with hw | hw
                    · obtain ⟨hw, h69⟩ := hw
                      subst hw
                      have hF1 := hF1.trans (if_pos (show a0_3.toInt ≤ j67l1.toInt from h69))
                      refine va_calli (va_runS (As := [.int (-1)]) (rest := []) ⟨hx, hb, hml, hown, hts⟩ (f_X8_isSmall l dC dI H.size (-1) ) (va_cwS 1 hts gX8_next_X8_isSmall rfl rfl rfl zd_X8_isSmall.2 ⟨Nat.le_of_ble_eq_true rfl, Nat.le_of_ble_eq_true rfl⟩) ⟨ax_blind (fun _ _ _ _ _ => trivial), ax_pre (zp_P0 hP) (zp_K hK) (zp_D0 hD) (fun _ _ => trivial)⟩ rfl rfl hl.1 rfl (lv_room (Nat.le_of_ble_eq_true rfl)) dX8_next_72 ⟨Nat.le_of_ble_eq_true rfl, Nat.le_of_ble_eq_true rfl⟩) hS (fun q _ h => zp_F0 hD hS hA q h) (zp_F0 hD hS hA) (fun r72 u t H locs ht hvm hw hB hz1 hk1 hS1 => zo0 hB ht hP hD hk1 (zp_F0 hD hS hA) hS1 (fun hP hK1 hD hS => ?_))
                      obtain ⟨hw, hfr72⟩ := hw
                      rw [show ((-1) : Int32).toInt = (-1) from by decide] at hfr72
                      have hc72 : Ff_X8_isSmall (-1) = r72.toInt := hfr72.symm
                      have hF1 := hF1.trans (fl_lt_eq hc72.symm)
                      rcases hw with hw | hw
                      · obtain ⟨hw, h72_0, h72_1⟩ := hw
                        subst hw
                        exact absurd h72_0 (by decide)
                      · subst hw
                        have hF1 := hF1.trans (if_neg (by decide))
                        refine lv_if_eq (tgt := 117) hx hb dX8_next_75 (by decide) (fun _ => ?_) (fun c75 => absurd (by decide +kernel) c75)
                        have hF0 := hF0.trans (fl_wh_r (hSX67.trans hF1))
                        refine lv_aload_n hx hb dX8_next_117 rfl (lv_at hl 0 rfl) ?_
                        refine lv_iload_n hx hb dX8_next_118 rfl (lv_at hl 1 rfl) ?_
                        refine va_put (D := (dC, dI)) (ci := 8) (v := .int j67l1) (ty := .int) (C := RX8) (T := TX8) (N := 40) hx hb hts zi_X8_next_8 tyX8 tyX8_ok nmX8 hown hK hP hD hS 0 rfl rfl 5 (by decide) (hts (.fieldLink RX8 71 "WaxTurnsModel" "end" "I") (List.mem_cons_of_mem _ (List.mem_append_left _ (List.mem_of_getElem? (i := 0) rfl)))) (fun _ h9 => h9) rfl (tyX8_ok 5 (by decide)) rfl rfl (Nat.le_of_ble_eq_true rfl) dX8_next_119 (fun H locs hP hD hS => ?_)
                        refine zs_0 (y := (a0, .inr (8, [a0g_0, Value.ref a0_1, a0g_2, Value.int a0_3, Value.int j5l1, Value.int j67l1, Value.int a0_6, Value.int 0, Value.int j67a0_8, a0g_9, a0g_10, a0g_11, Value.ref a0_12, a0g_13, a0g_14, a0g_15, a0g_16, a0g_17, a0g_18, a0g_19, a0g_20, a0g_21, a0g_22, a0g_23, a0g_24, a0g_25, a0g_26, a0g_27, a0g_28, a0g_29, a0g_30, a0g_31, a0g_32, a0g_33, a0g_34, a0g_35, a0g_36, a0g_37, a0g_38, a0g_39]))) hP hD rfl (fun hP hD => ?_)
                        refine lv_aload_n hx hb dX8_next_122 rfl (lv_at hl 0 rfl) ?_
                        refine lv_aload_n hx hb dX8_next_123 rfl (lv_at hl 0 rfl) ?_
                        refine va_get (D := (dC, dI)) (ci := 8) (v := .int j67a0_8) (C := RX8) (T := TX8) (N := 40) hx hb hts zi_X8_next_8 hown hK hP 0 rfl rfl 8 (by decide) (hts (.fieldLink RX8 81 "WaxTurnsModel" "nameSize" "I") (List.mem_cons_of_mem _ (List.mem_append_left _ (List.mem_of_getElem? (i := 2) rfl)))) (fun _ h9 => h9) rfl dX8_next_124 ?_
                        refine lv_bipush (v := 8) hx hb dX8_next_127 zk_bipush_8 ?_
                        refine lv_icmp_le (tgt := 136) hx hb dX8_next_129 (by decide) (fun c129 => ?_) (fun c129 => ?_)
                        · have gc129 := ai_le c129
                          have u129t_j67a0_8 : j67a0_8.toInt ≤ (8 : Int) := Int.le_trans gc129 zq28
                          have hF0 := hF0.trans (if_pos (show j67a0_8.toInt ≤ 8 from gc129))
                          refine lv_iconst (v := 2) hx hb dX8_next_136 zk_iconst_2 ?_
                          refine va_put (D := (dC, dI)) (ci := 8) (v := .int 2) (ty := .int) (C := RX8) (T := TX8) (N := 40) hx hb hts zi_X8_next_8 tyX8 tyX8_ok nmX8 hown hK hP hD hS 0 rfl rfl 6 (by decide) (hts (.fieldLink RX8 87 "WaxTurnsModel" "token" "I") (List.mem_cons_of_mem _ (List.mem_append_left _ (List.mem_of_getElem? (i := 4) rfl)))) (fun _ h9 => h9) rfl (tyX8_ok 6 (by decide)) rfl rfl (Nat.le_of_ble_eq_true rfl) dX8_next_137 (fun H locs hP hD hS => ?_)
                          refine zs_0 (y := (a0, .inr (8, [a0g_0, Value.ref a0_1, a0g_2, Value.int a0_3, Value.int j5l1, Value.int j67l1, Value.int 2, Value.int 0, Value.int j67a0_8, a0g_9, a0g_10, a0g_11, Value.ref a0_12, a0g_13, a0g_14, a0g_15, a0g_16, a0g_17, a0g_18, a0g_19, a0g_20, a0g_21, a0g_22, a0g_23, a0g_24, a0g_25, a0g_26, a0g_27, a0g_28, a0g_29, a0g_30, a0g_31, a0g_32, a0g_33, a0g_34, a0g_35, a0g_36, a0g_37, a0g_38, a0g_39]))) hP hD rfl (fun hP hD => ?_)
                          refine lv_goto (tgt := 241) hx hb dX8_next_140 (by decide) ?_
                          have hFe : FX = (j5l1.toInt, j67l1.toInt, 2, 0, j67a0_8.toInt, (fl_A j67a0_12_a)) := hF0
                          exact W.vret hx hb hr (fun t ht hW => ⟨⟨(), rfl, trivial, j5l1, j67l1, 2, 0, j67a0_8, j67a0_12_a, ⟨bj67l1_l, bj67l1_u⟩, ⟨bj67a0_8_l, Int.le_trans u129t_j67a0_8 (by decide)⟩, (fun _ => u129t_j67a0_8), ⟨by omega, Or.inl (by decide)⟩, hFe, by rw [ht]; exact hP, va_K.moved hW.alike hK, hD⟩, hS.F ht⟩) hS.2.2 dX8_next_241
                        · have gc129 := ai_nle c129
                          have l129f_j67a0_8 : (9 : Int) ≤ j67a0_8.toInt := ai_ltlo gc129 zq116
                          have hF0 := hF0.trans (if_neg (show ¬ (j67a0_8.toInt ≤ 8) from Int.not_le.mpr gc129))
                          refine lv_iconst (v := 1) hx hb dX8_next_132 zk_iconst_1 ?_
                          refine lv_goto (tgt := 137) hx hb dX8_next_133 (by decide) ?_
                          refine va_put (D := (dC, dI)) (ci := 8) (v := .int 1) (ty := .int) (C := RX8) (T := TX8) (N := 40) hx hb hts zi_X8_next_8 tyX8 tyX8_ok nmX8 hown hK hP hD hS 0 rfl rfl 6 (by decide) (hts (.fieldLink RX8 87 "WaxTurnsModel" "token" "I") (List.mem_cons_of_mem _ (List.mem_append_left _ (List.mem_of_getElem? (i := 4) rfl)))) (fun _ h9 => h9) rfl (tyX8_ok 6 (by decide)) rfl rfl (Nat.le_of_ble_eq_true rfl) dX8_next_137 (fun H locs hP hD hS => ?_)
                          refine zs_0 (y := (a0, .inr (8, [a0g_0, Value.ref a0_1, a0g_2, Value.int a0_3, Value.int j5l1, Value.int j67l1, Value.int 1, Value.int 0, Value.int j67a0_8, a0g_9, a0g_10, a0g_11, Value.ref a0_12, a0g_13, a0g_14, a0g_15, a0g_16, a0g_17, a0g_18, a0g_19, a0g_20, a0g_21, a0g_22, a0g_23, a0g_24, a0g_25, a0g_26, a0g_27, a0g_28, a0g_29, a0g_30, a0g_31, a0g_32, a0g_33, a0g_34, a0g_35, a0g_36, a0g_37, a0g_38, a0g_39]))) hP hD rfl (fun hP hD => ?_)
                          refine lv_goto (tgt := 241) hx hb dX8_next_140 (by decide) ?_
                          have hFe : FX = (j5l1.toInt, j67l1.toInt, 1, 0, j67a0_8.toInt, (fl_A j67a0_12_a)) := hF0
                          exact W.vret hx hb hr (fun t ht hW => ⟨⟨(), rfl, trivial, j5l1, j67l1, 1, 0, j67a0_8, j67a0_12_a, ⟨bj67l1_l, bj67l1_u⟩, ⟨Int.le_trans (by decide) l129f_j67a0_8, bj67a0_8_u⟩, (fun h9 => absurd h9 (by decide)), ⟨by omega, Or.inl (by decide)⟩, hFe, by rw [ht]; exact hP, va_K.moved hW.alike hK, hD⟩, hS.F ht⟩) hS.2.2 dX8_next_241
                    · have h69 := hw
                      have u69k1_j67l1 : j67l1.toInt ≤ (899 : Int) := by have h1 := h69; have h2 := ba0_3_u; omega
                      have hF1 := hF1.trans (if_neg (show ¬ (a0_3.toInt ≤ j67l1.toInt) from Int.not_le.mpr h69))
                      refine va_calli (va_runS (As := [.int r69]) (rest := []) ⟨hx, hb, hml, hown, hts⟩ (f_X8_isSmall l dC dI H.size r69 ) (va_cwS 1 hts gX8_next_X8_isSmall rfl rfl rfl zd_X8_isSmall.2 ⟨Nat.le_of_ble_eq_true rfl, Nat.le_of_ble_eq_true rfl⟩) ⟨ax_blind (fun _ _ _ _ _ => trivial), ax_pre (zp_P0 hP) (zp_K hK) (zp_D0 hD) (fun _ _ => trivial)⟩ rfl rfl hl.1 rfl (lv_room (Nat.le_of_ble_eq_true rfl)) dX8_next_72 ⟨Nat.le_of_ble_eq_true rfl, Nat.le_of_ble_eq_true rfl⟩) hS (fun q _ h => zp_F0 hD hS hA q h) (zp_F0 hD hS hA) (fun r72 u t H locs ht hvm hw hB hz1 hk1 hS1 => zo0 hB ht hP hD hk1 (zp_F0 hD hS hA) hS1 (fun hP hK1 hD hS => ?_))
                      obtain ⟨hw, hfr72⟩ := hw
                      have hc72 : Ff_X8_isSmall r69.toInt = r72.toInt := hfr72.symm
                      have hF1 := hF1.trans (fl_lt_eq hc72.symm)
                      rcases hw with hw | hw
                      · obtain ⟨hw, h72_0, h72_1⟩ := hw
                        subst hw
                        have l72k0_r69 : (97 : Int) ≤ r69.toInt := h72_0
                        have u72k0_r69 : r69.toInt ≤ (122 : Int) := h72_1
                        have hF1 := hF1.trans (if_pos (by decide))
                        refine lv_if_eq (tgt := 117) hx hb dX8_next_75 (by decide) (fun c75 => absurd c75 (by decide +kernel)) (fun _ => ?_)
                        refine lv_aload_n hx hb dX8_next_78 rfl (lv_at hl 0 rfl) ?_
                        refine va_get (D := (dC, dI)) (ci := 8) (v := .int j67a0_8) (C := RX8) (T := TX8) (N := 40) hx hb hts zi_X8_next_8 hown hK hP 0 rfl rfl 8 (by decide) (hts (.fieldLink RX8 81 "WaxTurnsModel" "nameSize" "I") (List.mem_cons_of_mem _ (List.mem_append_left _ (List.mem_of_getElem? (i := 2) rfl)))) (fun _ h9 => h9) rfl dX8_next_79 ?_
                        refine lv_bipush (v := 8) hx hb dX8_next_82 zk_bipush_8 ?_
                        have J101 : ∀ (j101a0_12_a : Nat → Int32) (H : Heap) (locs : List Loc) (ls : Array Slot), (SX67 = Gf_X8_next_101_4 j67l1.toInt j67a0_8.toInt (fl_A j101a0_12_a)) → va_P (dC, dI) vwCl [(a0, .inr (8, [a0g_0, Value.ref a0_1, a0g_2, Value.int a0_3, Value.int j5l1, Value.int a0_5, Value.int a0_6, Value.int 0, Value.int j67a0_8, a0g_9, a0g_10, a0g_11, Value.ref a0_12, a0g_13, a0g_14, a0g_15, a0g_16, a0g_17, a0g_18, a0g_19, a0g_20, a0g_21, a0g_22, a0g_23, a0g_24, a0g_25, a0g_26, a0g_27, a0g_28, a0g_29, a0g_30, a0g_31, a0g_32, a0g_33, a0g_34, a0g_35, a0g_36, a0g_37, a0g_38, a0g_39])), (a0_1, .inl (ka0_1, 900, .inl (fa0_1))), (a0_12, .inl (ka0_12, 8, .inl (j101a0_12_a)))] H → va_D A [(a0, .inr (8, [a0g_0, Value.ref a0_1, a0g_2, Value.int a0_3, Value.int j5l1, Value.int a0_5, Value.int a0_6, Value.int 0, Value.int j67a0_8, a0g_9, a0g_10, a0g_11, Value.ref a0_12, a0g_13, a0g_14, a0g_15, a0g_16, a0g_17, a0g_18, a0g_19, a0g_20, a0g_21, a0g_22, a0g_23, a0g_24, a0g_25, a0g_26, a0g_27, a0g_28, a0g_29, a0g_30, a0g_31, a0g_32, a0g_33, a0g_34, a0g_35, a0g_36, a0g_37, a0g_38, a0g_39])), (a0_1, .inl (ka0_1, 900, .inl (fa0_1))), (a0_12, .inl (ka0_12, 8, .inl (j101a0_12_a)))] → va_S A s.heap H locs → lv_has ls 4 [(0, .ref a0), (1, .int j67l1)] → K H locs (F0 m 101 ls []) := by
                          intro j101a0_12_a H locs ls  hF1 hP hD hS hl
                          refine (hK0 _ _ _).mpr ?_
                          have hF1 := hF1.trans (Gf_X8_next_101_4.eq_1 j67l1.toInt j67a0_8.toInt (fl_A j101a0_12_a))
                          refine lv_aload_n hx hb dX8_next_101 rfl (lv_at hl 0 rfl) ?_
                          refine lv_dup hx hb dX8_next_102 rfl ?_
                          refine va_get (D := (dC, dI)) (ci := 8) (v := .int j67a0_8) (C := RX8) (T := TX8) (N := 40) hx hb hts zi_X8_next_8 hown hK hP 0 rfl rfl 8 (by decide) (hts (.fieldLink RX8 81 "WaxTurnsModel" "nameSize" "I") (List.mem_cons_of_mem _ (List.mem_append_left _ (List.mem_of_getElem? (i := 2) rfl)))) (fun _ h9 => h9) rfl dX8_next_103 ?_
                          have u103z_j67a0_8 : j67a0_8.toInt ≤ (899 : Int) := by omega
                          refine lv_iconst (v := 1) hx hb dX8_next_106 zk_iconst_1 ?_
                          refine lv_iadd hx hb dX8_next_107 ?_
                          refine lv_topi (fun x107 ex107 => ?_)
                          have qx107 : x107.toInt = j67a0_8.toInt + (1 : Int32).toInt := ai_add ex107 ⟨bj67a0_8_l, u103z_j67a0_8⟩ ⟨zq1, zq0⟩ (by decide) (by decide)
                          have bx107 : (1 : Int) ≤ x107.toInt ∧ x107.toInt ≤ 900 := ⟨by rw [qx107]; exact Int.add_le_add bj67a0_8_l zq1, by rw [qx107]; exact Int.add_le_add u103z_j67a0_8 zq0⟩
                          have wx107 : x107.toInt = j67a0_8.toInt + 1 := qx107
                          have hF1 := hF1.trans (fl_lt_eq (show x107.toInt = j67a0_8.toInt + 1 from qx107))
                          refine va_put (D := (dC, dI)) (ci := 8) (v := .int x107) (ty := .int) (C := RX8) (T := TX8) (N := 40) hx hb hts zi_X8_next_8 tyX8 tyX8_ok nmX8 hown hK hP hD hS 0 rfl rfl 8 (by decide) (hts (.fieldLink RX8 81 "WaxTurnsModel" "nameSize" "I") (List.mem_cons_of_mem _ (List.mem_append_left _ (List.mem_of_getElem? (i := 2) rfl)))) (fun _ h9 => h9) rfl (tyX8_ok 8 (by decide)) rfl rfl (Nat.le_of_ble_eq_true rfl) dX8_next_108 (fun H locs hP hD hS => ?_)
                          refine zs_0 (y := (a0, .inr (8, [a0g_0, Value.ref a0_1, a0g_2, Value.int a0_3, Value.int j5l1, Value.int a0_5, Value.int a0_6, Value.int 0, Value.int x107, a0g_9, a0g_10, a0g_11, Value.ref a0_12, a0g_13, a0g_14, a0g_15, a0g_16, a0g_17, a0g_18, a0g_19, a0g_20, a0g_21, a0g_22, a0g_23, a0g_24, a0g_25, a0g_26, a0g_27, a0g_28, a0g_29, a0g_30, a0g_31, a0g_32, a0g_33, a0g_34, a0g_35, a0g_36, a0g_37, a0g_38, a0g_39]))) hP hD rfl (fun hP hD => ?_)
                          obtain ⟨x111, ex111⟩ : ∃ y : Int32, y = j67l1 + Int32.ofInt 1 := ⟨_, rfl⟩
                          have qx111 : x111.toInt = j67l1.toInt + 1 := ai_inc ex111 (by decide) (by decide) u69k1_j67l1 (by decide)
                          have bx111 : (1 : Int) ≤ x111.toInt ∧ x111.toInt ≤ 900 := ⟨by rw [qx111]; exact Int.add_le_add bj67l1_l (Int.le_refl _), by rw [qx111]; exact Int.add_le_add u69k1_j67l1 (Int.le_refl _)⟩
                          refine lv_iinc (v := x111) (lv' := [(1, .int x111), (0, .ref a0)]) hx hb dX8_next_111 hl (k := 1) rfl ex111.symm (by decide) rfl (fun ls hl => ?_)
                          have hF1 := hF1.trans (fl_lt_eq (show x111.toInt = j67l1.toInt + 1 from qx111))
                          refine lv_goto (tgt := 67) hx hb dX8_next_114 (by decide) ?_
                          exact (hK0 _ _ _).mp (ih67 x111 x107 j101a0_12_a _ _ _ (by first | exact zg_s hm67 qx111 | (have h0 := qx111; omega)) (Int.le_trans zq4 bx111.1) bx111.2 (Int.le_trans zq4 bx107.1) bx107.2 (by omega) (by omega) (hF0.trans (fl_wh_l (hSX67.trans hF1))) hP hD hS (lv_sub hl [1, 0] rfl))
                        refine lv_icmp_ge (tgt := 101) hx hb dX8_next_84 (by decide) (fun c84 => ?_) (fun c84 => ?_)
                        · have gc84 := ai_le c84
                          have l84t_j67a0_8 : (8 : Int) ≤ j67a0_8.toInt := Int.le_trans zq116 gc84
                          have hF1 := hF1.trans (if_pos (show 8 ≤ j67a0_8.toInt from gc84))
                          exact (hK0 _ _ _).mp (J101 j67a0_12_a _ _ _   hF1 hP hD hS (lv_sub hl [0, 1] rfl))
                        · have gc84 := ai_nle c84
                          have u84f_j67a0_8 : j67a0_8.toInt ≤ (7 : Int) := ai_lthi gc84 zq28
                          have hF1 := hF1.trans (if_neg (show ¬ (8 ≤ j67a0_8.toInt) from Int.not_le.mpr gc84))
                          refine lv_aload_n hx hb dX8_next_87 rfl (lv_at hl 0 rfl) ?_
                          refine va_get (D := (dC, dI)) (ci := 8) (v := .ref a0_12) (C := RX8) (T := TX8) (N := 40) hx hb hts zi_X8_next_8 hown hK hP 0 rfl rfl 12 (by decide) (hts (.fieldLink RX8 17 "WaxTurnsModel" "letters" "[I") (List.mem_cons_of_mem _ (List.mem_append_left _ (List.mem_of_getElem? (i := 5) rfl)))) (fun _ h9 => h9) rfl dX8_next_88 ?_
                          refine lv_aload_n hx hb dX8_next_91 rfl (lv_at hl 0 rfl) ?_
                          refine va_get (D := (dC, dI)) (ci := 8) (v := .int j67a0_8) (C := RX8) (T := TX8) (N := 40) hx hb hts zi_X8_next_8 hown hK hP 0 rfl rfl 8 (by decide) (hts (.fieldLink RX8 81 "WaxTurnsModel" "nameSize" "I") (List.mem_cons_of_mem _ (List.mem_append_left _ (List.mem_of_getElem? (i := 2) rfl)))) (fun _ h9 => h9) rfl dX8_next_92 ?_
                          refine lv_aload_n hx hb dX8_next_95 rfl (lv_at hl 0 rfl) ?_
                          refine lv_iload_n hx hb dX8_next_96 rfl (lv_at hl 1 rfl) ?_
                          have hKc := hK.sub (tys' := [(ka0_1, .int)]) [0] rfl
                          refine va_calli (va_runV (As := [.int j67l1]) (rest := [.int j67a0_8, .ref a0_12]) ⟨hx, hb, hml, hown, hts⟩ (f_X8_see l dC dI H.size a0 j67l1 a0g_0 a0g_2 (Value.int j5l1) (Value.int a0_5) (Value.int a0_6) (Value.int 0) (Value.int j67a0_8) a0g_9 a0g_10 a0g_11 (Value.ref a0_12) a0g_13 a0g_14 a0g_15 a0g_16 a0g_17 a0g_18 a0g_19 a0g_20 a0g_21 a0g_22 a0g_23 a0g_24 a0g_25 a0g_26 a0g_27 a0g_28 a0g_29 a0g_30 a0g_31 a0g_32 a0g_33 a0g_34 a0g_35 a0g_36 a0g_37 a0g_38 a0g_39 a0_1 a0_3 ka0_1 fa0_1 bj67l1_l (Int.le_trans u69k1_j67l1 zq145) ba0_3_l ba0_3_u) (cwV 1 hts gX8_next_X8_see rfl rfl rfl zd_X8_see ⟨Nat.le_of_ble_eq_true rfl, Nat.le_of_ble_eq_true rfl⟩) ⟨ax_blind (fun _ _ _ _ _ => trivial), zr_8 hKc (zp_P2 hP) (q0 := 0) rfl, ax_pre (zp_P2 hP) hKc (zp_D2 hD) (fun _ _ => trivial)⟩ rfl rfl hl.1 rfl (lv_room (Nat.le_of_ble_eq_true rfl)) dX8_next_97 ⟨Nat.le_of_ble_eq_true rfl, Nat.le_of_ble_eq_true rfl⟩) hS (fun q _ h => zp_F2 hD hS hA q h) (zp_F2 hD hS hA) (fun r97 u t H locs ht hvm hw hB hz1 hk1 hS1 => zo2 hB ht hP hD hk1 (zp_F2 hD hS hA) hS1 (fun hP hK1 hD hS => ?_))
                          obtain ⟨hw, hfr97⟩ := hw
                          have hc97 : Ff_X8_see j67l1.toInt a0_3.toInt (fl_A fa0_1) = r97.toInt := hfr97.symm
                          have hF1 := hF1.trans (fl_lt_eq hc97.symm)
                          rcases hw with hw | hw
                          · obtain ⟨hw, h97⟩ := hw
                            subst hw
                            have hF1 := hF1.trans (if_pos (show a0_3.toInt ≤ j67l1.toInt from h97))
                            refine va_iast hx hb hK hP hD hS 2 1 rfl rfl (ai_in bj67a0_8_l u84f_j67a0_8 (by decide) (by decide)) dX8_next_100 (fun H locs hP hD hS => ?_)
                            obtain ⟨f100, ef100⟩ : ∃ g9 : Nat → Int32, g9 = upd j67a0_12_a (j67a0_8 : Int32).toNatClampNeg ((-1) : Int32) := ⟨_, rfl⟩
                            refine zs_2 (y := (a0_12, .inl (ka0_12, 8, .inl (f100)))) hP hD (by rw [ef100]) (fun hP hD => ?_)
                            have fqf100 := fl_up_eq ef100
                            have hF1 := hF1.trans (fl_lt_eq (show (fl_A f100) = fl_up (fl_A j67a0_12_a) (j67a0_8.toInt.toNat) (-1) from fqf100))
                            exact (hK0 _ _ _).mp (J101 f100 _ _ _   hF1 hP hD hS (lv_sub hl [0, 1] rfl))
                          · have h97 := hw
                            have u97k1_j67l1 : j67l1.toInt ≤ (899 : Int) := u69k1_j67l1
                            have hF1 := hF1.trans (if_neg (show ¬ (a0_3.toInt ≤ j67l1.toInt) from Int.not_le.mpr h97))
                            refine va_iast hx hb hK hP hD hS 2 1 rfl rfl (ai_in bj67a0_8_l u84f_j67a0_8 (by decide) (by decide)) dX8_next_100 (fun H locs hP hD hS => ?_)
                            obtain ⟨f100, ef100⟩ : ∃ g9 : Nat → Int32, g9 = upd j67a0_12_a (j67a0_8 : Int32).toNatClampNeg r97 := ⟨_, rfl⟩
                            refine zs_2 (y := (a0_12, .inl (ka0_12, 8, .inl (f100)))) hP hD (by rw [ef100]) (fun hP hD => ?_)
                            have fqf100 := fl_up_eq ef100
                            have hF1 := hF1.trans (fl_lt_eq (show (fl_A f100) = fl_up (fl_A j67a0_12_a) (j67a0_8.toInt.toNat) r97.toInt from fqf100))
                            exact (hK0 _ _ _).mp (J101 f100 _ _ _   hF1 hP hD hS (lv_sub hl [0, 1] rfl))
                      · subst hw
                        have hF1 := hF1.trans (if_neg (by decide))
                        refine lv_if_eq (tgt := 117) hx hb dX8_next_75 (by decide) (fun _ => ?_) (fun c75 => absurd (by decide +kernel) c75)
                        have hF0 := hF0.trans (fl_wh_r (hSX67.trans hF1))
                        refine lv_aload_n hx hb dX8_next_117 rfl (lv_at hl 0 rfl) ?_
                        refine lv_iload_n hx hb dX8_next_118 rfl (lv_at hl 1 rfl) ?_
                        refine va_put (D := (dC, dI)) (ci := 8) (v := .int j67l1) (ty := .int) (C := RX8) (T := TX8) (N := 40) hx hb hts zi_X8_next_8 tyX8 tyX8_ok nmX8 hown hK hP hD hS 0 rfl rfl 5 (by decide) (hts (.fieldLink RX8 71 "WaxTurnsModel" "end" "I") (List.mem_cons_of_mem _ (List.mem_append_left _ (List.mem_of_getElem? (i := 0) rfl)))) (fun _ h9 => h9) rfl (tyX8_ok 5 (by decide)) rfl rfl (Nat.le_of_ble_eq_true rfl) dX8_next_119 (fun H locs hP hD hS => ?_)
                        refine zs_0 (y := (a0, .inr (8, [a0g_0, Value.ref a0_1, a0g_2, Value.int a0_3, Value.int j5l1, Value.int j67l1, Value.int a0_6, Value.int 0, Value.int j67a0_8, a0g_9, a0g_10, a0g_11, Value.ref a0_12, a0g_13, a0g_14, a0g_15, a0g_16, a0g_17, a0g_18, a0g_19, a0g_20, a0g_21, a0g_22, a0g_23, a0g_24, a0g_25, a0g_26, a0g_27, a0g_28, a0g_29, a0g_30, a0g_31, a0g_32, a0g_33, a0g_34, a0g_35, a0g_36, a0g_37, a0g_38, a0g_39]))) hP hD rfl (fun hP hD => ?_)
                        refine lv_aload_n hx hb dX8_next_122 rfl (lv_at hl 0 rfl) ?_
                        refine lv_aload_n hx hb dX8_next_123 rfl (lv_at hl 0 rfl) ?_
                        refine va_get (D := (dC, dI)) (ci := 8) (v := .int j67a0_8) (C := RX8) (T := TX8) (N := 40) hx hb hts zi_X8_next_8 hown hK hP 0 rfl rfl 8 (by decide) (hts (.fieldLink RX8 81 "WaxTurnsModel" "nameSize" "I") (List.mem_cons_of_mem _ (List.mem_append_left _ (List.mem_of_getElem? (i := 2) rfl)))) (fun _ h9 => h9) rfl dX8_next_124 ?_
                        refine lv_bipush (v := 8) hx hb dX8_next_127 zk_bipush_8 ?_
                        refine lv_icmp_le (tgt := 136) hx hb dX8_next_129 (by decide) (fun c129 => ?_) (fun c129 => ?_)
                        · have gc129 := ai_le c129
                          have u129t_j67a0_8 : j67a0_8.toInt ≤ (8 : Int) := Int.le_trans gc129 zq28
                          have hF0 := hF0.trans (if_pos (show j67a0_8.toInt ≤ 8 from gc129))
                          refine lv_iconst (v := 2) hx hb dX8_next_136 zk_iconst_2 ?_
                          refine va_put (D := (dC, dI)) (ci := 8) (v := .int 2) (ty := .int) (C := RX8) (T := TX8) (N := 40) hx hb hts zi_X8_next_8 tyX8 tyX8_ok nmX8 hown hK hP hD hS 0 rfl rfl 6 (by decide) (hts (.fieldLink RX8 87 "WaxTurnsModel" "token" "I") (List.mem_cons_of_mem _ (List.mem_append_left _ (List.mem_of_getElem? (i := 4) rfl)))) (fun _ h9 => h9) rfl (tyX8_ok 6 (by decide)) rfl rfl (Nat.le_of_ble_eq_true rfl) dX8_next_137 (fun H locs hP hD hS => ?_)
                          refine zs_0 (y := (a0, .inr (8, [a0g_0, Value.ref a0_1, a0g_2, Value.int a0_3, Value.int j5l1, Value.int j67l1, Value.int 2, Value.int 0, Value.int j67a0_8, a0g_9, a0g_10, a0g_11, Value.ref a0_12, a0g_13, a0g_14, a0g_15, a0g_16, a0g_17, a0g_18, a0g_19, a0g_20, a0g_21, a0g_22, a0g_23, a0g_24, a0g_25, a0g_26, a0g_27, a0g_28, a0g_29, a0g_30, a0g_31, a0g_32, a0g_33, a0g_34, a0g_35, a0g_36, a0g_37, a0g_38, a0g_39]))) hP hD rfl (fun hP hD => ?_)
                          refine lv_goto (tgt := 241) hx hb dX8_next_140 (by decide) ?_
                          have hFe : FX = (j5l1.toInt, j67l1.toInt, 2, 0, j67a0_8.toInt, (fl_A j67a0_12_a)) := hF0
                          exact W.vret hx hb hr (fun t ht hW => ⟨⟨(), rfl, trivial, j5l1, j67l1, 2, 0, j67a0_8, j67a0_12_a, ⟨bj67l1_l, Int.le_trans u69k1_j67l1 (by decide)⟩, ⟨bj67a0_8_l, Int.le_trans u129t_j67a0_8 (by decide)⟩, (fun _ => u129t_j67a0_8), ⟨by omega, Or.inl (by decide)⟩, hFe, by rw [ht]; exact hP, va_K.moved hW.alike hK, hD⟩, hS.F ht⟩) hS.2.2 dX8_next_241
                        · have gc129 := ai_nle c129
                          have l129f_j67a0_8 : (9 : Int) ≤ j67a0_8.toInt := ai_ltlo gc129 zq116
                          have hF0 := hF0.trans (if_neg (show ¬ (j67a0_8.toInt ≤ 8) from Int.not_le.mpr gc129))
                          refine lv_iconst (v := 1) hx hb dX8_next_132 zk_iconst_1 ?_
                          refine lv_goto (tgt := 137) hx hb dX8_next_133 (by decide) ?_
                          refine va_put (D := (dC, dI)) (ci := 8) (v := .int 1) (ty := .int) (C := RX8) (T := TX8) (N := 40) hx hb hts zi_X8_next_8 tyX8 tyX8_ok nmX8 hown hK hP hD hS 0 rfl rfl 6 (by decide) (hts (.fieldLink RX8 87 "WaxTurnsModel" "token" "I") (List.mem_cons_of_mem _ (List.mem_append_left _ (List.mem_of_getElem? (i := 4) rfl)))) (fun _ h9 => h9) rfl (tyX8_ok 6 (by decide)) rfl rfl (Nat.le_of_ble_eq_true rfl) dX8_next_137 (fun H locs hP hD hS => ?_)
                          refine zs_0 (y := (a0, .inr (8, [a0g_0, Value.ref a0_1, a0g_2, Value.int a0_3, Value.int j5l1, Value.int j67l1, Value.int 1, Value.int 0, Value.int j67a0_8, a0g_9, a0g_10, a0g_11, Value.ref a0_12, a0g_13, a0g_14, a0g_15, a0g_16, a0g_17, a0g_18, a0g_19, a0g_20, a0g_21, a0g_22, a0g_23, a0g_24, a0g_25, a0g_26, a0g_27, a0g_28, a0g_29, a0g_30, a0g_31, a0g_32, a0g_33, a0g_34, a0g_35, a0g_36, a0g_37, a0g_38, a0g_39]))) hP hD rfl (fun hP hD => ?_)
                          refine lv_goto (tgt := 241) hx hb dX8_next_140 (by decide) ?_
                          have hFe : FX = (j5l1.toInt, j67l1.toInt, 1, 0, j67a0_8.toInt, (fl_A j67a0_12_a)) := hF0
                          exact W.vret hx hb hr (fun t ht hW => ⟨⟨(), rfl, trivial, j5l1, j67l1, 1, 0, j67a0_8, j67a0_12_a, ⟨bj67l1_l, Int.le_trans u69k1_j67l1 (by decide)⟩, ⟨Int.le_trans (by decide) l129f_j67a0_8, bj67a0_8_u⟩, (fun h9 => absurd h9 (by decide)), ⟨by omega, Or.inl (by decide)⟩, hFe, by rw [ht]; exact hP, va_K.moved hW.alike hK, hD⟩, hS.F ht⟩) hS.2.2 dX8_next_241
                refine lv_iload_n hx hb dX8_next_143 rfl (lv_at hl 0 rfl) ?_
                refine va_calli (va_runS (As := [.int r28]) (rest := []) ⟨hx, hb, hml, hown, hts⟩ (f_X8_isDigit l dC dI H.size r28 ) (va_cwS 1 hts gX8_next_X8_isDigit rfl rfl rfl zd_X8_isDigit.2 ⟨Nat.le_of_ble_eq_true rfl, Nat.le_of_ble_eq_true rfl⟩) ⟨ax_blind (fun _ _ _ _ _ => trivial), ax_pre (zp_P0 hP) (zp_K hK) (zp_D0 hD) (fun _ _ => trivial)⟩ rfl rfl hl.1 rfl (lv_room (Nat.le_of_ble_eq_true rfl)) dX8_next_144 ⟨Nat.le_of_ble_eq_true rfl, Nat.le_of_ble_eq_true rfl⟩) hS (fun q _ h => zp_F0 hD hS hA q h) (zp_F0 hD hS hA) (fun r144 u t H locs ht hvm hw hB hz1 hk1 hS1 => zo0 hB ht hP hD hk1 (zp_F0 hD hS hA) hS1 (fun hP hK1 hD hS => ?_))
                obtain ⟨hw, hfr144⟩ := hw
                have hc144 : Ff_X8_isDigit r28.toInt = r144.toInt := hfr144.symm
                have hF0 := hF0.trans (fl_lt_eq hc144.symm)
                rcases hw with hw | hw
                · obtain ⟨hw, h144_0, h144_1⟩ := hw
                  subst hw
                  have l144k0_r28 : (48 : Int) ≤ r28.toInt := h144_0
                  have u144k0_r28 : r28.toInt ≤ (57 : Int) := h144_1
                  have hF0 := hF0.trans (if_pos (by decide))
                  refine lv_if_eq (tgt := 219) hx hb dX8_next_147 (by decide) (fun c147 => absurd c147 (by decide +kernel)) (fun _ => ?_)
                  refine lv_iconst (v := 0) hx hb dX8_next_150 zk_iconst_0 ?_
                  refine lv_istore_n (lv' := [(3, .int 0), (2, .int r28), (0, .ref a0), (1, .int j5l1)]) hx hb dX8_next_151 rfl hl (by decide) rfl (fun ls hl => ?_)
                  have J152 : ∀ (n : Nat) (j152l3 : Int32) (j152l1 : Int32) (j152a0_7 : Int32) (H : Heap) (locs : List Loc) (ls : Array Slot), (901 : Int) - j152l1.toInt ≤ (n : Int) → (0 : Int) ≤ j152l1.toInt → j152l1.toInt ≤ (900 : Int) → (a0_5.toInt ≤ j152l1.toInt) → (FX = fl_wh (fun t9 => Sf_X8_next_152_2 a0_3.toInt (fl_A fa0_1) (fl_A fa0_12) j5l1.toInt t9.1 t9.2.1 t9.2.2) (0, 0, 0, 0, 0, (fun _ => 0)) n (j152l3.toInt, j152l1.toInt, j152a0_7.toInt)) → va_P (dC, dI) vwCl [(a0, .inr (8, [a0g_0, Value.ref a0_1, a0g_2, Value.int a0_3, Value.int j5l1, Value.int a0_5, Value.int a0_6, Value.int j152a0_7, Value.int 0, a0g_9, a0g_10, a0g_11, Value.ref a0_12, a0g_13, a0g_14, a0g_15, a0g_16, a0g_17, a0g_18, a0g_19, a0g_20, a0g_21, a0g_22, a0g_23, a0g_24, a0g_25, a0g_26, a0g_27, a0g_28, a0g_29, a0g_30, a0g_31, a0g_32, a0g_33, a0g_34, a0g_35, a0g_36, a0g_37, a0g_38, a0g_39])), (a0_1, .inl (ka0_1, 900, .inl (fa0_1))), (a0_12, .inl (ka0_12, 8, .inl (fa0_12)))] H → va_D A [(a0, .inr (8, [a0g_0, Value.ref a0_1, a0g_2, Value.int a0_3, Value.int j5l1, Value.int a0_5, Value.int a0_6, Value.int j152a0_7, Value.int 0, a0g_9, a0g_10, a0g_11, Value.ref a0_12, a0g_13, a0g_14, a0g_15, a0g_16, a0g_17, a0g_18, a0g_19, a0g_20, a0g_21, a0g_22, a0g_23, a0g_24, a0g_25, a0g_26, a0g_27, a0g_28, a0g_29, a0g_30, a0g_31, a0g_32, a0g_33, a0g_34, a0g_35, a0g_36, a0g_37, a0g_38, a0g_39])), (a0_1, .inl (ka0_1, 900, .inl (fa0_1))), (a0_12, .inl (ka0_12, 8, .inl (fa0_12)))] → va_S A s.heap H locs → lv_has ls 4 [(0, .ref a0), (1, .int j152l1), (3, .int j152l3)] → K H locs (F0 m 152 ls []) := by
                    intro n
                    induction n with
                    | zero =>
                      intro j152l3 j152l1 j152a0_7 H locs ls hm bj152l1_l bj152l1_u ke152 hF0 hP hD hS hl
                      first | exact zg_0 hm bj152l1_u (by decide) | (have h8 := ai_min j152l1; have h9 := ai_max j152l1; exact absurd hm (by omega))
                    | succ n ih152 =>
                      intro j152l3 j152l1 j152a0_7 H locs ls hm bj152l1_l bj152l1_u ke152 hF0 hP hD hS hl
                      refine (hK0 _ _ _).mpr ?_
                      have hm152 := hm
                      obtain ⟨SX152, hSX152⟩ : ∃ q9, Sf_X8_next_152_2 a0_3.toInt (fl_A fa0_1) (fl_A fa0_12) j5l1.toInt j152l3.toInt j152l1.toInt j152a0_7.toInt = q9 := ⟨_, rfl⟩
                      have hF1 := hSX152.symm.trans (Sf_X8_next_152_2.eq_1 a0_3.toInt (fl_A fa0_1) (fl_A fa0_12) j5l1.toInt j152l3.toInt j152l1.toInt j152a0_7.toInt)
                      refine lv_aload_n hx hb dX8_next_152 rfl (lv_at hl 0 rfl) ?_
                      refine lv_iload_n hx hb dX8_next_153 rfl (lv_at hl 1 rfl) ?_
                      have hKc := hK.sub (tys' := [(ka0_1, .int)]) [0] rfl
                      refine va_calli (va_runV (As := [.int j152l1]) (rest := []) ⟨hx, hb, hml, hown, hts⟩ (f_X8_see l dC dI H.size a0 j152l1 a0g_0 a0g_2 (Value.int j5l1) (Value.int a0_5) (Value.int a0_6) (Value.int j152a0_7) (Value.int 0) a0g_9 a0g_10 a0g_11 (Value.ref a0_12) a0g_13 a0g_14 a0g_15 a0g_16 a0g_17 a0g_18 a0g_19 a0g_20 a0g_21 a0g_22 a0g_23 a0g_24 a0g_25 a0g_26 a0g_27 a0g_28 a0g_29 a0g_30 a0g_31 a0g_32 a0g_33 a0g_34 a0g_35 a0g_36 a0g_37 a0g_38 a0g_39 a0_1 a0_3 ka0_1 fa0_1 bj152l1_l bj152l1_u ba0_3_l ba0_3_u) (cwV 1 hts gX8_next_X8_see rfl rfl rfl zd_X8_see ⟨Nat.le_of_ble_eq_true rfl, Nat.le_of_ble_eq_true rfl⟩) ⟨ax_blind (fun _ _ _ _ _ => trivial), zr_8 hKc (zp_P2 hP) (q0 := 0) rfl, ax_pre (zp_P2 hP) hKc (zp_D2 hD) (fun _ _ => trivial)⟩ rfl rfl hl.1 rfl (lv_room (Nat.le_of_ble_eq_true rfl)) dX8_next_154 ⟨Nat.le_of_ble_eq_true rfl, Nat.le_of_ble_eq_true rfl⟩) hS (fun q _ h => zp_F2 hD hS hA q h) (zp_F2 hD hS hA) (fun r154 u t H locs ht hvm hw hB hz1 hk1 hS1 => zo2 hB ht hP hD hk1 (zp_F2 hD hS hA) hS1 (fun hP hK1 hD hS => ?_))
                      obtain ⟨hw, hfr154⟩ := hw
                      have hc154 : Ff_X8_see j152l1.toInt a0_3.toInt (fl_A fa0_1) = r154.toInt := hfr154.symm
                      have hF1 := hF1.trans (fl_lt_eq hc154.symm)
                      rcases hw with hw | hw
                      · obtain ⟨hw, h154⟩ := hw
                        subst hw
                        have hF1 := hF1.trans (if_pos (show a0_3.toInt ≤ j152l1.toInt from h154))
                        refine va_calli (va_runS (As := [.int (-1)]) (rest := []) ⟨hx, hb, hml, hown, hts⟩ (f_X8_isDigit l dC dI H.size (-1) ) (va_cwS 1 hts gX8_next_X8_isDigit rfl rfl rfl zd_X8_isDigit.2 ⟨Nat.le_of_ble_eq_true rfl, Nat.le_of_ble_eq_true rfl⟩) ⟨ax_blind (fun _ _ _ _ _ => trivial), ax_pre (zp_P0 hP) (zp_K hK) (zp_D0 hD) (fun _ _ => trivial)⟩ rfl rfl hl.1 rfl (lv_room (Nat.le_of_ble_eq_true rfl)) dX8_next_157 ⟨Nat.le_of_ble_eq_true rfl, Nat.le_of_ble_eq_true rfl⟩) hS (fun q _ h => zp_F0 hD hS hA q h) (zp_F0 hD hS hA) (fun r157 u t H locs ht hvm hw hB hz1 hk1 hS1 => zo0 hB ht hP hD hk1 (zp_F0 hD hS hA) hS1 (fun hP hK1 hD hS => ?_))
                        obtain ⟨hw, hfr157⟩ := hw
                        rw [show ((-1) : Int32).toInt = (-1) from by decide] at hfr157
                        have hc157 : Ff_X8_isDigit (-1) = r157.toInt := hfr157.symm
                        have hF1 := hF1.trans (fl_lt_eq hc157.symm)
                        rcases hw with hw | hw
                        · obtain ⟨hw, h157_0, h157_1⟩ := hw
                          subst hw
                          exact absurd h157_0 (by decide)
                        · subst hw
                          have hF1 := hF1.trans (if_neg (by decide))
                          refine lv_if_eq (tgt := 197) hx hb dX8_next_160 (by decide) (fun _ => ?_) (fun c160 => absurd (by decide +kernel) c160)
                          have hF0 := hF0.trans (fl_wh_r (hSX152.trans hF1))
                          refine lv_aload_n hx hb dX8_next_197 rfl (lv_at hl 0 rfl) ?_
                          refine lv_iload_n hx hb dX8_next_198 rfl (lv_at hl 1 rfl) ?_
                          refine va_put (D := (dC, dI)) (ci := 8) (v := .int j152l1) (ty := .int) (C := RX8) (T := TX8) (N := 40) hx hb hts zi_X8_next_8 tyX8 tyX8_ok nmX8 hown hK hP hD hS 0 rfl rfl 5 (by decide) (hts (.fieldLink RX8 71 "WaxTurnsModel" "end" "I") (List.mem_cons_of_mem _ (List.mem_append_left _ (List.mem_of_getElem? (i := 0) rfl)))) (fun _ h9 => h9) rfl (tyX8_ok 5 (by decide)) rfl rfl (Nat.le_of_ble_eq_true rfl) dX8_next_199 (fun H locs hP hD hS => ?_)
                          refine zs_0 (y := (a0, .inr (8, [a0g_0, Value.ref a0_1, a0g_2, Value.int a0_3, Value.int j5l1, Value.int j152l1, Value.int a0_6, Value.int j152a0_7, Value.int 0, a0g_9, a0g_10, a0g_11, Value.ref a0_12, a0g_13, a0g_14, a0g_15, a0g_16, a0g_17, a0g_18, a0g_19, a0g_20, a0g_21, a0g_22, a0g_23, a0g_24, a0g_25, a0g_26, a0g_27, a0g_28, a0g_29, a0g_30, a0g_31, a0g_32, a0g_33, a0g_34, a0g_35, a0g_36, a0g_37, a0g_38, a0g_39]))) hP hD rfl (fun hP hD => ?_)
                          refine lv_aload_n hx hb dX8_next_202 rfl (lv_at hl 0 rfl) ?_
                          refine lv_iload_n hx hb dX8_next_203 rfl (lv_at hl 2 rfl) ?_
                          refine lv_iconst (v := 3) hx hb dX8_next_204 zk_iconst_3 ?_
                          refine lv_icmp_le (tgt := 212) hx hb dX8_next_205 (by decide) (fun c205 => ?_) (fun c205 => ?_)
                          · have gc205 := ai_le c205
                            have u205t_j152l3 : j152l3.toInt ≤ (3 : Int) := Int.le_trans gc205 zq9
                            have hF0 := hF0.trans (if_pos (show j152l3.toInt ≤ 3 from gc205))
                            refine lv_iconst (v := 3) hx hb dX8_next_212 zk_iconst_3 ?_
                            refine va_put (D := (dC, dI)) (ci := 8) (v := .int 3) (ty := .int) (C := RX8) (T := TX8) (N := 40) hx hb hts zi_X8_next_8 tyX8 tyX8_ok nmX8 hown hK hP hD hS 0 rfl rfl 6 (by decide) (hts (.fieldLink RX8 87 "WaxTurnsModel" "token" "I") (List.mem_cons_of_mem _ (List.mem_append_left _ (List.mem_of_getElem? (i := 4) rfl)))) (fun _ h9 => h9) rfl (tyX8_ok 6 (by decide)) rfl rfl (Nat.le_of_ble_eq_true rfl) dX8_next_213 (fun H locs hP hD hS => ?_)
                            refine zs_0 (y := (a0, .inr (8, [a0g_0, Value.ref a0_1, a0g_2, Value.int a0_3, Value.int j5l1, Value.int j152l1, Value.int 3, Value.int j152a0_7, Value.int 0, a0g_9, a0g_10, a0g_11, Value.ref a0_12, a0g_13, a0g_14, a0g_15, a0g_16, a0g_17, a0g_18, a0g_19, a0g_20, a0g_21, a0g_22, a0g_23, a0g_24, a0g_25, a0g_26, a0g_27, a0g_28, a0g_29, a0g_30, a0g_31, a0g_32, a0g_33, a0g_34, a0g_35, a0g_36, a0g_37, a0g_38, a0g_39]))) hP hD rfl (fun hP hD => ?_)
                            refine lv_goto (tgt := 241) hx hb dX8_next_216 (by decide) ?_
                            have hFe : FX = (j5l1.toInt, j152l1.toInt, 3, j152a0_7.toInt, 0, (fl_A fa0_12)) := hF0
                            exact W.vret hx hb hr (fun t ht hW => ⟨⟨(), rfl, trivial, j5l1, j152l1, 3, j152a0_7, 0, fa0_12, ⟨bj152l1_l, bj152l1_u⟩, ⟨zq5, Int.le_trans zq6 (by decide)⟩, (fun h9 => absurd h9 (by decide)), ⟨by omega, Or.inl (by decide)⟩, hFe, by rw [ht]; exact hP, va_K.moved hW.alike hK, hD⟩, hS.F ht⟩) hS.2.2 dX8_next_241
                          · have gc205 := ai_nle c205
                            have l205f_j152l3 : (4 : Int) ≤ j152l3.toInt := ai_ltlo gc205 zq8
                            have hF0 := hF0.trans (if_neg (show ¬ (j152l3.toInt ≤ 3) from Int.not_le.mpr gc205))
                            refine lv_iconst (v := 1) hx hb dX8_next_208 zk_iconst_1 ?_
                            refine lv_goto (tgt := 213) hx hb dX8_next_209 (by decide) ?_
                            refine va_put (D := (dC, dI)) (ci := 8) (v := .int 1) (ty := .int) (C := RX8) (T := TX8) (N := 40) hx hb hts zi_X8_next_8 tyX8 tyX8_ok nmX8 hown hK hP hD hS 0 rfl rfl 6 (by decide) (hts (.fieldLink RX8 87 "WaxTurnsModel" "token" "I") (List.mem_cons_of_mem _ (List.mem_append_left _ (List.mem_of_getElem? (i := 4) rfl)))) (fun _ h9 => h9) rfl (tyX8_ok 6 (by decide)) rfl rfl (Nat.le_of_ble_eq_true rfl) dX8_next_213 (fun H locs hP hD hS => ?_)
                            refine zs_0 (y := (a0, .inr (8, [a0g_0, Value.ref a0_1, a0g_2, Value.int a0_3, Value.int j5l1, Value.int j152l1, Value.int 1, Value.int j152a0_7, Value.int 0, a0g_9, a0g_10, a0g_11, Value.ref a0_12, a0g_13, a0g_14, a0g_15, a0g_16, a0g_17, a0g_18, a0g_19, a0g_20, a0g_21, a0g_22, a0g_23, a0g_24, a0g_25, a0g_26, a0g_27, a0g_28, a0g_29, a0g_30, a0g_31, a0g_32, a0g_33, a0g_34, a0g_35, a0g_36, a0g_37, a0g_38, a0g_39]))) hP hD rfl (fun hP hD => ?_)
                            refine lv_goto (tgt := 241) hx hb dX8_next_216 (by decide) ?_
                            have hFe : FX = (j5l1.toInt, j152l1.toInt, 1, j152a0_7.toInt, 0, (fl_A fa0_12)) := hF0
                            exact W.vret hx hb hr (fun t ht hW => ⟨⟨(), rfl, trivial, j5l1, j152l1, 1, j152a0_7, 0, fa0_12, ⟨bj152l1_l, bj152l1_u⟩, ⟨zq5, Int.le_trans zq6 (by decide)⟩, (fun h9 => absurd h9 (by decide)), ⟨by omega, Or.inl (by decide)⟩, hFe, by rw [ht]; exact hP, va_K.moved hW.alike hK, hD⟩, hS.F ht⟩) hS.2.2 dX8_next_241
                      · have h154 := hw
                        have u154k1_j152l1 : j152l1.toInt ≤ (899 : Int) := by have h1 := h154; have h2 := ba0_3_u; omega
                        have hF1 := hF1.trans (if_neg (show ¬ (a0_3.toInt ≤ j152l1.toInt) from Int.not_le.mpr h154))
                        refine va_calli (va_runS (As := [.int r154]) (rest := []) ⟨hx, hb, hml, hown, hts⟩ (f_X8_isDigit l dC dI H.size r154 ) (va_cwS 1 hts gX8_next_X8_isDigit rfl rfl rfl zd_X8_isDigit.2 ⟨Nat.le_of_ble_eq_true rfl, Nat.le_of_ble_eq_true rfl⟩) ⟨ax_blind (fun _ _ _ _ _ => trivial), ax_pre (zp_P0 hP) (zp_K hK) (zp_D0 hD) (fun _ _ => trivial)⟩ rfl rfl hl.1 rfl (lv_room (Nat.le_of_ble_eq_true rfl)) dX8_next_157 ⟨Nat.le_of_ble_eq_true rfl, Nat.le_of_ble_eq_true rfl⟩) hS (fun q _ h => zp_F0 hD hS hA q h) (zp_F0 hD hS hA) (fun r157 u t H locs ht hvm hw hB hz1 hk1 hS1 => zo0 hB ht hP hD hk1 (zp_F0 hD hS hA) hS1 (fun hP hK1 hD hS => ?_))
                        obtain ⟨hw, hfr157⟩ := hw
                        have hc157 : Ff_X8_isDigit r154.toInt = r157.toInt := hfr157.symm
                        have hF1 := hF1.trans (fl_lt_eq hc157.symm)
                        rcases hw with hw | hw
                        · obtain ⟨hw, h157_0, h157_1⟩ := hw
                          subst hw
                          have l157k0_r154 : (48 : Int) ≤ r154.toInt := h157_0
                          have u157k0_r154 : r154.toInt ≤ (57 : Int) := h157_1
                          have hF1 := hF1.trans (if_pos (by decide))
                          refine lv_if_eq (tgt := 197) hx hb dX8_next_160 (by decide) (fun c160 => absurd c160 (by decide +kernel)) (fun _ => ?_)
                          refine lv_iload_n hx hb dX8_next_163 rfl (lv_at hl 2 rfl) ?_
                          refine lv_iconst (v := 3) hx hb dX8_next_164 zk_iconst_3 ?_
                          have J188 : ∀ (j188a0_7 : Int32) (H : Heap) (locs : List Loc) (ls : Array Slot), (SX152 = Gf_X8_next_188_2 j152l3.toInt j152l1.toInt j188a0_7.toInt) → va_P (dC, dI) vwCl [(a0, .inr (8, [a0g_0, Value.ref a0_1, a0g_2, Value.int a0_3, Value.int j5l1, Value.int a0_5, Value.int a0_6, Value.int j188a0_7, Value.int 0, a0g_9, a0g_10, a0g_11, Value.ref a0_12, a0g_13, a0g_14, a0g_15, a0g_16, a0g_17, a0g_18, a0g_19, a0g_20, a0g_21, a0g_22, a0g_23, a0g_24, a0g_25, a0g_26, a0g_27, a0g_28, a0g_29, a0g_30, a0g_31, a0g_32, a0g_33, a0g_34, a0g_35, a0g_36, a0g_37, a0g_38, a0g_39])), (a0_1, .inl (ka0_1, 900, .inl (fa0_1))), (a0_12, .inl (ka0_12, 8, .inl (fa0_12)))] H → va_D A [(a0, .inr (8, [a0g_0, Value.ref a0_1, a0g_2, Value.int a0_3, Value.int j5l1, Value.int a0_5, Value.int a0_6, Value.int j188a0_7, Value.int 0, a0g_9, a0g_10, a0g_11, Value.ref a0_12, a0g_13, a0g_14, a0g_15, a0g_16, a0g_17, a0g_18, a0g_19, a0g_20, a0g_21, a0g_22, a0g_23, a0g_24, a0g_25, a0g_26, a0g_27, a0g_28, a0g_29, a0g_30, a0g_31, a0g_32, a0g_33, a0g_34, a0g_35, a0g_36, a0g_37, a0g_38, a0g_39])), (a0_1, .inl (ka0_1, 900, .inl (fa0_1))), (a0_12, .inl (ka0_12, 8, .inl (fa0_12)))] → va_S A s.heap H locs → lv_has ls 4 [(0, .ref a0), (1, .int j152l1), (3, .int j152l3)] → K H locs (F0 m 188 ls []) := by
                            intro j188a0_7 H locs ls  hF1 hP hD hS hl
                            refine (hK0 _ _ _).mpr ?_
                            have hF1 := hF1.trans (Gf_X8_next_188_2.eq_1 j152l3.toInt j152l1.toInt j188a0_7.toInt)
                            obtain ⟨x188, ex188⟩ : ∃ y : Int32, y = j152l3 + Int32.ofInt 1 := ⟨_, rfl⟩
                            refine lv_iinc (v := x188) (lv' := [(3, .int x188), (0, .ref a0), (1, .int j152l1)]) hx hb dX8_next_188 hl (k := 2) rfl ex188.symm (by decide) rfl (fun ls hl => ?_)
                            have fqx188 := fl_iadd_eq ex188
                            have hF1 := hF1.trans (fl_lt_eq (show x188.toInt = fl_iadd j152l3.toInt 1 from fqx188))
                            obtain ⟨x191, ex191⟩ : ∃ y : Int32, y = j152l1 + Int32.ofInt 1 := ⟨_, rfl⟩
                            have qx191 : x191.toInt = j152l1.toInt + 1 := ai_inc ex191 (by decide) (by decide) u154k1_j152l1 (by decide)
                            have bx191 : (1 : Int) ≤ x191.toInt ∧ x191.toInt ≤ 900 := ⟨by rw [qx191]; exact Int.add_le_add bj152l1_l (Int.le_refl _), by rw [qx191]; exact Int.add_le_add u154k1_j152l1 (Int.le_refl _)⟩
                            refine lv_iinc (v := x191) (lv' := [(1, .int x191), (3, .int x188), (0, .ref a0)]) hx hb dX8_next_191 hl (k := 2) rfl ex191.symm (by decide) rfl (fun ls hl => ?_)
                            have hF1 := hF1.trans (fl_lt_eq (show x191.toInt = j152l1.toInt + 1 from qx191))
                            refine lv_goto (tgt := 152) hx hb dX8_next_194 (by decide) ?_
                            exact (hK0 _ _ _).mp (ih152 x188 x191 j188a0_7 _ _ _ (by first | exact zg_s hm152 qx191 | (have h0 := qx191; omega)) (Int.le_trans zq4 bx191.1) bx191.2 (by omega) (hF0.trans (fl_wh_l (hSX152.trans hF1))) hP hD hS (lv_sub hl [2, 0, 1] rfl))
                          refine lv_icmp_ge (tgt := 188) hx hb dX8_next_165 (by decide) (fun c165 => ?_) (fun c165 => ?_)
                          · have gc165 := ai_le c165
                            have l165t_j152l3 : (3 : Int) ≤ j152l3.toInt := Int.le_trans zq8 gc165
                            have hF1 := hF1.trans (if_pos (show 3 ≤ j152l3.toInt from gc165))
                            exact (hK0 _ _ _).mp (J188 j152a0_7 _ _ _   hF1 hP hD hS (lv_sub hl [0, 1, 2] rfl))
                          · have gc165 := ai_nle c165
                            have u165f_j152l3 : j152l3.toInt ≤ (2 : Int) := ai_lthi gc165 zq9
                            have hF1 := hF1.trans (if_neg (show ¬ (3 ≤ j152l3.toInt) from Int.not_le.mpr gc165))
                            refine lv_aload_n hx hb dX8_next_168 rfl (lv_at hl 0 rfl) ?_
                            refine lv_bipush (v := 10) hx hb dX8_next_169 zk_bipush_10 ?_
                            refine lv_aload_n hx hb dX8_next_171 rfl (lv_at hl 0 rfl) ?_
                            refine va_get (D := (dC, dI)) (ci := 8) (v := .int j152a0_7) (C := RX8) (T := TX8) (N := 40) hx hb hts zi_X8_next_8 hown hK hP 0 rfl rfl 7 (by decide) (hts (.fieldLink RX8 84 "WaxTurnsModel" "whole" "I") (List.mem_cons_of_mem _ (List.mem_append_left _ (List.mem_of_getElem? (i := 3) rfl)))) (fun _ h9 => h9) rfl dX8_next_172 ?_
                            refine lv_imul hx hb dX8_next_175 ?_
                            refine lv_topi (fun x175 ex175 => ?_)
                            have fqx175 := fl_imul_eq ex175
                            have hF1 := hF1.trans (fl_lt_eq (show x175.toInt = fl_imul 10 j152a0_7.toInt from fqx175))
                            refine lv_aload_n hx hb dX8_next_176 rfl (lv_at hl 0 rfl) ?_
                            refine lv_iload_n hx hb dX8_next_177 rfl (lv_at hl 1 rfl) ?_
                            have hKc := hK.sub (tys' := [(ka0_1, .int)]) [0] rfl
                            refine va_calli (va_runV (As := [.int j152l1]) (rest := [.int x175, .ref a0]) ⟨hx, hb, hml, hown, hts⟩ (f_X8_see l dC dI H.size a0 j152l1 a0g_0 a0g_2 (Value.int j5l1) (Value.int a0_5) (Value.int a0_6) (Value.int j152a0_7) (Value.int 0) a0g_9 a0g_10 a0g_11 (Value.ref a0_12) a0g_13 a0g_14 a0g_15 a0g_16 a0g_17 a0g_18 a0g_19 a0g_20 a0g_21 a0g_22 a0g_23 a0g_24 a0g_25 a0g_26 a0g_27 a0g_28 a0g_29 a0g_30 a0g_31 a0g_32 a0g_33 a0g_34 a0g_35 a0g_36 a0g_37 a0g_38 a0g_39 a0_1 a0_3 ka0_1 fa0_1 bj152l1_l (Int.le_trans u154k1_j152l1 zq145) ba0_3_l ba0_3_u) (cwV 1 hts gX8_next_X8_see rfl rfl rfl zd_X8_see ⟨Nat.le_of_ble_eq_true rfl, Nat.le_of_ble_eq_true rfl⟩) ⟨ax_blind (fun _ _ _ _ _ => trivial), zr_8 hKc (zp_P2 hP) (q0 := 0) rfl, ax_pre (zp_P2 hP) hKc (zp_D2 hD) (fun _ _ => trivial)⟩ rfl rfl hl.1 rfl (lv_room (Nat.le_of_ble_eq_true rfl)) dX8_next_178 ⟨Nat.le_of_ble_eq_true rfl, Nat.le_of_ble_eq_true rfl⟩) hS (fun q _ h => zp_F2 hD hS hA q h) (zp_F2 hD hS hA) (fun r178 u t H locs ht hvm hw hB hz1 hk1 hS1 => zo2 hB ht hP hD hk1 (zp_F2 hD hS hA) hS1 (fun hP hK1 hD hS => ?_))
                            obtain ⟨hw, hfr178⟩ := hw
                            have hc178 : Ff_X8_see j152l1.toInt a0_3.toInt (fl_A fa0_1) = r178.toInt := hfr178.symm
                            have hF1 := hF1.trans (fl_lt_eq hc178.symm)
                            rcases hw with hw | hw
                            · obtain ⟨hw, h178⟩ := hw
                              subst hw
                              have hF1 := hF1.trans (if_pos (show a0_3.toInt ≤ j152l1.toInt from h178))
                              refine lv_iadd hx hb dX8_next_181 ?_
                              refine lv_topi (fun x181 ex181 => ?_)
                              have fqx181 := fl_iadd_eq ex181
                              have hF1 := hF1.trans (fl_lt_eq (show x181.toInt = fl_iadd x175.toInt (-1) from fqx181))
                              refine lv_bipush (v := 48) hx hb dX8_next_182 zk_bipush_48 ?_
                              refine lv_isub hx hb dX8_next_184 ?_
                              refine lv_topi (fun x184 ex184 => ?_)
                              have fqx184 := fl_isub_eq ex184
                              have hF1 := hF1.trans (fl_lt_eq (show x184.toInt = fl_isub x181.toInt 48 from fqx184))
                              refine va_put (D := (dC, dI)) (ci := 8) (v := .int x184) (ty := .int) (C := RX8) (T := TX8) (N := 40) hx hb hts zi_X8_next_8 tyX8 tyX8_ok nmX8 hown hK hP hD hS 0 rfl rfl 7 (by decide) (hts (.fieldLink RX8 84 "WaxTurnsModel" "whole" "I") (List.mem_cons_of_mem _ (List.mem_append_left _ (List.mem_of_getElem? (i := 3) rfl)))) (fun _ h9 => h9) rfl (tyX8_ok 7 (by decide)) rfl rfl (Nat.le_of_ble_eq_true rfl) dX8_next_185 (fun H locs hP hD hS => ?_)
                              refine zs_0 (y := (a0, .inr (8, [a0g_0, Value.ref a0_1, a0g_2, Value.int a0_3, Value.int j5l1, Value.int a0_5, Value.int a0_6, Value.int x184, Value.int 0, a0g_9, a0g_10, a0g_11, Value.ref a0_12, a0g_13, a0g_14, a0g_15, a0g_16, a0g_17, a0g_18, a0g_19, a0g_20, a0g_21, a0g_22, a0g_23, a0g_24, a0g_25, a0g_26, a0g_27, a0g_28, a0g_29, a0g_30, a0g_31, a0g_32, a0g_33, a0g_34, a0g_35, a0g_36, a0g_37, a0g_38, a0g_39]))) hP hD rfl (fun hP hD => ?_)
                              exact (hK0 _ _ _).mp (J188 x184 _ _ _   hF1 hP hD hS (lv_sub hl [0, 1, 2] rfl))
                            · have h178 := hw
                              have u178k1_j152l1 : j152l1.toInt ≤ (899 : Int) := u154k1_j152l1
                              have hF1 := hF1.trans (if_neg (show ¬ (a0_3.toInt ≤ j152l1.toInt) from Int.not_le.mpr h178))
                              refine lv_iadd hx hb dX8_next_181 ?_
                              refine lv_topi (fun x181 ex181 => ?_)
                              have fqx181 := fl_iadd_eq ex181
                              have hF1 := hF1.trans (fl_lt_eq (show x181.toInt = fl_iadd x175.toInt r178.toInt from fqx181))
                              refine lv_bipush (v := 48) hx hb dX8_next_182 zk_bipush_48 ?_
                              refine lv_isub hx hb dX8_next_184 ?_
                              refine lv_topi (fun x184 ex184 => ?_)
                              have fqx184 := fl_isub_eq ex184
                              have hF1 := hF1.trans (fl_lt_eq (show x184.toInt = fl_isub x181.toInt 48 from fqx184))
                              refine va_put (D := (dC, dI)) (ci := 8) (v := .int x184) (ty := .int) (C := RX8) (T := TX8) (N := 40) hx hb hts zi_X8_next_8 tyX8 tyX8_ok nmX8 hown hK hP hD hS 0 rfl rfl 7 (by decide) (hts (.fieldLink RX8 84 "WaxTurnsModel" "whole" "I") (List.mem_cons_of_mem _ (List.mem_append_left _ (List.mem_of_getElem? (i := 3) rfl)))) (fun _ h9 => h9) rfl (tyX8_ok 7 (by decide)) rfl rfl (Nat.le_of_ble_eq_true rfl) dX8_next_185 (fun H locs hP hD hS => ?_)
                              refine zs_0 (y := (a0, .inr (8, [a0g_0, Value.ref a0_1, a0g_2, Value.int a0_3, Value.int j5l1, Value.int a0_5, Value.int a0_6, Value.int x184, Value.int 0, a0g_9, a0g_10, a0g_11, Value.ref a0_12, a0g_13, a0g_14, a0g_15, a0g_16, a0g_17, a0g_18, a0g_19, a0g_20, a0g_21, a0g_22, a0g_23, a0g_24, a0g_25, a0g_26, a0g_27, a0g_28, a0g_29, a0g_30, a0g_31, a0g_32, a0g_33, a0g_34, a0g_35, a0g_36, a0g_37, a0g_38, a0g_39]))) hP hD rfl (fun hP hD => ?_)
                              exact (hK0 _ _ _).mp (J188 x184 _ _ _   hF1 hP hD hS (lv_sub hl [0, 1, 2] rfl))
                        · subst hw
                          have hF1 := hF1.trans (if_neg (by decide))
                          refine lv_if_eq (tgt := 197) hx hb dX8_next_160 (by decide) (fun _ => ?_) (fun c160 => absurd (by decide +kernel) c160)
                          have hF0 := hF0.trans (fl_wh_r (hSX152.trans hF1))
                          refine lv_aload_n hx hb dX8_next_197 rfl (lv_at hl 0 rfl) ?_
                          refine lv_iload_n hx hb dX8_next_198 rfl (lv_at hl 1 rfl) ?_
                          refine va_put (D := (dC, dI)) (ci := 8) (v := .int j152l1) (ty := .int) (C := RX8) (T := TX8) (N := 40) hx hb hts zi_X8_next_8 tyX8 tyX8_ok nmX8 hown hK hP hD hS 0 rfl rfl 5 (by decide) (hts (.fieldLink RX8 71 "WaxTurnsModel" "end" "I") (List.mem_cons_of_mem _ (List.mem_append_left _ (List.mem_of_getElem? (i := 0) rfl)))) (fun _ h9 => h9) rfl (tyX8_ok 5 (by decide)) rfl rfl (Nat.le_of_ble_eq_true rfl) dX8_next_199 (fun H locs hP hD hS => ?_)
                          refine zs_0 (y := (a0, .inr (8, [a0g_0, Value.ref a0_1, a0g_2, Value.int a0_3, Value.int j5l1, Value.int j152l1, Value.int a0_6, Value.int j152a0_7, Value.int 0, a0g_9, a0g_10, a0g_11, Value.ref a0_12, a0g_13, a0g_14, a0g_15, a0g_16, a0g_17, a0g_18, a0g_19, a0g_20, a0g_21, a0g_22, a0g_23, a0g_24, a0g_25, a0g_26, a0g_27, a0g_28, a0g_29, a0g_30, a0g_31, a0g_32, a0g_33, a0g_34, a0g_35, a0g_36, a0g_37, a0g_38, a0g_39]))) hP hD rfl (fun hP hD => ?_)
                          refine lv_aload_n hx hb dX8_next_202 rfl (lv_at hl 0 rfl) ?_
                          refine lv_iload_n hx hb dX8_next_203 rfl (lv_at hl 2 rfl) ?_
                          refine lv_iconst (v := 3) hx hb dX8_next_204 zk_iconst_3 ?_
                          refine lv_icmp_le (tgt := 212) hx hb dX8_next_205 (by decide) (fun c205 => ?_) (fun c205 => ?_)
                          · have gc205 := ai_le c205
                            have u205t_j152l3 : j152l3.toInt ≤ (3 : Int) := Int.le_trans gc205 zq9
                            have hF0 := hF0.trans (if_pos (show j152l3.toInt ≤ 3 from gc205))
                            refine lv_iconst (v := 3) hx hb dX8_next_212 zk_iconst_3 ?_
                            refine va_put (D := (dC, dI)) (ci := 8) (v := .int 3) (ty := .int) (C := RX8) (T := TX8) (N := 40) hx hb hts zi_X8_next_8 tyX8 tyX8_ok nmX8 hown hK hP hD hS 0 rfl rfl 6 (by decide) (hts (.fieldLink RX8 87 "WaxTurnsModel" "token" "I") (List.mem_cons_of_mem _ (List.mem_append_left _ (List.mem_of_getElem? (i := 4) rfl)))) (fun _ h9 => h9) rfl (tyX8_ok 6 (by decide)) rfl rfl (Nat.le_of_ble_eq_true rfl) dX8_next_213 (fun H locs hP hD hS => ?_)
                            refine zs_0 (y := (a0, .inr (8, [a0g_0, Value.ref a0_1, a0g_2, Value.int a0_3, Value.int j5l1, Value.int j152l1, Value.int 3, Value.int j152a0_7, Value.int 0, a0g_9, a0g_10, a0g_11, Value.ref a0_12, a0g_13, a0g_14, a0g_15, a0g_16, a0g_17, a0g_18, a0g_19, a0g_20, a0g_21, a0g_22, a0g_23, a0g_24, a0g_25, a0g_26, a0g_27, a0g_28, a0g_29, a0g_30, a0g_31, a0g_32, a0g_33, a0g_34, a0g_35, a0g_36, a0g_37, a0g_38, a0g_39]))) hP hD rfl (fun hP hD => ?_)
                            refine lv_goto (tgt := 241) hx hb dX8_next_216 (by decide) ?_
                            have hFe : FX = (j5l1.toInt, j152l1.toInt, 3, j152a0_7.toInt, 0, (fl_A fa0_12)) := hF0
                            exact W.vret hx hb hr (fun t ht hW => ⟨⟨(), rfl, trivial, j5l1, j152l1, 3, j152a0_7, 0, fa0_12, ⟨bj152l1_l, Int.le_trans u154k1_j152l1 (by decide)⟩, ⟨zq5, Int.le_trans zq6 (by decide)⟩, (fun h9 => absurd h9 (by decide)), ⟨by omega, Or.inl (by decide)⟩, hFe, by rw [ht]; exact hP, va_K.moved hW.alike hK, hD⟩, hS.F ht⟩) hS.2.2 dX8_next_241
                          · have gc205 := ai_nle c205
                            have l205f_j152l3 : (4 : Int) ≤ j152l3.toInt := ai_ltlo gc205 zq8
                            have hF0 := hF0.trans (if_neg (show ¬ (j152l3.toInt ≤ 3) from Int.not_le.mpr gc205))
                            refine lv_iconst (v := 1) hx hb dX8_next_208 zk_iconst_1 ?_
                            refine lv_goto (tgt := 213) hx hb dX8_next_209 (by decide) ?_
                            refine va_put (D := (dC, dI)) (ci := 8) (v := .int 1) (ty := .int) (C := RX8) (T := TX8) (N := 40) hx hb hts zi_X8_next_8 tyX8 tyX8_ok nmX8 hown hK hP hD hS 0 rfl rfl 6 (by decide) (hts (.fieldLink RX8 87 "WaxTurnsModel" "token" "I") (List.mem_cons_of_mem _ (List.mem_append_left _ (List.mem_of_getElem? (i := 4) rfl)))) (fun _ h9 => h9) rfl (tyX8_ok 6 (by decide)) rfl rfl (Nat.le_of_ble_eq_true rfl) dX8_next_213 (fun H locs hP hD hS => ?_)
                            refine zs_0 (y := (a0, .inr (8, [a0g_0, Value.ref a0_1, a0g_2, Value.int a0_3, Value.int j5l1, Value.int j152l1, Value.int 1, Value.int j152a0_7, Value.int 0, a0g_9, a0g_10, a0g_11, Value.ref a0_12, a0g_13, a0g_14, a0g_15, a0g_16, a0g_17, a0g_18, a0g_19, a0g_20, a0g_21, a0g_22, a0g_23, a0g_24, a0g_25, a0g_26, a0g_27, a0g_28, a0g_29, a0g_30, a0g_31, a0g_32, a0g_33, a0g_34, a0g_35, a0g_36, a0g_37, a0g_38, a0g_39]))) hP hD rfl (fun hP hD => ?_)
                            refine lv_goto (tgt := 241) hx hb dX8_next_216 (by decide) ?_
                            have hFe : FX = (j5l1.toInt, j152l1.toInt, 1, j152a0_7.toInt, 0, (fl_A fa0_12)) := hF0
                            exact W.vret hx hb hr (fun t ht hW => ⟨⟨(), rfl, trivial, j5l1, j152l1, 1, j152a0_7, 0, fa0_12, ⟨bj152l1_l, Int.le_trans u154k1_j152l1 (by decide)⟩, ⟨zq5, Int.le_trans zq6 (by decide)⟩, (fun h9 => absurd h9 (by decide)), ⟨by omega, Or.inl (by decide)⟩, hFe, by rw [ht]; exact hP, va_K.moved hW.alike hK, hD⟩, hS.F ht⟩) hS.2.2 dX8_next_241
                  exact (hK0 _ _ _).mp (J152 901 0 j5l1 0 _ _ _ (by have h1 : (0 : Int) ≤ j5l1.toInt := bj5l1_l; have h2 : j5l1.toInt ≤ (899 : Int) := u28k1_j5l1; omega) bj5l1_l (Int.le_trans u28k1_j5l1 zq145) (by omega) (by rw [show (0 : Int32).toInt = 0 from by decide]; exact hF0) hP hD hS (lv_sub hl [2, 3, 0] rfl))
                · subst hw
                  have hF0 := hF0.trans (if_neg (by decide))
                  refine lv_if_eq (tgt := 219) hx hb dX8_next_147 (by decide) (fun _ => ?_) (fun c147 => absurd (by decide +kernel) c147)
                  refine lv_aload_n hx hb dX8_next_219 rfl (lv_at hl 1 rfl) ?_
                  refine lv_iload_n hx hb dX8_next_220 rfl (lv_at hl 2 rfl) ?_
                  refine lv_iconst (v := 1) hx hb dX8_next_221 zk_iconst_1 ?_
                  refine lv_iadd hx hb dX8_next_222 ?_
                  refine lv_topi (fun x222 ex222 => ?_)
                  have qx222 : x222.toInt = j5l1.toInt + (1 : Int32).toInt := ai_add ex222 ⟨bj5l1_l, u28k1_j5l1⟩ ⟨zq1, zq0⟩ (by decide) (by decide)
                  have bx222 : (1 : Int) ≤ x222.toInt ∧ x222.toInt ≤ 900 := ⟨by rw [qx222]; exact Int.add_le_add bj5l1_l zq1, by rw [qx222]; exact Int.add_le_add u28k1_j5l1 zq0⟩
                  have wx222 : x222.toInt = j5l1.toInt + 1 := qx222
                  have hF0 := hF0.trans (fl_lt_eq (show x222.toInt = j5l1.toInt + 1 from qx222))
                  refine va_put (D := (dC, dI)) (ci := 8) (v := .int x222) (ty := .int) (C := RX8) (T := TX8) (N := 40) hx hb hts zi_X8_next_8 tyX8 tyX8_ok nmX8 hown hK hP hD hS 0 rfl rfl 5 (by decide) (hts (.fieldLink RX8 71 "WaxTurnsModel" "end" "I") (List.mem_cons_of_mem _ (List.mem_append_left _ (List.mem_of_getElem? (i := 0) rfl)))) (fun _ h9 => h9) rfl (tyX8_ok 5 (by decide)) rfl rfl (Nat.le_of_ble_eq_true rfl) dX8_next_223 (fun H locs hP hD hS => ?_)
                  refine zs_0 (y := (a0, .inr (8, [a0g_0, Value.ref a0_1, a0g_2, Value.int a0_3, Value.int j5l1, Value.int x222, Value.int a0_6, Value.int 0, Value.int 0, a0g_9, a0g_10, a0g_11, Value.ref a0_12, a0g_13, a0g_14, a0g_15, a0g_16, a0g_17, a0g_18, a0g_19, a0g_20, a0g_21, a0g_22, a0g_23, a0g_24, a0g_25, a0g_26, a0g_27, a0g_28, a0g_29, a0g_30, a0g_31, a0g_32, a0g_33, a0g_34, a0g_35, a0g_36, a0g_37, a0g_38, a0g_39]))) hP hD rfl (fun hP hD => ?_)
                  refine lv_aload_n hx hb dX8_next_226 rfl (lv_at hl 1 rfl) ?_
                  refine lv_iload_n hx hb dX8_next_227 rfl (lv_at hl 0 rfl) ?_
                  refine lv_bipush (v := 59) hx hb dX8_next_228 zk_bipush_59 ?_
                  refine lv_icmp_ne (tgt := 237) hx hb dX8_next_230 (by decide) (fun c230 => ?_) (fun c230 => ?_)
                  · have gc230 := ai_ne c230
                    have hF0 := hF0.trans (if_neg (show ¬ (r28.toInt = 59) from  gc230))
                    refine lv_iconst (v := 1) hx hb dX8_next_237 zk_iconst_1 ?_
                    refine va_put (D := (dC, dI)) (ci := 8) (v := .int 1) (ty := .int) (C := RX8) (T := TX8) (N := 40) hx hb hts zi_X8_next_8 tyX8 tyX8_ok nmX8 hown hK hP hD hS 0 rfl rfl 6 (by decide) (hts (.fieldLink RX8 87 "WaxTurnsModel" "token" "I") (List.mem_cons_of_mem _ (List.mem_append_left _ (List.mem_of_getElem? (i := 4) rfl)))) (fun _ h9 => h9) rfl (tyX8_ok 6 (by decide)) rfl rfl (Nat.le_of_ble_eq_true rfl) dX8_next_238 (fun H locs hP hD hS => ?_)
                    refine zs_0 (y := (a0, .inr (8, [a0g_0, Value.ref a0_1, a0g_2, Value.int a0_3, Value.int j5l1, Value.int x222, Value.int 1, Value.int 0, Value.int 0, a0g_9, a0g_10, a0g_11, Value.ref a0_12, a0g_13, a0g_14, a0g_15, a0g_16, a0g_17, a0g_18, a0g_19, a0g_20, a0g_21, a0g_22, a0g_23, a0g_24, a0g_25, a0g_26, a0g_27, a0g_28, a0g_29, a0g_30, a0g_31, a0g_32, a0g_33, a0g_34, a0g_35, a0g_36, a0g_37, a0g_38, a0g_39]))) hP hD rfl (fun hP hD => ?_)
                    have hFe : FX = (j5l1.toInt, x222.toInt, 1, 0, 0, (fl_A fa0_12)) := hF0
                    exact W.vret hx hb hr (fun t ht hW => ⟨⟨(), rfl, trivial, j5l1, x222, 1, 0, 0, fa0_12, ⟨Int.le_trans (by decide) bx222.1, bx222.2⟩, ⟨zq5, Int.le_trans zq6 (by decide)⟩, (fun h9 => absurd h9 (by decide)), ⟨by omega, Or.inl (by decide)⟩, hFe, by rw [ht]; exact hP, va_K.moved hW.alike hK, hD⟩, hS.F ht⟩) hS.2.2 dX8_next_241
                  · have gc230 := ai_eq c230
                    have u230f_r28 : r28.toInt ≤ (59 : Int) := Int.le_trans (Int.le_of_eq gc230) zq146
                    have l230f_r28 : (59 : Int) ≤ r28.toInt := Int.le_trans zq147 (Int.le_of_eq gc230.symm)
                    have hF0 := hF0.trans (if_pos (show r28.toInt = 59 from gc230))
                    refine lv_iload_n hx hb dX8_next_233 rfl (lv_at hl 0 rfl) ?_
                    refine lv_goto (tgt := 238) hx hb dX8_next_234 (by decide) ?_
                    refine va_put (D := (dC, dI)) (ci := 8) (v := .int r28) (ty := .int) (C := RX8) (T := TX8) (N := 40) hx hb hts zi_X8_next_8 tyX8 tyX8_ok nmX8 hown hK hP hD hS 0 rfl rfl 6 (by decide) (hts (.fieldLink RX8 87 "WaxTurnsModel" "token" "I") (List.mem_cons_of_mem _ (List.mem_append_left _ (List.mem_of_getElem? (i := 4) rfl)))) (fun _ h9 => h9) rfl (tyX8_ok 6 (by decide)) rfl rfl (Nat.le_of_ble_eq_true rfl) dX8_next_238 (fun H locs hP hD hS => ?_)
                    refine zs_0 (y := (a0, .inr (8, [a0g_0, Value.ref a0_1, a0g_2, Value.int a0_3, Value.int j5l1, Value.int x222, Value.int r28, Value.int 0, Value.int 0, a0g_9, a0g_10, a0g_11, Value.ref a0_12, a0g_13, a0g_14, a0g_15, a0g_16, a0g_17, a0g_18, a0g_19, a0g_20, a0g_21, a0g_22, a0g_23, a0g_24, a0g_25, a0g_26, a0g_27, a0g_28, a0g_29, a0g_30, a0g_31, a0g_32, a0g_33, a0g_34, a0g_35, a0g_36, a0g_37, a0g_38, a0g_39]))) hP hD rfl (fun hP hD => ?_)
                    have hFe : FX = (j5l1.toInt, x222.toInt, r28.toInt, 0, 0, (fl_A fa0_12)) := hF0
                    exact W.vret hx hb hr (fun t ht hW => ⟨⟨(), rfl, trivial, j5l1, x222, r28, 0, 0, fa0_12, ⟨Int.le_trans (by decide) bx222.1, bx222.2⟩, ⟨zq5, Int.le_trans zq6 (by decide)⟩, (fun _ => by decide), ⟨by omega, Or.inr (by omega)⟩, hFe, by rw [ht]; exact hP, va_K.moved hW.alike hK, hD⟩, hS.F ht⟩) hS.2.2 dX8_next_241
            · have gc44 := ai_eq c44
              have u44f_r28 : r28.toInt ≤ (-1 : Int) := Int.le_trans (Int.le_of_eq gc44) zq71
              have l44f_r28 : (-1 : Int) ≤ r28.toInt := Int.le_trans zq70 (Int.le_of_eq gc44.symm)
              have hF0 := hF0.trans (if_pos (show r28.toInt = (-1) from gc44))
              refine lv_aload_n hx hb dX8_next_47 rfl (lv_at hl 1 rfl) ?_
              refine lv_iconst (v := 0) hx hb dX8_next_48 zk_iconst_0 ?_
              refine va_put (D := (dC, dI)) (ci := 8) (v := .int 0) (ty := .int) (C := RX8) (T := TX8) (N := 40) hx hb hts zi_X8_next_8 tyX8 tyX8_ok nmX8 hown hK hP hD hS 0 rfl rfl 6 (by decide) (hts (.fieldLink RX8 87 "WaxTurnsModel" "token" "I") (List.mem_cons_of_mem _ (List.mem_append_left _ (List.mem_of_getElem? (i := 4) rfl)))) (fun _ h9 => h9) rfl (tyX8_ok 6 (by decide)) rfl rfl (Nat.le_of_ble_eq_true rfl) dX8_next_49 (fun H locs hP hD hS => ?_)
              refine zs_0 (y := (a0, .inr (8, [a0g_0, Value.ref a0_1, a0g_2, Value.int a0_3, Value.int j5l1, Value.int a0_5, Value.int 0, Value.int 0, Value.int 0, a0g_9, a0g_10, a0g_11, Value.ref a0_12, a0g_13, a0g_14, a0g_15, a0g_16, a0g_17, a0g_18, a0g_19, a0g_20, a0g_21, a0g_22, a0g_23, a0g_24, a0g_25, a0g_26, a0g_27, a0g_28, a0g_29, a0g_30, a0g_31, a0g_32, a0g_33, a0g_34, a0g_35, a0g_36, a0g_37, a0g_38, a0g_39]))) hP hD rfl (fun hP hD => ?_)
              refine lv_aload_n hx hb dX8_next_52 rfl (lv_at hl 1 rfl) ?_
              refine lv_iload_n hx hb dX8_next_53 rfl (lv_at hl 2 rfl) ?_
              refine va_put (D := (dC, dI)) (ci := 8) (v := .int j5l1) (ty := .int) (C := RX8) (T := TX8) (N := 40) hx hb hts zi_X8_next_8 tyX8 tyX8_ok nmX8 hown hK hP hD hS 0 rfl rfl 5 (by decide) (hts (.fieldLink RX8 71 "WaxTurnsModel" "end" "I") (List.mem_cons_of_mem _ (List.mem_append_left _ (List.mem_of_getElem? (i := 0) rfl)))) (fun _ h9 => h9) rfl (tyX8_ok 5 (by decide)) rfl rfl (Nat.le_of_ble_eq_true rfl) dX8_next_54 (fun H locs hP hD hS => ?_)
              refine zs_0 (y := (a0, .inr (8, [a0g_0, Value.ref a0_1, a0g_2, Value.int a0_3, Value.int j5l1, Value.int j5l1, Value.int 0, Value.int 0, Value.int 0, a0g_9, a0g_10, a0g_11, Value.ref a0_12, a0g_13, a0g_14, a0g_15, a0g_16, a0g_17, a0g_18, a0g_19, a0g_20, a0g_21, a0g_22, a0g_23, a0g_24, a0g_25, a0g_26, a0g_27, a0g_28, a0g_29, a0g_30, a0g_31, a0g_32, a0g_33, a0g_34, a0g_35, a0g_36, a0g_37, a0g_38, a0g_39]))) hP hD rfl (fun hP hD => ?_)
              refine lv_goto (tgt := 241) hx hb dX8_next_57 (by decide) ?_
              have hFe : FX = (j5l1.toInt, j5l1.toInt, 0, 0, 0, (fl_A fa0_12)) := hF0
              exact W.vret hx hb hr (fun t ht hW => ⟨⟨(), rfl, trivial, j5l1, j5l1, 0, 0, 0, fa0_12, ⟨bj5l1_l, Int.le_trans u28k1_j5l1 (by decide)⟩, ⟨zq5, Int.le_trans zq6 (by decide)⟩, (fun h9 => absurd h9 (by decide)), ⟨by omega, Or.inl (by decide)⟩, hFe, by rw [ht]; exact hP, va_K.moved hW.alike hK, hD⟩, hS.F ht⟩) hS.2.2 dX8_next_241
        · have gc12 := ai_eq c12
          have u12f_r7 : r7.toInt ≤ (32 : Int) := Int.le_trans (Int.le_of_eq gc12) zq148
          have l12f_r7 : (32 : Int) ≤ r7.toInt := Int.le_trans zq149 (Int.le_of_eq gc12.symm)
          have hF1 := hF1.trans (if_pos (show r7.toInt = 32 from gc12))
          obtain ⟨x15, ex15⟩ : ∃ y : Int32, y = j5l1 + Int32.ofInt 1 := ⟨_, rfl⟩
          have qx15 : x15.toInt = j5l1.toInt + 1 := ai_inc ex15 (by decide) (by decide) u7k1_j5l1 (by decide)
          have bx15 : (1 : Int) ≤ x15.toInt ∧ x15.toInt ≤ 900 := ⟨by rw [qx15]; exact Int.add_le_add bj5l1_l (Int.le_refl _), by rw [qx15]; exact Int.add_le_add u7k1_j5l1 (Int.le_refl _)⟩
          refine lv_iinc (v := x15) (lv' := [(1, .int x15), (0, .ref a0)]) hx hb dX8_next_15 hl (k := 1) rfl ex15.symm (by decide) rfl (fun ls hl => ?_)
          have hF1 := hF1.trans (fl_lt_eq (show x15.toInt = j5l1.toInt + 1 from qx15))
          refine lv_goto (tgt := 5) hx hb dX8_next_18 (by decide) ?_
          exact (hK0 _ _ _).mp (ih5 x15 _ _ _ (by first | exact zg_s hm5 qx15 | (have h0 := qx15; omega)) (Int.le_trans zq4 bx15.1) bx15.2 (by omega) (hF0.trans (fl_wh_l (hSX5.trans hF1))) hP hD hS (lv_sub hl [1, 0] rfl))
  exact (hK0 _ _ _).mp (J5 901 a0_5 _ _ _ (by have h1 : (0 : Int) ≤ a0_5.toInt := ba0_5_l; have h2 : a0_5.toInt ≤ (900 : Int) := ba0_5_u; omega) ba0_5_l ba0_5_u (by omega) hF0 hP hD hS (lv_sub hl [1, 0] rfl))
end P312_00_f
section P312_01_f
set_option maxHeartbeats 4000000 in
set_option maxRecDepth 100000 in
theorem fG_X8_wrong (l : Launch) (dC : Nat → ClassId) (dI : Nat → Nat → Nat) (sz : Nat) (a0 : Nat) (a1 : Int32) (a2 : Int32) (a0g_0 a0g_1 a0g_2 a0g_3 a0g_4 a0g_5 a0g_6 a0g_7 a0g_8 a0g_11 a0g_12 a0g_14 a0g_15 a0g_16 a0g_17 a0g_18 a0g_19 a0g_20 a0g_21 a0g_22 a0g_23 a0g_24 a0g_25 a0g_26 a0g_27 a0g_28 a0g_29 a0g_30 a0g_31 a0g_32 a0g_33 a0g_34 a0g_35 a0g_36 a0g_37 a0g_38 a0g_39 : Value) (a0_9 : Int32) (a0_10 : Int32)  : zm l yX8_wrong wsX8_wrong ({ frames := 0, cells := 0, slots := 0, locals := 0 }) [.ref a0, .int a1, .int a2] dC dI sz [(a0, .inr (8, [a0g_0, a0g_1, a0g_2, a0g_3, a0g_4, a0g_5, a0g_6, a0g_7, a0g_8, Value.int a0_9, Value.int a0_10, a0g_11, a0g_12, Value.int 0, a0g_14, a0g_15, a0g_16, a0g_17, a0g_18, a0g_19, a0g_20, a0g_21, a0g_22, a0g_23, a0g_24, a0g_25, a0g_26, a0g_27, a0g_28, a0g_29, a0g_30, a0g_31, a0g_32, a0g_33, a0g_34, a0g_35, a0g_36, a0g_37, a0g_38, a0g_39]))] [] (fun A _ => True) (fun A => va_Qv (fun (_ : Unit) => True) (fun (_ : Unit) (t : State) => ∃ na0_9 : Int32, ∃ na0_10 : Int32, (FfG_X8_wrong a1.toInt a2.toInt = (na0_9.toInt, na0_10.toInt)) ∧ ax_B dC dI A [(a0, .inr (8, [a0g_0, a0g_1, a0g_2, a0g_3, a0g_4, a0g_5, a0g_6, a0g_7, a0g_8, Value.int na0_9, Value.int na0_10, a0g_11, a0g_12, Value.int 1, a0g_14, a0g_15, a0g_16, a0g_17, a0g_18, a0g_19, a0g_20, a0g_21, a0g_22, a0g_23, a0g_24, a0g_25, a0g_26, a0g_27, a0g_28, a0g_29, a0g_30, a0g_31, a0g_32, a0g_33, a0g_34, a0g_35, a0g_36, a0g_37, a0g_38, a0g_39]))] [] t) A) := by
  refine zh (cc := cX8_wrong) (maxL := 3) (ret := none) zn_RX8 rfl (Nat.le_of_ble_eq_true rfl) (fun p e s m below meth c A ls hx hb hml hr hts (hown : s.vm.findClass RX8 = some m.cls) hlocks hA hS hP hK hD hE (hl : lv_has ls 3 [(0, .ref a0), (1, .int a1), (2, .int a2)]) => ?_)
  generalize hFX : FfG_X8_wrong a1.toInt a2.toInt = FX at ⊢
  have hF0 := hFX.symm.trans (FfG_X8_wrong.eq_1 a1.toInt a2.toInt)
  refine lv_aload_n hx hb dX8_wrong_0 rfl (lv_at hl 0 rfl) ?_
  refine va_get (D := (dC, dI)) (ci := 8) (v := .int 0) (C := RX8) (T := TX8) (N := 40) hx hb hts zi_X8_wrong_8 hown hK hP 0 rfl rfl 13 (by decide) (hts (.fieldLink RX8 97 "WaxTurnsModel" "failed" "Z") (List.mem_cons_of_mem _ (List.mem_append_left _ (List.mem_of_getElem? (i := 0) rfl)))) (fun _ h9 => h9) rfl dX8_wrong_1 ?_
  refine lv_if_eq (tgt := 8) hx hb dX8_wrong_4 (by decide) (fun _ => ?_) (fun c4 => absurd (by decide +kernel) c4)
  refine lv_aload_n hx hb dX8_wrong_8 rfl (lv_at hl 0 rfl) ?_
  refine lv_iconst (v := 1) hx hb dX8_wrong_9 zk_iconst_1 ?_
  refine va_put (D := (dC, dI)) (ci := 8) (v := .int 1) (ty := .boolean) (C := RX8) (T := TX8) (N := 40) hx hb hts zi_X8_wrong_8 tyX8 tyX8_ok nmX8 hown hK hP hD hS 0 rfl rfl 13 (by decide) (hts (.fieldLink RX8 97 "WaxTurnsModel" "failed" "Z") (List.mem_cons_of_mem _ (List.mem_append_left _ (List.mem_of_getElem? (i := 0) rfl)))) (fun _ h9 => h9) rfl (tyX8_ok 13 (by decide)) rfl rfl (Nat.le_of_ble_eq_true rfl) dX8_wrong_10 (fun H locs hP hD hS => ?_)
  refine zs_0 (y := (a0, .inr (8, [a0g_0, a0g_1, a0g_2, a0g_3, a0g_4, a0g_5, a0g_6, a0g_7, a0g_8, Value.int a0_9, Value.int a0_10, a0g_11, a0g_12, Value.int 1, a0g_14, a0g_15, a0g_16, a0g_17, a0g_18, a0g_19, a0g_20, a0g_21, a0g_22, a0g_23, a0g_24, a0g_25, a0g_26, a0g_27, a0g_28, a0g_29, a0g_30, a0g_31, a0g_32, a0g_33, a0g_34, a0g_35, a0g_36, a0g_37, a0g_38, a0g_39]))) hP hD rfl (fun hP hD => ?_)
  refine lv_aload_n hx hb dX8_wrong_13 rfl (lv_at hl 0 rfl) ?_
  refine lv_iload_n hx hb dX8_wrong_14 rfl (lv_at hl 1 rfl) ?_
  refine va_put (D := (dC, dI)) (ci := 8) (v := .int a1) (ty := .int) (C := RX8) (T := TX8) (N := 40) hx hb hts zi_X8_wrong_8 tyX8 tyX8_ok nmX8 hown hK hP hD hS 0 rfl rfl 9 (by decide) (hts (.fieldLink RX8 101 "WaxTurnsModel" "fault" "I") (List.mem_cons_of_mem _ (List.mem_append_left _ (List.mem_of_getElem? (i := 1) rfl)))) (fun _ h9 => h9) rfl (tyX8_ok 9 (by decide)) rfl rfl (Nat.le_of_ble_eq_true rfl) dX8_wrong_15 (fun H locs hP hD hS => ?_)
  refine zs_0 (y := (a0, .inr (8, [a0g_0, a0g_1, a0g_2, a0g_3, a0g_4, a0g_5, a0g_6, a0g_7, a0g_8, Value.int a1, Value.int a0_10, a0g_11, a0g_12, Value.int 1, a0g_14, a0g_15, a0g_16, a0g_17, a0g_18, a0g_19, a0g_20, a0g_21, a0g_22, a0g_23, a0g_24, a0g_25, a0g_26, a0g_27, a0g_28, a0g_29, a0g_30, a0g_31, a0g_32, a0g_33, a0g_34, a0g_35, a0g_36, a0g_37, a0g_38, a0g_39]))) hP hD rfl (fun hP hD => ?_)
  refine lv_aload_n hx hb dX8_wrong_18 rfl (lv_at hl 0 rfl) ?_
  refine lv_iload_n hx hb dX8_wrong_19 rfl (lv_at hl 2 rfl) ?_
  refine va_put (D := (dC, dI)) (ci := 8) (v := .int a2) (ty := .int) (C := RX8) (T := TX8) (N := 40) hx hb hts zi_X8_wrong_8 tyX8 tyX8_ok nmX8 hown hK hP hD hS 0 rfl rfl 10 (by decide) (hts (.fieldLink RX8 13 "WaxTurnsModel" "place" "I") (List.mem_cons_of_mem _ (List.mem_append_left _ (List.mem_of_getElem? (i := 2) rfl)))) (fun _ h9 => h9) rfl (tyX8_ok 10 (by decide)) rfl rfl (Nat.le_of_ble_eq_true rfl) dX8_wrong_20 (fun H locs hP hD hS => ?_)
  refine zs_0 (y := (a0, .inr (8, [a0g_0, a0g_1, a0g_2, a0g_3, a0g_4, a0g_5, a0g_6, a0g_7, a0g_8, Value.int a1, Value.int a2, a0g_11, a0g_12, Value.int 1, a0g_14, a0g_15, a0g_16, a0g_17, a0g_18, a0g_19, a0g_20, a0g_21, a0g_22, a0g_23, a0g_24, a0g_25, a0g_26, a0g_27, a0g_28, a0g_29, a0g_30, a0g_31, a0g_32, a0g_33, a0g_34, a0g_35, a0g_36, a0g_37, a0g_38, a0g_39]))) hP hD rfl (fun hP hD => ?_)
  have hFe : FX = (a1.toInt, a2.toInt) := hF0
  exact W.vret hx hb hr (fun t ht hW => ⟨⟨(), rfl, trivial, a1, a2, hFe, by rw [ht]; exact hP, va_K.moved hW.alike hK, hD⟩, hS.F ht⟩) hS.2.2 dX8_wrong_23

set_option maxHeartbeats 4000000 in
set_option maxRecDepth 100000 in
theorem fF_X8_wrong (l : Launch) (dC : Nat → ClassId) (dI : Nat → Nat → Nat) (sz : Nat) (a0 : Nat) (a1 : Int32) (a2 : Int32) (a0g_0 a0g_1 a0g_2 a0g_3 a0g_4 a0g_5 a0g_6 a0g_7 a0g_8 a0g_9 a0g_10 a0g_11 a0g_12 a0g_14 a0g_15 a0g_16 a0g_17 a0g_18 a0g_19 a0g_20 a0g_21 a0g_22 a0g_23 a0g_24 a0g_25 a0g_26 a0g_27 a0g_28 a0g_29 a0g_30 a0g_31 a0g_32 a0g_33 a0g_34 a0g_35 a0g_36 a0g_37 a0g_38 a0g_39 : Value)  : zm l yX8_wrong wsX8_wrong ({ frames := 0, cells := 0, slots := 0, locals := 0 }) [.ref a0, .int a1, .int a2] dC dI sz [(a0, .inr (8, [a0g_0, a0g_1, a0g_2, a0g_3, a0g_4, a0g_5, a0g_6, a0g_7, a0g_8, a0g_9, a0g_10, a0g_11, a0g_12, Value.int 1, a0g_14, a0g_15, a0g_16, a0g_17, a0g_18, a0g_19, a0g_20, a0g_21, a0g_22, a0g_23, a0g_24, a0g_25, a0g_26, a0g_27, a0g_28, a0g_29, a0g_30, a0g_31, a0g_32, a0g_33, a0g_34, a0g_35, a0g_36, a0g_37, a0g_38, a0g_39]))] [] (fun A _ => True) (fun A => va_Qv (fun (_ : Unit) => True) (fun (_ : Unit) (t : State) => ax_B dC dI A [(a0, .inr (8, [a0g_0, a0g_1, a0g_2, a0g_3, a0g_4, a0g_5, a0g_6, a0g_7, a0g_8, a0g_9, a0g_10, a0g_11, a0g_12, Value.int 1, a0g_14, a0g_15, a0g_16, a0g_17, a0g_18, a0g_19, a0g_20, a0g_21, a0g_22, a0g_23, a0g_24, a0g_25, a0g_26, a0g_27, a0g_28, a0g_29, a0g_30, a0g_31, a0g_32, a0g_33, a0g_34, a0g_35, a0g_36, a0g_37, a0g_38, a0g_39]))] [] t) A) := by
  refine zh (cc := cX8_wrong) (maxL := 3) (ret := none) zn_RX8 rfl (Nat.le_of_ble_eq_true rfl) (fun p e s m below meth c A ls hx hb hml hr hts (hown : s.vm.findClass RX8 = some m.cls) hlocks hA hS hP hK hD hE (hl : lv_has ls 3 [(0, .ref a0), (1, .int a1), (2, .int a2)]) => ?_)
  refine lv_aload_n hx hb dX8_wrong_0 rfl (lv_at hl 0 rfl) ?_
  refine va_get (D := (dC, dI)) (ci := 8) (v := .int 1) (C := RX8) (T := TX8) (N := 40) hx hb hts zi_X8_wrong_8 hown hK hP 0 rfl rfl 13 (by decide) (hts (.fieldLink RX8 97 "WaxTurnsModel" "failed" "Z") (List.mem_cons_of_mem _ (List.mem_append_left _ (List.mem_of_getElem? (i := 0) rfl)))) (fun _ h9 => h9) rfl dX8_wrong_1 ?_
  refine lv_if_eq (tgt := 8) hx hb dX8_wrong_4 (by decide) (fun c4 => absurd c4 (by decide +kernel)) (fun _ => ?_)
  exact W.vret hx hb hr (fun t ht hW => ⟨⟨(), rfl, trivial, by rw [ht]; exact hP, va_K.moved hW.alike hK, hD⟩, hS.F ht⟩) hS.2.2 dX8_wrong_7

set_option maxHeartbeats 4000000 in
set_option maxRecDepth 100000 in
theorem fF_X8_isWord (l : Launch) (dC : Nat → ClassId) (dI : Nat → Nat → Nat) (sz : Nat) (a0 : Nat) (a1 : Nat) (a0g_0 a0g_1 a0g_2 a0g_3 a0g_4 a0g_5 a0g_6 a0g_7 a0g_8 a0g_9 a0g_10 a0g_11 a0g_12 a0g_14 a0g_15 a0g_16 a0g_17 a0g_18 a0g_19 a0g_20 a0g_21 a0g_22 a0g_23 a0g_24 a0g_25 a0g_26 a0g_27 a0g_28 a0g_29 a0g_30 a0g_31 a0g_32 a0g_33 a0g_34 a0g_35 a0g_36 a0g_37 a0g_38 a0g_39 : Value) (na1 : Nat) (ca1 : Nat → Int32)  : zm l yX8_isWord wsX8_isWord ({ frames := 0, cells := 0, slots := 0, locals := 0 }) [.ref a0, .ref a1] dC dI sz [(a0, .inr (8, [a0g_0, a0g_1, a0g_2, a0g_3, a0g_4, a0g_5, a0g_6, a0g_7, a0g_8, a0g_9, a0g_10, a0g_11, a0g_12, Value.int 1, a0g_14, a0g_15, a0g_16, a0g_17, a0g_18, a0g_19, a0g_20, a0g_21, a0g_22, a0g_23, a0g_24, a0g_25, a0g_26, a0g_27, a0g_28, a0g_29, a0g_30, a0g_31, a0g_32, a0g_33, a0g_34, a0g_35, a0g_36, a0g_37, a0g_38, a0g_39]))] [] (fun A U => sxc_W a1 na1 ca1 A U) (fun A => va_Qi (fun (r : Int32) (_ : Unit) => (r = 0) ∧ r.toInt = FfF_X8_isWord) (fun (_ : Unit) (t : State) => ax_B dC dI A [(a0, .inr (8, [a0g_0, a0g_1, a0g_2, a0g_3, a0g_4, a0g_5, a0g_6, a0g_7, a0g_8, a0g_9, a0g_10, a0g_11, a0g_12, Value.int 1, a0g_14, a0g_15, a0g_16, a0g_17, a0g_18, a0g_19, a0g_20, a0g_21, a0g_22, a0g_23, a0g_24, a0g_25, a0g_26, a0g_27, a0g_28, a0g_29, a0g_30, a0g_31, a0g_32, a0g_33, a0g_34, a0g_35, a0g_36, a0g_37, a0g_38, a0g_39]))] [] t) A) := by
  refine zh (cc := cX8_isWord) (maxL := 4) (ret := (some .boolean)) zn_RX8 rfl (Nat.le_of_ble_eq_true rfl) (fun p e s m below meth c A ls hx hb hml hr hts (hown : s.vm.findClass RX8 = some m.cls) hlocks hA hS hP hK hD hE (hl : lv_has ls 4 [(0, .ref a0), (1, .ref a1)]) => ?_)
  have hE0 := hE
  generalize hFX : FfF_X8_isWord = FX at ⊢
  have hF0 := hFX.symm.trans (FfF_X8_isWord.eq_1)
  refine ai_open (fun K hK0 => ?_)
  refine (hK0 _ _ _).mpr ?_
  refine lv_aload_n hx hb dX8_isWord_0 rfl (lv_at hl 0 rfl) ?_
  refine va_get (D := (dC, dI)) (ci := 8) (v := .int 1) (C := RX8) (T := TX8) (N := 40) hx hb hts zi_X8_isWord_8 hown hK hP 0 rfl rfl 13 (by decide) (hts (.fieldLink RX8 97 "WaxTurnsModel" "failed" "Z") (zm_X8_isWord_r1 (List.mem_of_getElem? (i := 0) rfl))) (fun _ h9 => h9) rfl dX8_isWord_1 ?_
  refine lv_if_ne (tgt := 26) hx hb dX8_isWord_4 (by decide) (fun _ => ?_) (fun c4 => absurd c4 (by decide +kernel))
  refine lv_iconst (v := 0) hx hb dX8_isWord_26 zk_iconst_0 ?_
  have hFe : FX = 0 := hF0
  exact W.zret (v := 0) hx hb hr rfl (fun t ht hW => ⟨⟨0, (), rfl, ⟨rfl, hFe.symm⟩, by rw [ht]; exact hP, va_K.moved hW.alike hK, hD⟩, hS.F ht⟩) hS.2.2 dX8_isWord_27

set_option maxHeartbeats 4000000 in
set_option maxRecDepth 100000 in
theorem fG_X8_isWord (l : Launch) (dC : Nat → ClassId) (dI : Nat → Nat → Nat) (sz : Nat) (a0 : Nat) (a1 : Nat) (a0g_0 a0g_1 a0g_2 a0g_3 a0g_4 a0g_5 a0g_7 a0g_9 a0g_10 a0g_11 a0g_14 a0g_15 a0g_16 a0g_17 a0g_18 a0g_19 a0g_20 a0g_21 a0g_22 a0g_23 a0g_24 a0g_25 a0g_26 a0g_27 a0g_28 a0g_29 a0g_30 a0g_31 a0g_32 a0g_33 a0g_34 a0g_35 a0g_36 a0g_37 a0g_38 a0g_39 : Value) (a0_6 : Int32) (a0_8 : Int32) (a0_12 : Nat) (ka0_12 : ClassId) (fa0_12 : Nat → Int32) (na1 : Nat) (ca1 : Nat → Int32) (ba0_8_l : (0 : Int) ≤ a0_8.toInt) (ba0_8_u : a0_8.toInt ≤ (900 : Int)) : zm l yX8_isWord wsX8_isWord ({ frames := 4, cells := 0, slots := 0, locals := 85 }) [.ref a0, .ref a1] dC dI sz [(a0, .inr (8, [a0g_0, a0g_1, a0g_2, a0g_3, a0g_4, a0g_5, Value.int a0_6, a0g_7, Value.int a0_8, a0g_9, a0g_10, a0g_11, Value.ref a0_12, Value.int 0, a0g_14, a0g_15, a0g_16, a0g_17, a0g_18, a0g_19, a0g_20, a0g_21, a0g_22, a0g_23, a0g_24, a0g_25, a0g_26, a0g_27, a0g_28, a0g_29, a0g_30, a0g_31, a0g_32, a0g_33, a0g_34, a0g_35, a0g_36, a0g_37, a0g_38, a0g_39])), (a0_12, .inl (ka0_12, 8, .inl (fa0_12)))] [(ka0_12, .int)] (fun A U => sxc_W a1 na1 ca1 A U) (fun A => va_Qi (fun (r : Int32) (_ : Unit) => ((0 : Int) ≤ r.toInt ∧ r.toInt ≤ (1 : Int)) ∧ r.toInt = FfG_X8_isWord a0_6.toInt a0_8.toInt (fl_A fa0_12) (na1 : Int) (fl_A ca1)) (fun (_ : Unit) (t : State) => ax_B dC dI A [(a0, .inr (8, [a0g_0, a0g_1, a0g_2, a0g_3, a0g_4, a0g_5, Value.int a0_6, a0g_7, Value.int a0_8, a0g_9, a0g_10, a0g_11, Value.ref a0_12, Value.int 0, a0g_14, a0g_15, a0g_16, a0g_17, a0g_18, a0g_19, a0g_20, a0g_21, a0g_22, a0g_23, a0g_24, a0g_25, a0g_26, a0g_27, a0g_28, a0g_29, a0g_30, a0g_31, a0g_32, a0g_33, a0g_34, a0g_35, a0g_36, a0g_37, a0g_38, a0g_39])), (a0_12, .inl (ka0_12, 8, .inl (fa0_12)))] [(ka0_12, .int)] t) A) := by
  refine zh (cc := cX8_isWord) (maxL := 4) (ret := (some .boolean)) zn_RX8 rfl (Nat.le_of_ble_eq_true rfl) (fun p e s m below meth c A ls hx hb hml hr hts (hown : s.vm.findClass RX8 = some m.cls) hlocks hA hS hP hK hD hE (hl : lv_has ls 4 [(0, .ref a0), (1, .ref a1)]) => ?_)
  have hE0 := hE
  generalize hFX : FfG_X8_isWord a0_6.toInt a0_8.toInt (fl_A fa0_12) (na1 : Int) (fl_A ca1) = FX at ⊢
  have hF0 := hFX.symm.trans (FfG_X8_isWord.eq_1 a0_6.toInt a0_8.toInt (fl_A fa0_12) (na1 : Int) (fl_A ca1))
  refine ai_open (fun K hK0 => ?_)
  refine (hK0 _ _ _).mpr ?_
  refine lv_aload_n hx hb dX8_isWord_0 rfl (lv_at hl 0 rfl) ?_
  refine va_get (D := (dC, dI)) (ci := 8) (v := .int 0) (C := RX8) (T := TX8) (N := 40) hx hb hts zi_X8_isWord_8 hown hK hP 0 rfl rfl 13 (by decide) (hts (.fieldLink RX8 97 "WaxTurnsModel" "failed" "Z") (zm_X8_isWord_r1 (List.mem_of_getElem? (i := 0) rfl))) (fun _ h9 => h9) rfl dX8_isWord_1 ?_
  refine lv_if_ne (tgt := 26) hx hb dX8_isWord_4 (by decide) (fun c4 => absurd (by decide +kernel) c4) (fun _ => ?_)
  refine lv_aload_n hx hb dX8_isWord_7 rfl (lv_at hl 0 rfl) ?_
  refine va_get (D := (dC, dI)) (ci := 8) (v := .int a0_6) (C := RX8) (T := TX8) (N := 40) hx hb hts zi_X8_isWord_8 hown hK hP 0 rfl rfl 6 (by decide) (hts (.fieldLink RX8 87 "WaxTurnsModel" "token" "I") (zm_X8_isWord_r1 (List.mem_of_getElem? (i := 1) rfl))) (fun _ h9 => h9) rfl dX8_isWord_8 ?_
  refine lv_iconst (v := 2) hx hb dX8_isWord_11 zk_iconst_2 ?_
  refine lv_icmp_ne (tgt := 26) hx hb dX8_isWord_12 (by decide) (fun c12 => ?_) (fun c12 => ?_)
  · have gc12 := ai_ne c12
    have hF0 := hF0.trans (if_neg (show ¬ (a0_6.toInt = 2) from  gc12))
    refine lv_iconst (v := 0) hx hb dX8_isWord_26 zk_iconst_0 ?_
    have hFe : FX = 0 := hF0
    exact W.zret (v := 0) hx hb hr rfl (fun t ht hW => ⟨⟨0, (), rfl, ⟨⟨zq5, (Int.le_trans zq6 zq4)⟩, hFe.symm⟩, by rw [ht]; exact hP, va_K.moved hW.alike hK, hD⟩, hS.F ht⟩) hS.2.2 dX8_isWord_27
  · have gc12 := ai_eq c12
    have u12f_a0_6 : a0_6.toInt ≤ (2 : Int) := Int.le_trans (Int.le_of_eq gc12) zq13
    have l12f_a0_6 : (2 : Int) ≤ a0_6.toInt := Int.le_trans zq12 (Int.le_of_eq gc12.symm)
    have hF0 := hF0.trans (if_pos (show a0_6.toInt = 2 from gc12))
    refine lv_aload_n hx hb dX8_isWord_15 rfl (lv_at hl 0 rfl) ?_
    refine va_get (D := (dC, dI)) (ci := 8) (v := .int a0_8) (C := RX8) (T := TX8) (N := 40) hx hb hts zi_X8_isWord_8 hown hK hP 0 rfl rfl 8 (by decide) (hts (.fieldLink RX8 81 "WaxTurnsModel" "nameSize" "I") (zm_X8_isWord_r1 (List.mem_of_getElem? (i := 2) rfl))) (fun _ h9 => h9) rfl dX8_isWord_16 ?_
    refine lv_aload_n hx hb dX8_isWord_19 rfl (lv_at hl 1 rfl) ?_
    refine va_calli (va_runV (As := []) (rest := [.int a0_8]) ⟨hx, hb, hml, hown, hts⟩ (f_J0_length_8abf5 l dC dI s.heap.size a1 na1 ca1 ) (cwV 0 hts gX8_isWord_J0_length_8abf5 rfl rfl rfl zd_J0_length_8abf5 ⟨Nat.le_of_ble_eq_true rfl, Nat.le_of_ble_eq_true rfl⟩) ⟨ax_blind (fun _ _ _ _ hq => sxc_W_same _ _ _ _ (hq)), sxc_recv hE0 hS, ax_preE (zp_P0 hP) (zp_K hK) (zp_D0 hD) (fun U hU hW => sxc_W_to hE0 hS.2.1 (zp_F0 hD hS hA) hU hW)⟩ rfl rfl hl.1 rfl (lv_room (Nat.le_of_ble_eq_true rfl)) dX8_isWord_20 ⟨Nat.le_of_ble_eq_true rfl, Nat.le_of_ble_eq_true rfl⟩) hS (fun q _ h => zp_F0 hD hS hA q h) (zp_F0 hD hS hA) (fun r20 u t H locs ht hvm hw hB hz1 hk1 hS1 => zo0 hB ht hP hD hk1 (zp_F0 hD hS hA) hS1 (fun hP hK1 hD hS => ?_))
    obtain ⟨hw, hfr20⟩ := hw
    have hc20 : (na1 : Int) = r20.toInt := hfr20.symm
    have hF0 := hF0.trans (fl_lt_eq hc20.symm)
    rcases hw with hw
    · obtain ⟨hwr20, hnr20⟩ := hw
      refine lv_icmp_eq (tgt := 28) hx hb dX8_isWord_23 (by decide) (fun c23 => ?_) (fun c23 => ?_)
      · have gc23 := ai_eq c23
        have u23t_a0_8 : a0_8.toInt ≤ (8 : Int) := Int.le_trans (Int.le_of_eq gc23) (by omega : r20.toInt ≤ (8 : Int))
        have l23t_a0_8 : (0 : Int) ≤ a0_8.toInt := ba0_8_l
        have u23t_r20 : r20.toInt ≤ (8 : Int) := (by omega : r20.toInt ≤ (8 : Int))
        have l23t_r20 : (0 : Int) ≤ r20.toInt := (by omega : (0 : Int) ≤ r20.toInt)
        have hF0 := hF0.trans (if_pos (show a0_8.toInt = r20.toInt from gc23))
        refine lv_iconst (v := 1) hx hb dX8_isWord_28 zk_iconst_1 ?_
        refine lv_istore_n (lv' := [(2, .int 1), (0, .ref a0), (1, .ref a1)]) hx hb dX8_isWord_29 rfl hl (by decide) rfl (fun ls hl => ?_)
        refine lv_iconst (v := 0) hx hb dX8_isWord_30 zk_iconst_0 ?_
        refine lv_istore_n (lv' := [(3, .int 0), (2, .int 1), (0, .ref a0), (1, .ref a1)]) hx hb dX8_isWord_31 rfl hl (by decide) rfl (fun ls hl => ?_)
        have J32 : ∀ (n : Nat) (j32l3 : Int32) (j32l2 : Int32) (H : Heap) (locs : List Loc) (ls : Array Slot), (9 : Int) - j32l3.toInt ≤ (n : Int) → (0 : Int) ≤ j32l3.toInt → j32l3.toInt ≤ (8 : Int) → (0 : Int) ≤ j32l2.toInt → j32l2.toInt ≤ (1 : Int) → (FX = fl_wh (fun t9 => SfG_X8_isWord_32_1 a0_8.toInt (fl_A fa0_12) (fl_A ca1) t9.1 t9.2) 0 n (j32l3.toInt, j32l2.toInt)) → va_P (dC, dI) vwCl [(a0, .inr (8, [a0g_0, a0g_1, a0g_2, a0g_3, a0g_4, a0g_5, Value.int a0_6, a0g_7, Value.int a0_8, a0g_9, a0g_10, a0g_11, Value.ref a0_12, Value.int 0, a0g_14, a0g_15, a0g_16, a0g_17, a0g_18, a0g_19, a0g_20, a0g_21, a0g_22, a0g_23, a0g_24, a0g_25, a0g_26, a0g_27, a0g_28, a0g_29, a0g_30, a0g_31, a0g_32, a0g_33, a0g_34, a0g_35, a0g_36, a0g_37, a0g_38, a0g_39])), (a0_12, .inl (ka0_12, 8, .inl (fa0_12)))] H → va_D A [(a0, .inr (8, [a0g_0, a0g_1, a0g_2, a0g_3, a0g_4, a0g_5, Value.int a0_6, a0g_7, Value.int a0_8, a0g_9, a0g_10, a0g_11, Value.ref a0_12, Value.int 0, a0g_14, a0g_15, a0g_16, a0g_17, a0g_18, a0g_19, a0g_20, a0g_21, a0g_22, a0g_23, a0g_24, a0g_25, a0g_26, a0g_27, a0g_28, a0g_29, a0g_30, a0g_31, a0g_32, a0g_33, a0g_34, a0g_35, a0g_36, a0g_37, a0g_38, a0g_39])), (a0_12, .inl (ka0_12, 8, .inl (fa0_12)))] → va_S A s.heap H locs → lv_has ls 4 [(0, .ref a0), (1, .ref a1), (2, .int j32l2), (3, .int j32l3)] → K H locs (F0 m 32 ls []) := by
          intro n
          induction n with
          | zero =>
            intro j32l3 j32l2 H locs ls hm bj32l3_l bj32l3_u bj32l2_l bj32l2_u hF0 hP hD hS hl
            first | exact zg_0 hm bj32l3_u (by decide) | (have h8 := ai_min j32l3; have h9 := ai_max j32l3; exact absurd hm (by omega))
          | succ n ih32 =>
            intro j32l3 j32l2 H locs ls hm bj32l3_l bj32l3_u bj32l2_l bj32l2_u hF0 hP hD hS hl
            refine (hK0 _ _ _).mpr ?_
            have hm32 := hm
            obtain ⟨SX32, hSX32⟩ : ∃ q9, SfG_X8_isWord_32_1 a0_8.toInt (fl_A fa0_12) (fl_A ca1) j32l3.toInt j32l2.toInt = q9 := ⟨_, rfl⟩
            have hF1 := hSX32.symm.trans (SfG_X8_isWord_32_1.eq_1 a0_8.toInt (fl_A fa0_12) (fl_A ca1) j32l3.toInt j32l2.toInt)
            refine lv_iload_n hx hb dX8_isWord_32 rfl (lv_at hl 3 rfl) ?_
            refine lv_aload_n hx hb dX8_isWord_33 rfl (lv_at hl 0 rfl) ?_
            refine va_get (D := (dC, dI)) (ci := 8) (v := .int a0_8) (C := RX8) (T := TX8) (N := 40) hx hb hts zi_X8_isWord_8 hown hK hP 0 rfl rfl 8 (by decide) (hts (.fieldLink RX8 81 "WaxTurnsModel" "nameSize" "I") (zm_X8_isWord_r1 (List.mem_of_getElem? (i := 2) rfl))) (fun _ h9 => h9) rfl dX8_isWord_34 ?_
            refine lv_icmp_ge (tgt := 70) hx hb dX8_isWord_37 (by decide) (fun c37 => ?_) (fun c37 => ?_)
            · have gc37 := ai_le c37
              have u37t_a0_8 : a0_8.toInt ≤ (8 : Int) := u23t_a0_8
              have l37t_j32l3 : (0 : Int) ≤ j32l3.toInt := bj32l3_l
              have hF1 := hF1.trans (if_pos (show a0_8.toInt ≤ j32l3.toInt from gc37))
              have hF0 := hF0.trans (fl_wh_r (hSX32.trans hF1))
              refine lv_iload_n hx hb dX8_isWord_70 rfl (lv_at hl 2 rfl) ?_
              have hFe : FX = j32l2.toInt := hF0
              exact W.zret (v := j32l2) hx hb hr (ai_bool bj32l2_l bj32l2_u) (fun t ht hW => ⟨⟨j32l2, (), rfl, ⟨⟨bj32l2_l, bj32l2_u⟩, hFe.symm⟩, by rw [ht]; exact hP, va_K.moved hW.alike hK, hD⟩, hS.F ht⟩) hS.2.2 dX8_isWord_71
            · have gc37 := ai_nle c37
              have u37f_j32l3 : j32l3.toInt ≤ (7 : Int) := ai_lthi gc37 u23t_a0_8
              have l37f_a0_8 : (1 : Int) ≤ a0_8.toInt := ai_ltlo gc37 bj32l3_l
              have hF1 := hF1.trans (if_neg (show ¬ (a0_8.toInt ≤ j32l3.toInt) from Int.not_le.mpr gc37))
              refine lv_iload_n hx hb dX8_isWord_40 rfl (lv_at hl 2 rfl) ?_
              have J63 : ∀ (j63s0 : Int32) (H : Heap) (locs : List Loc) (ls : Array Slot), (0 : Int) ≤ j63s0.toInt → j63s0.toInt ≤ (1 : Int) → (SX32 = GfG_X8_isWord_63_1 j32l3.toInt j63s0.toInt) → va_P (dC, dI) vwCl [(a0, .inr (8, [a0g_0, a0g_1, a0g_2, a0g_3, a0g_4, a0g_5, Value.int a0_6, a0g_7, Value.int a0_8, a0g_9, a0g_10, a0g_11, Value.ref a0_12, Value.int 0, a0g_14, a0g_15, a0g_16, a0g_17, a0g_18, a0g_19, a0g_20, a0g_21, a0g_22, a0g_23, a0g_24, a0g_25, a0g_26, a0g_27, a0g_28, a0g_29, a0g_30, a0g_31, a0g_32, a0g_33, a0g_34, a0g_35, a0g_36, a0g_37, a0g_38, a0g_39])), (a0_12, .inl (ka0_12, 8, .inl (fa0_12)))] H → va_D A [(a0, .inr (8, [a0g_0, a0g_1, a0g_2, a0g_3, a0g_4, a0g_5, Value.int a0_6, a0g_7, Value.int a0_8, a0g_9, a0g_10, a0g_11, Value.ref a0_12, Value.int 0, a0g_14, a0g_15, a0g_16, a0g_17, a0g_18, a0g_19, a0g_20, a0g_21, a0g_22, a0g_23, a0g_24, a0g_25, a0g_26, a0g_27, a0g_28, a0g_29, a0g_30, a0g_31, a0g_32, a0g_33, a0g_34, a0g_35, a0g_36, a0g_37, a0g_38, a0g_39])), (a0_12, .inl (ka0_12, 8, .inl (fa0_12)))] → va_S A s.heap H locs → lv_has ls 4 [(0, .ref a0), (1, .ref a1), (3, .int j32l3)] → K H locs (F0 m 63 ls [.int j63s0]) := by
                intro j63s0 H locs ls  bj63s0_l bj63s0_u hF1 hP hD hS hl
                refine (hK0 _ _ _).mpr ?_
                have hF1 := hF1.trans (GfG_X8_isWord_63_1.eq_1 j32l3.toInt j63s0.toInt)
                refine lv_istore_n (lv' := [(2, .int j63s0), (0, .ref a0), (1, .ref a1), (3, .int j32l3)]) hx hb dX8_isWord_63 rfl hl (by decide) rfl (fun ls hl => ?_)
                obtain ⟨x64, ex64⟩ : ∃ y : Int32, y = j32l3 + Int32.ofInt 1 := ⟨_, rfl⟩
                have qx64 : x64.toInt = j32l3.toInt + 1 := ai_inc ex64 (by decide) (by decide) u37f_j32l3 (by decide)
                have bx64 : (1 : Int) ≤ x64.toInt ∧ x64.toInt ≤ 8 := ⟨by rw [qx64]; exact Int.add_le_add bj32l3_l (Int.le_refl _), by rw [qx64]; exact Int.add_le_add u37f_j32l3 (Int.le_refl _)⟩
                refine lv_iinc (v := x64) (lv' := [(3, .int x64), (2, .int j63s0), (0, .ref a0), (1, .ref a1)]) hx hb dX8_isWord_64 hl (k := 3) rfl ex64.symm (by decide) rfl (fun ls hl => ?_)
                have hF1 := hF1.trans (fl_lt_eq (show x64.toInt = j32l3.toInt + 1 from qx64))
                refine lv_goto (tgt := 32) hx hb dX8_isWord_67 (by decide) ?_
                exact (hK0 _ _ _).mp (ih32 x64 j63s0 _ _ _ (by first | exact zg_s hm32 qx64 | (have h0 := qx64; omega)) (Int.le_trans zq4 bx64.1) bx64.2 bj63s0_l bj63s0_u (hF0.trans (fl_wh_l (hSX32.trans hF1))) hP hD hS (lv_sub hl [2, 3, 1, 0] rfl))
              have J62 : ∀ (H : Heap) (locs : List Loc) (ls : Array Slot), (SX32 = GfG_X8_isWord_62_1 j32l3.toInt) → va_P (dC, dI) vwCl [(a0, .inr (8, [a0g_0, a0g_1, a0g_2, a0g_3, a0g_4, a0g_5, Value.int a0_6, a0g_7, Value.int a0_8, a0g_9, a0g_10, a0g_11, Value.ref a0_12, Value.int 0, a0g_14, a0g_15, a0g_16, a0g_17, a0g_18, a0g_19, a0g_20, a0g_21, a0g_22, a0g_23, a0g_24, a0g_25, a0g_26, a0g_27, a0g_28, a0g_29, a0g_30, a0g_31, a0g_32, a0g_33, a0g_34, a0g_35, a0g_36, a0g_37, a0g_38, a0g_39])), (a0_12, .inl (ka0_12, 8, .inl (fa0_12)))] H → va_D A [(a0, .inr (8, [a0g_0, a0g_1, a0g_2, a0g_3, a0g_4, a0g_5, Value.int a0_6, a0g_7, Value.int a0_8, a0g_9, a0g_10, a0g_11, Value.ref a0_12, Value.int 0, a0g_14, a0g_15, a0g_16, a0g_17, a0g_18, a0g_19, a0g_20, a0g_21, a0g_22, a0g_23, a0g_24, a0g_25, a0g_26, a0g_27, a0g_28, a0g_29, a0g_30, a0g_31, a0g_32, a0g_33, a0g_34, a0g_35, a0g_36, a0g_37, a0g_38, a0g_39])), (a0_12, .inl (ka0_12, 8, .inl (fa0_12)))] → va_S A s.heap H locs → lv_has ls 4 [(0, .ref a0), (1, .ref a1), (3, .int j32l3)] → K H locs (F0 m 62 ls []) := by
                intro  H locs ls  hF1 hP hD hS hl
                refine (hK0 _ _ _).mpr ?_
                have hF1 := hF1.trans (GfG_X8_isWord_62_1.eq_1 j32l3.toInt)
                refine lv_iconst (v := 0) hx hb dX8_isWord_62 zk_iconst_0 ?_
                exact (hK0 _ _ _).mp (J63 0 _ _ _  zq5 (Int.le_trans zq6 zq4) (by rw [show (0 : Int32).toInt = 0 from by decide]; exact hF1) hP hD hS (lv_sub hl [0, 1, 2] rfl))
              refine lv_if_eq (tgt := 62) hx hb dX8_isWord_41 (by decide) (fun c41 => ?_) (fun c41 => ?_)
              · have gc41 := ai_eq c41
                have u41t_j32l2 : j32l2.toInt ≤ (0 : Int) := Int.le_trans (Int.le_of_eq gc41) zq6
                have l41t_j32l2 : (0 : Int) ≤ j32l2.toInt := bj32l2_l
                have hF1 := hF1.trans (if_pos (show j32l2.toInt = 0 from gc41))
                exact (hK0 _ _ _).mp (J62  _ _ _   hF1 hP hD hS (lv_sub hl [0, 1, 3] rfl))
              · have gc41 := ai_ne c41
                have l41f_j32l2 : (1 : Int) ≤ j32l2.toInt := (by first | exact zg_l bj32l2_l gc41 (by decide) (by decide) | (have h1 := bj32l2_l; have h2 : (0 : Int32).toInt = 0 := (by decide); rw [h2] at gc41; omega))
                have hF1 := hF1.trans (if_neg (show ¬ (j32l2.toInt = 0) from  gc41))
                refine lv_aload_n hx hb dX8_isWord_44 rfl (lv_at hl 0 rfl) ?_
                refine va_get (D := (dC, dI)) (ci := 8) (v := .ref a0_12) (C := RX8) (T := TX8) (N := 40) hx hb hts zi_X8_isWord_8 hown hK hP 0 rfl rfl 12 (by decide) (hts (.fieldLink RX8 17 "WaxTurnsModel" "letters" "[I") (zm_X8_isWord_r1 (List.mem_of_getElem? (i := 3) rfl))) (fun _ h9 => h9) rfl dX8_isWord_45 ?_
                refine lv_iload_n hx hb dX8_isWord_48 rfl (lv_at hl 3 rfl) ?_
                refine va_iald hx hb hK hP 1 0 rfl rfl (ai_in bj32l3_l u37f_j32l3 (by decide) (by decide)) dX8_isWord_49 ?_
                refine lv_topi (fun x49 ex49 => ?_)
                have fqx49 := congrArg Int32.toInt ex49
                have hF1 := hF1.trans (fl_lt_eq (show x49.toInt = (fl_A fa0_12) (j32l3.toInt.toNat) from fqx49))
                refine lv_aload_n hx hb dX8_isWord_50 rfl (lv_at hl 1 rfl) ?_
                refine lv_iload_n hx hb dX8_isWord_51 rfl (lv_at hl 3 rfl) ?_
                refine va_calli (va_runV (As := [.int j32l3]) (rest := [.int x49]) ⟨hx, hb, hml, hown, hts⟩ (f_J0_charAt_5068e l dC dI H.size a1 na1 ca1 j32l3 bj32l3_l (by omega)) (cwV 1 hts gX8_isWord_J0_charAt_5068e rfl rfl rfl zd_J0_charAt_5068e ⟨Nat.le_of_ble_eq_true rfl, Nat.le_of_ble_eq_true rfl⟩) ⟨ax_blind (fun _ _ _ _ hq => sxc_W_same _ _ _ _ (hq)), sxc_recv hE0 hS, ax_preE (zp_P0 hP) (zp_K hK) (zp_D0 hD) (fun U hU hW => sxc_W_to hE0 hS.2.1 (zp_F0 hD hS hA) hU hW)⟩ rfl rfl hl.1 rfl (lv_room (Nat.le_of_ble_eq_true rfl)) dX8_isWord_52 ⟨Nat.le_of_ble_eq_true rfl, Nat.le_of_ble_eq_true rfl⟩) hS (fun q _ h => zp_F0 hD hS hA q h) (zp_F0 hD hS hA) (fun r52 u t H locs ht hvm hw hB hz1 hk1 hS1 => zo0 hB ht hP hD hk1 (zp_F0 hD hS hA) hS1 (fun hP hK1 hD hS => ?_))
                obtain ⟨hw, hfr52⟩ := hw
                have hc52 : (fl_A ca1) (j32l3.toInt.toNat) = r52.toInt := hfr52.symm
                have hF1 := hF1.trans (fl_lt_eq hc52.symm)
                refine lv_icmp_ne (tgt := 62) hx hb dX8_isWord_55 (by decide) (fun c55 => ?_) (fun c55 => ?_)
                · have gc55 := ai_ne c55
                  have hF1 := hF1.trans (if_neg (show ¬ (x49.toInt = r52.toInt) from  gc55))
                  exact (hK0 _ _ _).mp (J62  _ _ _   hF1 hP hD hS (lv_sub hl [0, 1, 3] rfl))
                · have gc55 := ai_eq c55
                  have hF1 := hF1.trans (if_pos (show x49.toInt = r52.toInt from gc55))
                  refine lv_iconst (v := 1) hx hb dX8_isWord_58 zk_iconst_1 ?_
                  refine lv_goto (tgt := 63) hx hb dX8_isWord_59 (by decide) ?_
                  exact (hK0 _ _ _).mp (J63 1 _ _ _  (Int.le_trans zq4 zq1) zq0 (by rw [show (1 : Int32).toInt = 1 from by decide]; exact hF1) hP hD hS (lv_sub hl [0, 1, 3] rfl))
        exact (hK0 _ _ _).mp (J32 9 0 1 _ _ _ (by first | decide +kernel | (have h1 : (0 : Int) ≤ (0 : Int32).toInt := zq5; have h2 : (0 : Int32).toInt ≤ (0 : Int) := zq6; omega)) zq5 (Int.le_trans zq6 zq20) (Int.le_trans zq4 zq1) zq0 (by rw [show (0 : Int32).toInt = 0 from by decide, show (1 : Int32).toInt = 1 from by decide]; exact hF0) hP hD hS (lv_sub hl [2, 3, 1, 0] rfl))
      · have gc23 := ai_ne c23
        have hF0 := hF0.trans (if_neg (show ¬ (a0_8.toInt = r20.toInt) from  gc23))
        refine lv_iconst (v := 0) hx hb dX8_isWord_26 zk_iconst_0 ?_
        have hFe : FX = 0 := hF0
        exact W.zret (v := 0) hx hb hr rfl (fun t ht hW => ⟨⟨0, (), rfl, ⟨⟨zq5, (Int.le_trans zq6 zq4)⟩, hFe.symm⟩, by rw [ht]; exact hP, va_K.moved hW.alike hK, hD⟩, hS.F ht⟩) hS.2.2 dX8_isWord_27

set_option maxHeartbeats 4000000 in
set_option maxRecDepth 100000 in
theorem fG_X8_takesWord (l : Launch) (dC : Nat → ClassId) (dI : Nat → Nat → Nat) (sz : Nat) (a0 : Nat) (a1 : Nat) (a0g_0 a0g_2 a0g_9 a0g_10 a0g_11 a0g_14 a0g_15 a0g_16 a0g_17 a0g_18 a0g_19 a0g_20 a0g_21 a0g_22 a0g_23 a0g_24 a0g_25 a0g_26 a0g_27 a0g_28 a0g_29 a0g_30 a0g_31 a0g_32 a0g_33 a0g_34 a0g_35 a0g_36 a0g_37 a0g_38 a0g_39 : Value) (a0_1 : Nat) (a0_3 : Int32) (a0_4 : Int32) (a0_5 : Int32) (a0_6 : Int32) (a0_7 : Int32) (a0_8 : Int32) (a0_12 : Nat) (ka0_12 : ClassId) (fa0_12 : Nat → Int32) (ka0_1 : ClassId) (fa0_1 : Nat → Int32) (na1 : Nat) (ca1 : Nat → Int32) (ba0_3_l : (0 : Int) ≤ a0_3.toInt) (ba0_3_u : a0_3.toInt ≤ (900 : Int)) (ba0_5_l : (0 : Int) ≤ a0_5.toInt) (ba0_5_u : a0_5.toInt ≤ (900 : Int)) (ba0_8_l : (0 : Int) ≤ a0_8.toInt) (ba0_8_u : a0_8.toInt ≤ (900 : Int)) : zm l yX8_takesWord wsX8_takesWord ({ frames := 5, cells := 0, slots := 0, locals := 108 }) [.ref a0, .ref a1] dC dI sz [(a0, .inr (8, [a0g_0, Value.ref a0_1, a0g_2, Value.int a0_3, Value.int a0_4, Value.int a0_5, Value.int a0_6, Value.int a0_7, Value.int a0_8, a0g_9, a0g_10, a0g_11, Value.ref a0_12, Value.int 0, a0g_14, a0g_15, a0g_16, a0g_17, a0g_18, a0g_19, a0g_20, a0g_21, a0g_22, a0g_23, a0g_24, a0g_25, a0g_26, a0g_27, a0g_28, a0g_29, a0g_30, a0g_31, a0g_32, a0g_33, a0g_34, a0g_35, a0g_36, a0g_37, a0g_38, a0g_39])), (a0_12, .inl (ka0_12, 8, .inl (fa0_12))), (a0_1, .inl (ka0_1, 900, .inl (fa0_1)))] [(ka0_12, .int), (ka0_1, .int)] (fun A U => sxc_W a1 na1 ca1 A U) (fun A => va_Qi (fun (r : Int32) (_ : Unit) => ((r = 1) ∨ (r = 0)) ∧ r.toInt = (FfG_X8_takesWord a0_3.toInt a0_4.toInt a0_5.toInt a0_6.toInt a0_7.toInt a0_8.toInt (fl_A fa0_12) (fl_A fa0_1) (na1 : Int) (fl_A ca1)).1) (fun (_ : Unit) (t : State) => ∃ na0_4 : Int32, ∃ na0_5 : Int32, ∃ na0_6 : Int32, ∃ na0_7 : Int32, ∃ na0_8 : Int32, ∃ nfa0_12 : Nat → Int32, ((0 : Int) ≤ na0_5.toInt ∧ na0_5.toInt ≤ 900) ∧ ((0 : Int) ≤ na0_8.toInt ∧ na0_8.toInt ≤ 900) ∧ (a0_5.toInt ≤ na0_5.toInt ∧ ((na0_5.toInt = a0_5.toInt ∧ na0_6.toInt = a0_6.toInt) ∨ na0_6.toInt ≠ 59 ∨ a0_5.toInt < na0_5.toInt)) ∧ ((FfG_X8_takesWord a0_3.toInt a0_4.toInt a0_5.toInt a0_6.toInt a0_7.toInt a0_8.toInt (fl_A fa0_12) (fl_A fa0_1) (na1 : Int) (fl_A ca1)).2 = (na0_4.toInt, na0_5.toInt, na0_6.toInt, na0_7.toInt, na0_8.toInt, (fl_A nfa0_12))) ∧ ax_B dC dI A [(a0, .inr (8, [a0g_0, Value.ref a0_1, a0g_2, Value.int a0_3, Value.int na0_4, Value.int na0_5, Value.int na0_6, Value.int na0_7, Value.int na0_8, a0g_9, a0g_10, a0g_11, Value.ref a0_12, Value.int 0, a0g_14, a0g_15, a0g_16, a0g_17, a0g_18, a0g_19, a0g_20, a0g_21, a0g_22, a0g_23, a0g_24, a0g_25, a0g_26, a0g_27, a0g_28, a0g_29, a0g_30, a0g_31, a0g_32, a0g_33, a0g_34, a0g_35, a0g_36, a0g_37, a0g_38, a0g_39])), (a0_12, .inl (ka0_12, 8, .inl (nfa0_12))), (a0_1, .inl (ka0_1, 900, .inl (fa0_1)))] [(ka0_12, .int), (ka0_1, .int)] t) A) := by
  refine zh (cc := cX8_takesWord) (maxL := 2) (ret := (some .boolean)) zn_RX8 rfl (Nat.le_of_ble_eq_true rfl) (fun p e s m below meth c A ls hx hb hml hr hts (hown : s.vm.findClass RX8 = some m.cls) hlocks hA hS hP hK hD hE (hl : lv_has ls 2 [(0, .ref a0), (1, .ref a1)]) => ?_)
  have hE0 := hE
  generalize hFX : FfG_X8_takesWord a0_3.toInt a0_4.toInt a0_5.toInt a0_6.toInt a0_7.toInt a0_8.toInt (fl_A fa0_12) (fl_A fa0_1) (na1 : Int) (fl_A ca1) = FX at ⊢
  have hF0 := hFX.symm.trans (FfG_X8_takesWord.eq_1 a0_3.toInt a0_4.toInt a0_5.toInt a0_6.toInt a0_7.toInt a0_8.toInt (fl_A fa0_12) (fl_A fa0_1) (na1 : Int) (fl_A ca1))
  refine lv_aload_n hx hb dX8_takesWord_0 rfl (lv_at hl 0 rfl) ?_
  refine lv_aload_n hx hb dX8_takesWord_1 rfl (lv_at hl 1 rfl) ?_
  have hKc := hK.sub (tys' := [(ka0_12, .int)]) [0] rfl
  refine va_calli (va_runV (As := [.ref a1]) (rest := []) ⟨hx, hb, hml, hown, hts⟩ (fG_X8_isWord l dC dI s.heap.size a0 a1 a0g_0 (Value.ref a0_1) a0g_2 (Value.int a0_3) (Value.int a0_4) (Value.int a0_5) (Value.int a0_7) a0g_9 a0g_10 a0g_11 a0g_14 a0g_15 a0g_16 a0g_17 a0g_18 a0g_19 a0g_20 a0g_21 a0g_22 a0g_23 a0g_24 a0g_25 a0g_26 a0g_27 a0g_28 a0g_29 a0g_30 a0g_31 a0g_32 a0g_33 a0g_34 a0g_35 a0g_36 a0g_37 a0g_38 a0g_39 a0_6 a0_8 a0_12 ka0_12 fa0_12 na1 ca1 ba0_8_l ba0_8_u) (cwV 1 hts gX8_takesWord_X8_isWord rfl rfl rfl zd_X8_isWord ⟨Nat.le_of_ble_eq_true rfl, Nat.le_of_ble_eq_true rfl⟩) ⟨ax_blind (fun _ _ _ _ hq => sxc_W_same _ _ _ _ (hq)), zr_8 hKc (zp_P2 hP) (q0 := 0) rfl, ax_preE (zp_P2 hP) hKc (zp_D2 hD) (fun U hU hW => sxc_W_to hE0 hS.2.1 (zp_F2 hD hS hA) hU hW)⟩ rfl rfl hl.1 rfl (lv_room (Nat.le_of_ble_eq_true rfl)) dX8_takesWord_2 ⟨Nat.le_of_ble_eq_true rfl, Nat.le_of_ble_eq_true rfl⟩) hS (fun q _ h => zp_F2 hD hS hA q h) (zp_F2 hD hS hA) (fun r2 u t H locs ht hvm hw hB hz1 hk1 hS1 => zo2 hB ht hP hD hk1 (zp_F2 hD hS hA) hS1 (fun hP hK1 hD hS => ?_))
  obtain ⟨hw, hfr2⟩ := hw
  have hc2 : FfG_X8_isWord a0_6.toInt a0_8.toInt (fl_A fa0_12) (na1 : Int) (fl_A ca1) = r2.toInt := hfr2.symm
  have hF0 := hF0.trans (fl_lt_eq hc2.symm)
  have hw : (0 : Int) ≤ r2.toInt ∧ r2.toInt ≤ (1 : Int) := hw
  obtain ⟨h2_0, h2_1⟩ := hw
  refine lv_if_ne (tgt := 10) hx hb dX8_takesWord_5 (by decide) (fun c5 => ?_) (fun c5 => ?_)
  · have gc5 := ai_ne c5
    have l5t_r2 : (1 : Int) ≤ r2.toInt := (by first | exact zg_l h2_0 gc5 (by decide) (by decide) | (have h1 := h2_0; have h2 : (0 : Int32).toInt = 0 := (by decide); rw [h2] at gc5; omega))
    have hF0 := hF0.trans (if_neg (show ¬ (r2.toInt = 0) from  gc5))
    refine lv_aload_n hx hb dX8_takesWord_10 rfl (lv_at hl 0 rfl) ?_
    refine zc_cutc (wc := [(a0, .inr (8, [a0g_0, Value.ref a0_1, a0g_2, Value.int a0_3, Value.int a0_4, Value.int a0_5, Value.int a0_6, Value.int a0_7, Value.int a0_8, a0g_9, a0g_10, a0g_11, Value.ref a0_12, Value.int 0, a0g_14, a0g_15, a0g_16, a0g_17, a0g_18, a0g_19, a0g_20, a0g_21, a0g_22, a0g_23, a0g_24, a0g_25, a0g_26, a0g_27, a0g_28, a0g_29, a0g_30, a0g_31, a0g_32, a0g_33, a0g_34, a0g_35, a0g_36, a0g_37, a0g_38, a0g_39])), (a0_1, .inl (ka0_1, 900, .inl (fa0_1))), (a0_12, .inl (ka0_12, 8, .inl (fa0_12)))]) hP hD hS hA [0, 2, 1] (by decide +kernel) rfl (fun hPc hDc hFc hCc => ?_)
    have hKc := hK.sub (tys' := [(ka0_1, .int), (ka0_12, .int)]) [1, 0] rfl
    refine va_callv (va_runV (As := []) (rest := []) ⟨hx, hb, hml, hown, hts⟩ (f_X8_next l dC dI H.size a0 a0g_0 a0g_2 a0g_9 a0g_10 a0g_11 (Value.int 0) a0g_14 a0g_15 a0g_16 a0g_17 a0g_18 a0g_19 a0g_20 a0g_21 a0g_22 a0g_23 a0g_24 a0g_25 a0g_26 a0g_27 a0g_28 a0g_29 a0g_30 a0g_31 a0g_32 a0g_33 a0g_34 a0g_35 a0g_36 a0g_37 a0g_38 a0g_39 a0_1 a0_3 a0_4 a0_5 a0_6 a0_7 a0_8 a0_12 ka0_1 fa0_1 ka0_12 fa0_12 ba0_3_l ba0_3_u ba0_5_l ba0_5_u ba0_8_l ba0_8_u) (cwV 0 hts gX8_takesWord_X8_next rfl rfl rfl zd_X8_next ⟨Nat.le_of_ble_eq_true rfl, Nat.le_of_ble_eq_true rfl⟩) ⟨ax_blind (fun _ _ _ _ _ => trivial), zr_8 hKc hPc (q0 := 0) rfl, ax_pre hPc hKc hDc (fun _ _ => trivial)⟩ rfl rfl hl.1 rfl (lv_room (Nat.le_of_ble_eq_true rfl)) dX8_takesWord_11 ⟨Nat.le_of_ble_eq_true rfl, Nat.le_of_ble_eq_true rfl⟩) hS (fun q _ h => hFc q h) hFc (fun u t H locs ht hvm hw => zx_6 (fun v11na0_4 v11na0_5 v11na0_6 v11na0_7 v11na0_8 v11nfa0_12 => zy_5 (fun bv11na0_5 bv11na0_8 hraw11_0 hraw11_1 hraw11_2 hB hz1 hk1 hS1 => zo hB ht hS1 (fun hP1 hK1 hD1 hS => ?_))))
    refine zc_backc (w := [(a0, .inr (8, [a0g_0, Value.ref a0_1, a0g_2, Value.int a0_3, Value.int v11na0_4, Value.int v11na0_5, Value.int v11na0_6, Value.int v11na0_7, Value.int v11na0_8, a0g_9, a0g_10, a0g_11, Value.ref a0_12, Value.int 0, a0g_14, a0g_15, a0g_16, a0g_17, a0g_18, a0g_19, a0g_20, a0g_21, a0g_22, a0g_23, a0g_24, a0g_25, a0g_26, a0g_27, a0g_28, a0g_29, a0g_30, a0g_31, a0g_32, a0g_33, a0g_34, a0g_35, a0g_36, a0g_37, a0g_38, a0g_39])), (a0_12, .inl (ka0_12, 8, .inl (v11nfa0_12))), (a0_1, .inl (ka0_1, 900, .inl (fa0_1)))]) hP hD hCc hk1 hFc hP1 hD1 [.inr 0, .inr 2, .inr 1] (by decide +kernel) rfl (fun hP hD => ?_)
    have hc11 : Ff_X8_next a0_3.toInt a0_5.toInt (fl_A fa0_1) (fl_A fa0_12) = (v11na0_4.toInt, v11na0_5.toInt, v11na0_6.toInt, v11na0_7.toInt, v11na0_8.toInt, (fl_A v11nfa0_12)) := hraw11_2
    have hF0 := hF0.trans (fl_c6_eq hc11)
    refine lv_iconst (v := 1) hx hb dX8_takesWord_14 zk_iconst_1 ?_
    have hFe : FX = (1, v11na0_4.toInt, v11na0_5.toInt, v11na0_6.toInt, v11na0_7.toInt, v11na0_8.toInt, (fl_A v11nfa0_12)) := hF0
    exact W.zret (v := 1) hx hb hr rfl (fun t ht hW => ⟨⟨1, (), rfl, ⟨(Or.inl (rfl)), (congrArg Prod.fst hFe).symm⟩, v11na0_4, v11na0_5, v11na0_6, v11na0_7, v11na0_8, v11nfa0_12, ⟨bv11na0_5.1, bv11na0_5.2⟩, ⟨bv11na0_8.1, bv11na0_8.2⟩, (em_n hraw11_1), (congrArg Prod.snd hFe), by rw [ht]; exact hP, va_K.moved hW.alike hK, hD⟩, hS.F ht⟩) hS.2.2 dX8_takesWord_15
  · have gc5 := ai_eq c5
    have u5f_r2 : r2.toInt ≤ (0 : Int) := Int.le_trans (Int.le_of_eq gc5) zq6
    have l5f_r2 : (0 : Int) ≤ r2.toInt := h2_0
    have hF0 := hF0.trans (if_pos (show r2.toInt = 0 from gc5))
    refine lv_iconst (v := 0) hx hb dX8_takesWord_8 zk_iconst_0 ?_
    have hFe : FX = (0, a0_4.toInt, a0_5.toInt, a0_6.toInt, a0_7.toInt, a0_8.toInt, (fl_A fa0_12)) := hF0
    exact W.zret (v := 0) hx hb hr rfl (fun t ht hW => ⟨⟨0, (), rfl, ⟨(Or.inr (rfl)), (congrArg Prod.fst hFe).symm⟩, a0_4, a0_5, a0_6, a0_7, a0_8, fa0_12, ⟨ba0_5_l, ba0_5_u⟩, ⟨ba0_8_l, ba0_8_u⟩, (em_r _ _), (congrArg Prod.snd hFe), by rw [ht]; exact hP, va_K.moved hW.alike hK, hD⟩, hS.F ht⟩) hS.2.2 dX8_takesWord_9

set_option maxHeartbeats 4000000 in
set_option maxRecDepth 100000 in
theorem fF_X8_must (l : Launch) (dC : Nat → ClassId) (dI : Nat → Nat → Nat) (sz : Nat) (a0 : Nat) (a1 : Nat) (a0g_0 a0g_1 a0g_2 a0g_3 a0g_4 a0g_5 a0g_6 a0g_7 a0g_8 a0g_9 a0g_10 a0g_11 a0g_12 a0g_14 a0g_15 a0g_16 a0g_17 a0g_18 a0g_19 a0g_20 a0g_21 a0g_22 a0g_23 a0g_24 a0g_25 a0g_26 a0g_27 a0g_28 a0g_29 a0g_30 a0g_31 a0g_32 a0g_33 a0g_34 a0g_35 a0g_36 a0g_37 a0g_38 a0g_39 : Value) (na1 : Nat) (ca1 : Nat → Int32)  : zm l yX8_must wsX8_must ({ frames := 0, cells := 0, slots := 0, locals := 0 }) [.ref a0, .ref a1] dC dI sz [(a0, .inr (8, [a0g_0, a0g_1, a0g_2, a0g_3, a0g_4, a0g_5, a0g_6, a0g_7, a0g_8, a0g_9, a0g_10, a0g_11, a0g_12, Value.int 1, a0g_14, a0g_15, a0g_16, a0g_17, a0g_18, a0g_19, a0g_20, a0g_21, a0g_22, a0g_23, a0g_24, a0g_25, a0g_26, a0g_27, a0g_28, a0g_29, a0g_30, a0g_31, a0g_32, a0g_33, a0g_34, a0g_35, a0g_36, a0g_37, a0g_38, a0g_39]))] [] (fun A U => sxc_W a1 na1 ca1 A U) (fun A => va_Qv (fun (_ : Unit) => True) (fun (_ : Unit) (t : State) => ax_B dC dI A [(a0, .inr (8, [a0g_0, a0g_1, a0g_2, a0g_3, a0g_4, a0g_5, a0g_6, a0g_7, a0g_8, a0g_9, a0g_10, a0g_11, a0g_12, Value.int 1, a0g_14, a0g_15, a0g_16, a0g_17, a0g_18, a0g_19, a0g_20, a0g_21, a0g_22, a0g_23, a0g_24, a0g_25, a0g_26, a0g_27, a0g_28, a0g_29, a0g_30, a0g_31, a0g_32, a0g_33, a0g_34, a0g_35, a0g_36, a0g_37, a0g_38, a0g_39]))] [] t) A) := by
  refine zh (cc := cX8_must) (maxL := 2) (ret := none) zn_RX8 rfl (Nat.le_of_ble_eq_true rfl) (fun p e s m below meth c A ls hx hb hml hr hts (hown : s.vm.findClass RX8 = some m.cls) hlocks hA hS hP hK hD hE (hl : lv_has ls 2 [(0, .ref a0), (1, .ref a1)]) => ?_)
  have hE0 := hE
  refine lv_aload_n hx hb dX8_must_0 rfl (lv_at hl 0 rfl) ?_
  refine va_get (D := (dC, dI)) (ci := 8) (v := .int 1) (C := RX8) (T := TX8) (N := 40) hx hb hts zi_X8_must_8 hown hK hP 0 rfl rfl 13 (by decide) (hts (.fieldLink RX8 97 "WaxTurnsModel" "failed" "Z") (zm_X8_must_r1 (List.mem_of_getElem? (i := 0) rfl))) (fun _ h9 => h9) rfl dX8_must_1 ?_
  refine lv_if_ne (tgt := 24) hx hb dX8_must_4 (by decide) (fun _ => ?_) (fun c4 => absurd c4 (by decide +kernel))
  exact W.vret hx hb hr (fun t ht hW => ⟨⟨(), rfl, trivial, by rw [ht]; exact hP, va_K.moved hW.alike hK, hD⟩, hS.F ht⟩) hS.2.2 dX8_must_24

set_option maxHeartbeats 4000000 in
set_option maxRecDepth 100000 in
theorem fG_X8_must (l : Launch) (dC : Nat → ClassId) (dI : Nat → Nat → Nat) (sz : Nat) (a0 : Nat) (a1 : Nat) (a0g_0 a0g_2 a0g_11 a0g_14 a0g_15 a0g_16 a0g_17 a0g_18 a0g_19 a0g_20 a0g_21 a0g_22 a0g_23 a0g_24 a0g_25 a0g_26 a0g_27 a0g_28 a0g_29 a0g_30 a0g_31 a0g_32 a0g_33 a0g_34 a0g_35 a0g_36 a0g_37 a0g_38 a0g_39 : Value) (a0_1 : Nat) (a0_3 : Int32) (a0_4 : Int32) (a0_5 : Int32) (a0_6 : Int32) (a0_7 : Int32) (a0_8 : Int32) (a0_9 : Int32) (a0_10 : Int32) (a0_12 : Nat) (ka0_12 : ClassId) (fa0_12 : Nat → Int32) (ka0_1 : ClassId) (fa0_1 : Nat → Int32) (na1 : Nat) (ca1 : Nat → Int32) (ba0_3_l : (0 : Int) ≤ a0_3.toInt) (ba0_3_u : a0_3.toInt ≤ (900 : Int)) (ba0_5_l : (0 : Int) ≤ a0_5.toInt) (ba0_5_u : a0_5.toInt ≤ (900 : Int)) (ba0_8_l : (0 : Int) ≤ a0_8.toInt) (ba0_8_u : a0_8.toInt ≤ (900 : Int)) : zm l yX8_must wsX8_must ({ frames := 6, cells := 0, slots := 0, locals := 129 }) [.ref a0, .ref a1] dC dI sz [(a0, .inr (8, [a0g_0, Value.ref a0_1, a0g_2, Value.int a0_3, Value.int a0_4, Value.int a0_5, Value.int a0_6, Value.int a0_7, Value.int a0_8, Value.int a0_9, Value.int a0_10, a0g_11, Value.ref a0_12, Value.int 0, a0g_14, a0g_15, a0g_16, a0g_17, a0g_18, a0g_19, a0g_20, a0g_21, a0g_22, a0g_23, a0g_24, a0g_25, a0g_26, a0g_27, a0g_28, a0g_29, a0g_30, a0g_31, a0g_32, a0g_33, a0g_34, a0g_35, a0g_36, a0g_37, a0g_38, a0g_39])), (a0_12, .inl (ka0_12, 8, .inl (fa0_12))), (a0_1, .inl (ka0_1, 900, .inl (fa0_1)))] [(ka0_12, .int), (ka0_1, .int)] (fun A U => sxc_W a1 na1 ca1 A U) (fun A => va_Qv (fun (_ : Unit) => True) (fun (_ : Unit) (t : State) => ∃ na0_4 : Int32, ∃ na0_5 : Int32, ∃ na0_6 : Int32, ∃ na0_7 : Int32, ∃ na0_8 : Int32, ∃ na0_9 : Int32, ∃ na0_10 : Int32, ∃ na0_13 : Int32, ∃ nfa0_12 : Nat → Int32, ((0 : Int) ≤ na0_5.toInt ∧ na0_5.toInt ≤ 900) ∧ ((0 : Int) ≤ na0_8.toInt ∧ na0_8.toInt ≤ 900) ∧ ((0 : Int) ≤ na0_13.toInt ∧ na0_13.toInt ≤ 1) ∧ (na0_13 = 1 ∨ na0_13 = 0) ∧ (a0_5.toInt ≤ na0_5.toInt ∧ ((na0_5.toInt = a0_5.toInt ∧ na0_6.toInt = a0_6.toInt) ∨ na0_6.toInt ≠ 59 ∨ a0_5.toInt < na0_5.toInt)) ∧ (FfG_X8_must a0_3.toInt a0_4.toInt a0_5.toInt a0_6.toInt a0_7.toInt a0_8.toInt a0_9.toInt a0_10.toInt (fl_A fa0_12) (fl_A fa0_1) (na1 : Int) (fl_A ca1) = (na0_4.toInt, na0_5.toInt, na0_6.toInt, na0_7.toInt, na0_8.toInt, na0_9.toInt, na0_10.toInt, na0_13.toInt, (fl_A nfa0_12))) ∧ ax_B dC dI A [(a0, .inr (8, [a0g_0, Value.ref a0_1, a0g_2, Value.int a0_3, Value.int na0_4, Value.int na0_5, Value.int na0_6, Value.int na0_7, Value.int na0_8, Value.int na0_9, Value.int na0_10, a0g_11, Value.ref a0_12, Value.int na0_13, a0g_14, a0g_15, a0g_16, a0g_17, a0g_18, a0g_19, a0g_20, a0g_21, a0g_22, a0g_23, a0g_24, a0g_25, a0g_26, a0g_27, a0g_28, a0g_29, a0g_30, a0g_31, a0g_32, a0g_33, a0g_34, a0g_35, a0g_36, a0g_37, a0g_38, a0g_39])), (a0_12, .inl (ka0_12, 8, .inl (nfa0_12))), (a0_1, .inl (ka0_1, 900, .inl (fa0_1)))] [(ka0_12, .int), (ka0_1, .int)] t) A) := by
  refine zh (cc := cX8_must) (maxL := 2) (ret := none) zn_RX8 rfl (Nat.le_of_ble_eq_true rfl) (fun p e s m below meth c A ls hx hb hml hr hts (hown : s.vm.findClass RX8 = some m.cls) hlocks hA hS hP hK hD hE (hl : lv_has ls 2 [(0, .ref a0), (1, .ref a1)]) => ?_)
  have hE0 := hE
  generalize hFX : FfG_X8_must a0_3.toInt a0_4.toInt a0_5.toInt a0_6.toInt a0_7.toInt a0_8.toInt a0_9.toInt a0_10.toInt (fl_A fa0_12) (fl_A fa0_1) (na1 : Int) (fl_A ca1) = FX at ⊢
  have hF0 := hFX.symm.trans (FfG_X8_must.eq_1 a0_3.toInt a0_4.toInt a0_5.toInt a0_6.toInt a0_7.toInt a0_8.toInt a0_9.toInt a0_10.toInt (fl_A fa0_12) (fl_A fa0_1) (na1 : Int) (fl_A ca1))
  refine lv_aload_n hx hb dX8_must_0 rfl (lv_at hl 0 rfl) ?_
  refine va_get (D := (dC, dI)) (ci := 8) (v := .int 0) (C := RX8) (T := TX8) (N := 40) hx hb hts zi_X8_must_8 hown hK hP 0 rfl rfl 13 (by decide) (hts (.fieldLink RX8 97 "WaxTurnsModel" "failed" "Z") (zm_X8_must_r1 (List.mem_of_getElem? (i := 0) rfl))) (fun _ h9 => h9) rfl dX8_must_1 ?_
  refine lv_if_ne (tgt := 24) hx hb dX8_must_4 (by decide) (fun c4 => absurd (by decide +kernel) c4) (fun _ => ?_)
  refine lv_aload_n hx hb dX8_must_7 rfl (lv_at hl 0 rfl) ?_
  refine lv_aload_n hx hb dX8_must_8 rfl (lv_at hl 1 rfl) ?_
  have hKc := hK.sub (tys' := [(ka0_12, .int), (ka0_1, .int)]) [0, 1] rfl
  refine va_calli (va_runV (As := [.ref a1]) (rest := []) ⟨hx, hb, hml, hown, hts⟩ (fG_X8_takesWord l dC dI s.heap.size a0 a1 a0g_0 a0g_2 (Value.int a0_9) (Value.int a0_10) a0g_11 a0g_14 a0g_15 a0g_16 a0g_17 a0g_18 a0g_19 a0g_20 a0g_21 a0g_22 a0g_23 a0g_24 a0g_25 a0g_26 a0g_27 a0g_28 a0g_29 a0g_30 a0g_31 a0g_32 a0g_33 a0g_34 a0g_35 a0g_36 a0g_37 a0g_38 a0g_39 a0_1 a0_3 a0_4 a0_5 a0_6 a0_7 a0_8 a0_12 ka0_12 fa0_12 ka0_1 fa0_1 na1 ca1 ba0_3_l ba0_3_u ba0_5_l ba0_5_u ba0_8_l ba0_8_u) (cwV 1 hts gX8_must_X8_takesWord rfl rfl rfl zd_X8_takesWord ⟨Nat.le_of_ble_eq_true rfl, Nat.le_of_ble_eq_true rfl⟩) ⟨ax_blind (fun _ _ _ _ hq => sxc_W_same _ _ _ _ (hq)), zr_8 hKc (zp_P3 hP) (q0 := 0) rfl, ax_preE (zp_P3 hP) hKc (zp_D3 hD) (fun U hU hW => sxc_W_to hE0 hS.2.1 (zp_F3 hD hS hA) hU hW)⟩ rfl rfl hl.1 rfl (lv_room (Nat.le_of_ble_eq_true rfl)) dX8_must_9 ⟨Nat.le_of_ble_eq_true rfl, Nat.le_of_ble_eq_true rfl⟩) hS (fun q _ h => zp_F3 hD hS hA q h) (zp_F3 hD hS hA) (fun r9 u t H locs ht hvm hw => zx_6 (fun v9na0_4 v9na0_5 v9na0_6 v9na0_7 v9na0_8 v9nfa0_12 => zy_4 (fun bv9na0_5 bv9na0_8 hraw9_0 hraw9_1 hB hz1 hk1 hS1 => zo3 hB ht hP hD hk1 (zp_F3 hD hS hA) hS1 (fun hP hK1 hD hS => ?_))))
  obtain ⟨hw, hfr9⟩ := hw
  have hc9 : FfG_X8_takesWord a0_3.toInt a0_4.toInt a0_5.toInt a0_6.toInt a0_7.toInt a0_8.toInt (fl_A fa0_12) (fl_A fa0_1) (na1 : Int) (fl_A ca1) = (r9.toInt, v9na0_4.toInt, v9na0_5.toInt, v9na0_6.toInt, v9na0_7.toInt, v9na0_8.toInt, (fl_A v9nfa0_12)) := Prod.ext hfr9.symm hraw9_1
  have hF0 := hF0.trans (fl_c7_eq hc9)
  rcases hw with hw | hw
  · subst hw
    have hF0 := hF0.trans (if_pos (by decide))
    refine lv_if_ne (tgt := 24) hx hb dX8_must_12 (by decide) (fun _ => ?_) (fun c12 => absurd c12 (by decide +kernel))
    have hFe : FX = (v9na0_4.toInt, v9na0_5.toInt, v9na0_6.toInt, v9na0_7.toInt, v9na0_8.toInt, a0_9.toInt, a0_10.toInt, 0, (fl_A v9nfa0_12)) := hF0
    exact W.vret hx hb hr (fun t ht hW => ⟨⟨(), rfl, trivial, v9na0_4, v9na0_5, v9na0_6, v9na0_7, v9na0_8, a0_9, a0_10, 0, v9nfa0_12, ⟨bv9na0_5.1, bv9na0_5.2⟩, ⟨bv9na0_8.1, bv9na0_8.2⟩, ⟨zq5, Int.le_trans zq6 (by decide)⟩, (Or.inr rfl), hraw9_0, hFe, by rw [ht]; exact hP, va_K.moved hW.alike hK, hD⟩, hS.F ht⟩) hS.2.2 dX8_must_24
  · subst hw
    have hF0 := hF0.trans (if_neg (by decide))
    refine lv_if_ne (tgt := 24) hx hb dX8_must_12 (by decide) (fun c12 => absurd (by decide +kernel) c12) (fun _ => ?_)
    refine lv_aload_n hx hb dX8_must_15 rfl (lv_at hl 0 rfl) ?_
    refine lv_iconst (v := 1) hx hb dX8_must_16 zk_iconst_1 ?_
    refine lv_aload_n hx hb dX8_must_17 rfl (lv_at hl 0 rfl) ?_
    refine va_get (D := (dC, dI)) (ci := 8) (v := .int v9na0_4) (C := RX8) (T := TX8) (N := 40) hx hb hts zi_X8_must_8 hown hK hP 0 rfl rfl 4 (by decide) (hts (.fieldLink RX8 78 "WaxTurnsModel" "at" "I") (zm_X8_must_r1 (List.mem_of_getElem? (i := 1) rfl))) (fun _ h9 => h9) rfl dX8_must_18 ?_
    refine va_callv (va_runV (As := [.int 1, .int v9na0_4]) (rest := []) ⟨hx, hb, hml, hown, hts⟩ (fG_X8_wrong l dC dI H.size a0 1 v9na0_4 a0g_0 (Value.ref a0_1) a0g_2 (Value.int a0_3) (Value.int v9na0_4) (Value.int v9na0_5) (Value.int v9na0_6) (Value.int v9na0_7) (Value.int v9na0_8) a0g_11 (Value.ref a0_12) a0g_14 a0g_15 a0g_16 a0g_17 a0g_18 a0g_19 a0g_20 a0g_21 a0g_22 a0g_23 a0g_24 a0g_25 a0g_26 a0g_27 a0g_28 a0g_29 a0g_30 a0g_31 a0g_32 a0g_33 a0g_34 a0g_35 a0g_36 a0g_37 a0g_38 a0g_39 a0_9 a0_10 ) (cwV 2 hts gX8_must_X8_wrong rfl rfl rfl zd_X8_wrong ⟨Nat.le_of_ble_eq_true rfl, Nat.le_of_ble_eq_true rfl⟩) ⟨ax_blind (fun _ _ _ _ _ => trivial), zr_8 (zp_K hK) (zp_P1 hP) (q0 := 0) rfl, ax_pre (zp_P1 hP) (zp_K hK) (zp_D1 hD) (fun _ _ => trivial)⟩ rfl rfl hl.1 rfl (lv_room (Nat.le_of_ble_eq_true rfl)) dX8_must_21 ⟨Nat.le_of_ble_eq_true rfl, Nat.le_of_ble_eq_true rfl⟩) hS (fun q _ h => zp_F1 hD hS hA q h) (zp_F1 hD hS hA) (fun u t H locs ht hvm hw => zx_2 (fun v21na0_9 v21na0_10 => zy_1 (fun hraw21_0 hB hz1 hk1 hS1 => zo1 hB ht hP hD hk1 (zp_F1 hD hS hA) hS1 (fun hP hK1 hD hS => ?_))))
    rw [show (1 : Int32).toInt = 1 from by decide] at hraw21_0
    have hc21 : FfG_X8_wrong 1 v9na0_4.toInt = (v21na0_9.toInt, v21na0_10.toInt) := hraw21_0
    have hF0 := hF0.trans (fl_c2_eq hc21)
    have hFe : FX = (v9na0_4.toInt, v9na0_5.toInt, v9na0_6.toInt, v9na0_7.toInt, v9na0_8.toInt, v21na0_9.toInt, v21na0_10.toInt, 1, (fl_A v9nfa0_12)) := hF0
    exact W.vret hx hb hr (fun t ht hW => ⟨⟨(), rfl, trivial, v9na0_4, v9na0_5, v9na0_6, v9na0_7, v9na0_8, v21na0_9, v21na0_10, 1, v9nfa0_12, ⟨bv9na0_5.1, bv9na0_5.2⟩, ⟨bv9na0_8.1, bv9na0_8.2⟩, ⟨Int.le_trans (by decide) zq1, zq0⟩, (Or.inl rfl), hraw9_0, hFe, by rw [ht]; exact hP, va_K.moved hW.alike hK, hD⟩, hS.F ht⟩) hS.2.2 dX8_must_24

set_option maxHeartbeats 4000000 in
set_option maxRecDepth 100000 in
theorem fF_X8_pass (l : Launch) (dC : Nat → ClassId) (dI : Nat → Nat → Nat) (sz : Nat) (a0 : Nat) (a0g_0 a0g_1 a0g_2 a0g_3 a0g_4 a0g_5 a0g_6 a0g_7 a0g_8 a0g_9 a0g_10 a0g_11 a0g_12 a0g_14 a0g_15 a0g_16 a0g_17 a0g_18 a0g_19 a0g_20 a0g_21 a0g_22 a0g_23 a0g_24 a0g_25 a0g_26 a0g_27 a0g_28 a0g_29 a0g_30 a0g_31 a0g_32 a0g_33 a0g_34 a0g_35 a0g_36 a0g_37 a0g_38 a0g_39 : Value)  : zm l yX8_pass wsX8_pass ({ frames := 0, cells := 0, slots := 0, locals := 0 }) [.ref a0] dC dI sz [(a0, .inr (8, [a0g_0, a0g_1, a0g_2, a0g_3, a0g_4, a0g_5, a0g_6, a0g_7, a0g_8, a0g_9, a0g_10, a0g_11, a0g_12, Value.int 1, a0g_14, a0g_15, a0g_16, a0g_17, a0g_18, a0g_19, a0g_20, a0g_21, a0g_22, a0g_23, a0g_24, a0g_25, a0g_26, a0g_27, a0g_28, a0g_29, a0g_30, a0g_31, a0g_32, a0g_33, a0g_34, a0g_35, a0g_36, a0g_37, a0g_38, a0g_39]))] [] (fun A _ => True) (fun A => va_Qv (fun (_ : Unit) => True) (fun (_ : Unit) (t : State) => ax_B dC dI A [(a0, .inr (8, [a0g_0, a0g_1, a0g_2, a0g_3, a0g_4, a0g_5, a0g_6, a0g_7, a0g_8, a0g_9, a0g_10, a0g_11, a0g_12, Value.int 1, a0g_14, a0g_15, a0g_16, a0g_17, a0g_18, a0g_19, a0g_20, a0g_21, a0g_22, a0g_23, a0g_24, a0g_25, a0g_26, a0g_27, a0g_28, a0g_29, a0g_30, a0g_31, a0g_32, a0g_33, a0g_34, a0g_35, a0g_36, a0g_37, a0g_38, a0g_39]))] [] t) A) := by
  refine zh (cc := cX8_pass) (maxL := 1) (ret := none) zn_RX8 rfl (Nat.le_of_ble_eq_true rfl) (fun p e s m below meth c A ls hx hb hml hr hts (hown : s.vm.findClass RX8 = some m.cls) hlocks hA hS hP hK hD hE (hl : lv_has ls 1 [(0, .ref a0)]) => ?_)
  refine lv_aload_n hx hb dX8_pass_0 rfl (lv_at hl 0 rfl) ?_
  refine va_get (D := (dC, dI)) (ci := 8) (v := .int 1) (C := RX8) (T := TX8) (N := 40) hx hb hts zi_X8_pass_8 hown hK hP 0 rfl rfl 13 (by decide) (hts (.fieldLink RX8 97 "WaxTurnsModel" "failed" "Z") (List.mem_cons_of_mem _ (List.mem_append_left _ (List.mem_of_getElem? (i := 0) rfl)))) (fun _ h9 => h9) rfl dX8_pass_1 ?_
  refine lv_if_ne (tgt := 11) hx hb dX8_pass_4 (by decide) (fun _ => ?_) (fun c4 => absurd c4 (by decide +kernel))
  exact W.vret hx hb hr (fun t ht hW => ⟨⟨(), rfl, trivial, by rw [ht]; exact hP, va_K.moved hW.alike hK, hD⟩, hS.F ht⟩) hS.2.2 dX8_pass_11

set_option maxHeartbeats 4000000 in
set_option maxRecDepth 100000 in
theorem fG_X8_pass (l : Launch) (dC : Nat → ClassId) (dI : Nat → Nat → Nat) (sz : Nat) (a0 : Nat) (a0g_0 a0g_2 a0g_9 a0g_10 a0g_11 a0g_14 a0g_15 a0g_16 a0g_17 a0g_18 a0g_19 a0g_20 a0g_21 a0g_22 a0g_23 a0g_24 a0g_25 a0g_26 a0g_27 a0g_28 a0g_29 a0g_30 a0g_31 a0g_32 a0g_33 a0g_34 a0g_35 a0g_36 a0g_37 a0g_38 a0g_39 : Value) (a0_1 : Nat) (a0_3 : Int32) (a0_4 : Int32) (a0_5 : Int32) (a0_6 : Int32) (a0_7 : Int32) (a0_8 : Int32) (a0_12 : Nat) (ka0_1 : ClassId) (fa0_1 : Nat → Int32) (ka0_12 : ClassId) (fa0_12 : Nat → Int32) (ba0_3_l : (0 : Int) ≤ a0_3.toInt) (ba0_3_u : a0_3.toInt ≤ (900 : Int)) (ba0_5_l : (0 : Int) ≤ a0_5.toInt) (ba0_5_u : a0_5.toInt ≤ (900 : Int)) (ba0_8_l : (0 : Int) ≤ a0_8.toInt) (ba0_8_u : a0_8.toInt ≤ (900 : Int)) : zm l yX8_pass wsX8_pass ({ frames := 2, cells := 0, slots := 0, locals := 44 }) [.ref a0] dC dI sz [(a0, .inr (8, [a0g_0, Value.ref a0_1, a0g_2, Value.int a0_3, Value.int a0_4, Value.int a0_5, Value.int a0_6, Value.int a0_7, Value.int a0_8, a0g_9, a0g_10, a0g_11, Value.ref a0_12, Value.int 0, a0g_14, a0g_15, a0g_16, a0g_17, a0g_18, a0g_19, a0g_20, a0g_21, a0g_22, a0g_23, a0g_24, a0g_25, a0g_26, a0g_27, a0g_28, a0g_29, a0g_30, a0g_31, a0g_32, a0g_33, a0g_34, a0g_35, a0g_36, a0g_37, a0g_38, a0g_39])), (a0_1, .inl (ka0_1, 900, .inl (fa0_1))), (a0_12, .inl (ka0_12, 8, .inl (fa0_12)))] [(ka0_1, .int), (ka0_12, .int)] (fun A _ => True) (fun A => va_Qv (fun (_ : Unit) => True) (fun (_ : Unit) (t : State) => ∃ na0_4 : Int32, ∃ na0_5 : Int32, ∃ na0_6 : Int32, ∃ na0_7 : Int32, ∃ na0_8 : Int32, ∃ nfa0_12 : Nat → Int32, ((0 : Int) ≤ na0_5.toInt ∧ na0_5.toInt ≤ 900) ∧ ((0 : Int) ≤ na0_8.toInt ∧ na0_8.toInt ≤ 900) ∧ (na0_6.toInt = 2 → na0_8.toInt ≤ 8) ∧ (a0_5.toInt ≤ na0_5.toInt ∧ ((na0_5.toInt = a0_5.toInt ∧ na0_6.toInt = a0_6.toInt) ∨ na0_6.toInt ≠ 59 ∨ a0_5.toInt < na0_5.toInt)) ∧ (FfG_X8_pass a0_3.toInt a0_5.toInt (fl_A fa0_1) (fl_A fa0_12) = (na0_4.toInt, na0_5.toInt, na0_6.toInt, na0_7.toInt, na0_8.toInt, (fl_A nfa0_12))) ∧ ax_B dC dI A [(a0, .inr (8, [a0g_0, Value.ref a0_1, a0g_2, Value.int a0_3, Value.int na0_4, Value.int na0_5, Value.int na0_6, Value.int na0_7, Value.int na0_8, a0g_9, a0g_10, a0g_11, Value.ref a0_12, Value.int 0, a0g_14, a0g_15, a0g_16, a0g_17, a0g_18, a0g_19, a0g_20, a0g_21, a0g_22, a0g_23, a0g_24, a0g_25, a0g_26, a0g_27, a0g_28, a0g_29, a0g_30, a0g_31, a0g_32, a0g_33, a0g_34, a0g_35, a0g_36, a0g_37, a0g_38, a0g_39])), (a0_1, .inl (ka0_1, 900, .inl (fa0_1))), (a0_12, .inl (ka0_12, 8, .inl (nfa0_12)))] [(ka0_1, .int), (ka0_12, .int)] t) A) := by
  refine zh (cc := cX8_pass) (maxL := 1) (ret := none) zn_RX8 rfl (Nat.le_of_ble_eq_true rfl) (fun p e s m below meth c A ls hx hb hml hr hts (hown : s.vm.findClass RX8 = some m.cls) hlocks hA hS hP hK hD hE (hl : lv_has ls 1 [(0, .ref a0)]) => ?_)
  generalize hFX : FfG_X8_pass a0_3.toInt a0_5.toInt (fl_A fa0_1) (fl_A fa0_12) = FX at ⊢
  have hF0 := hFX.symm.trans (FfG_X8_pass.eq_1 a0_3.toInt a0_5.toInt (fl_A fa0_1) (fl_A fa0_12))
  refine lv_aload_n hx hb dX8_pass_0 rfl (lv_at hl 0 rfl) ?_
  refine va_get (D := (dC, dI)) (ci := 8) (v := .int 0) (C := RX8) (T := TX8) (N := 40) hx hb hts zi_X8_pass_8 hown hK hP 0 rfl rfl 13 (by decide) (hts (.fieldLink RX8 97 "WaxTurnsModel" "failed" "Z") (List.mem_cons_of_mem _ (List.mem_append_left _ (List.mem_of_getElem? (i := 0) rfl)))) (fun _ h9 => h9) rfl dX8_pass_1 ?_
  refine lv_if_ne (tgt := 11) hx hb dX8_pass_4 (by decide) (fun c4 => absurd (by decide +kernel) c4) (fun _ => ?_)
  refine lv_aload_n hx hb dX8_pass_7 rfl (lv_at hl 0 rfl) ?_
  have hKc := hK.sub (tys' := [(ka0_1, .int), (ka0_12, .int)]) [0, 1] rfl
  refine va_callv (va_runV (As := []) (rest := []) ⟨hx, hb, hml, hown, hts⟩ (f_X8_next l dC dI s.heap.size a0 a0g_0 a0g_2 a0g_9 a0g_10 a0g_11 (Value.int 0) a0g_14 a0g_15 a0g_16 a0g_17 a0g_18 a0g_19 a0g_20 a0g_21 a0g_22 a0g_23 a0g_24 a0g_25 a0g_26 a0g_27 a0g_28 a0g_29 a0g_30 a0g_31 a0g_32 a0g_33 a0g_34 a0g_35 a0g_36 a0g_37 a0g_38 a0g_39 a0_1 a0_3 a0_4 a0_5 a0_6 a0_7 a0_8 a0_12 ka0_1 fa0_1 ka0_12 fa0_12 ba0_3_l ba0_3_u ba0_5_l ba0_5_u ba0_8_l ba0_8_u) (cwV 0 hts gX8_pass_X8_next rfl rfl rfl zd_X8_next ⟨Nat.le_of_ble_eq_true rfl, Nat.le_of_ble_eq_true rfl⟩) ⟨ax_blind (fun _ _ _ _ _ => trivial), zr_8 hKc (zp_P3 hP) (q0 := 0) rfl, ax_pre (zp_P3 hP) hKc (zp_D3 hD) (fun _ _ => trivial)⟩ rfl rfl hl.1 rfl (lv_room (Nat.le_of_ble_eq_true rfl)) dX8_pass_8 ⟨Nat.le_of_ble_eq_true rfl, Nat.le_of_ble_eq_true rfl⟩) hS (fun q _ h => zp_F3 hD hS hA q h) (zp_F3 hD hS hA) (fun u t H locs ht hvm hw => zx_6 (fun v8na0_4 v8na0_5 v8na0_6 v8na0_7 v8na0_8 v8nfa0_12 => zy_5 (fun bv8na0_5 bv8na0_8 hraw8_0 hraw8_1 hraw8_2 hB hz1 hk1 hS1 => zo3 hB ht hP hD hk1 (zp_F3 hD hS hA) hS1 (fun hP hK1 hD hS => ?_))))
  have hc8 : Ff_X8_next a0_3.toInt a0_5.toInt (fl_A fa0_1) (fl_A fa0_12) = (v8na0_4.toInt, v8na0_5.toInt, v8na0_6.toInt, v8na0_7.toInt, v8na0_8.toInt, (fl_A v8nfa0_12)) := hraw8_2
  have hF0 := hF0.trans (fl_c6_eq hc8)
  have hFe : FX = (v8na0_4.toInt, v8na0_5.toInt, v8na0_6.toInt, v8na0_7.toInt, v8na0_8.toInt, (fl_A v8nfa0_12)) := hF0
  exact W.vret hx hb hr (fun t ht hW => ⟨⟨(), rfl, trivial, v8na0_4, v8na0_5, v8na0_6, v8na0_7, v8na0_8, v8nfa0_12, ⟨bv8na0_5.1, bv8na0_5.2⟩, ⟨bv8na0_8.1, bv8na0_8.2⟩, hraw8_0, (em_n hraw8_1), hFe, by rw [ht]; exact hP, va_K.moved hW.alike hK, hD⟩, hS.F ht⟩) hS.2.2 dX8_pass_11

set_option maxHeartbeats 4000000 in
set_option maxRecDepth 100000 in
theorem f_X8_isKnown (l : Launch) (dC : Nat → ClassId) (dI : Nat → Nat → Nat) (sz : Nat) (a0 : Nat) (a0g_0 a0g_1 a0g_2 a0g_3 a0g_4 a0g_5 a0g_6 a0g_7 a0g_9 a0g_10 a0g_11 a0g_13 a0g_14 a0g_15 a0g_17 a0g_18 a0g_19 a0g_20 a0g_21 a0g_22 a0g_23 a0g_24 a0g_25 a0g_26 a0g_27 a0g_28 a0g_29 a0g_30 a0g_31 a0g_32 a0g_33 a0g_34 a0g_35 a0g_36 a0g_37 a0g_38 a0g_39 : Value) (a0_8 : Int32) (a0_12 : Nat) (a0_16 : Nat) (ka0_16 : ClassId) (fa0_16 : Nat → Int32) (ka0_12 : ClassId) (fa0_12 : Nat → Int32) (ba0_8_l : (0 : Int) ≤ a0_8.toInt) (ba0_8_u : a0_8.toInt ≤ (8 : Int)) (bfa0_16 : ((∀ k : Nat, 0 ≤ k → k ≤ 0 → (0 : Int) ≤ (fa0_16 k).toInt ∧ (fa0_16 k).toInt ≤ 9) ∧ (∀ k : Nat, 1 ≤ k → k ≤ 1 → (0 : Int) ≤ (fa0_16 k).toInt ∧ (fa0_16 k).toInt ≤ 20) ∧ (∀ k : Nat, 2 ≤ k → k ≤ 2 → (0 : Int) ≤ (fa0_16 k).toInt ∧ (fa0_16 k).toInt ≤ 8) ∧ (∀ k : Nat, 3 ≤ k → k ≤ 3 → (0 : Int) ≤ (fa0_16 k).toInt ∧ (fa0_16 k).toInt ≤ 100) ∧ (∀ k : Nat, 4 ≤ k → k ≤ 4 → (0 : Int) ≤ (fa0_16 k).toInt ∧ (fa0_16 k).toInt ≤ 9) ∧ (∀ k : Nat, 5 ≤ k → k ≤ 5 → (0 : Int) ≤ (fa0_16 k).toInt ∧ (fa0_16 k).toInt ≤ 3) ∧ (∀ k : Nat, 6 ≤ k → k ≤ 6 → (0 : Int) ≤ (fa0_16 k).toInt ∧ (fa0_16 k).toInt ≤ 6) ∧ (∀ k : Nat, 7 ≤ k → k ≤ 9 → (0 : Int) ≤ (fa0_16 k).toInt ∧ (fa0_16 k).toInt ≤ 8) ∧ (∀ k : Nat, 10 ≤ k → k ≤ 11 → (0 : Int) ≤ (fa0_16 k).toInt ∧ (fa0_16 k).toInt ≤ 1) ∧ (∀ k : Nat, 12 ≤ k → k ≤ 29 → (0 : Int) ≤ (fa0_16 k).toInt ∧ (fa0_16 k).toInt ≤ 20) ∧ (∀ k : Nat, 30 ≤ k → k ≤ 35 → (0 : Int) ≤ (fa0_16 k).toInt ∧ (fa0_16 k).toInt ≤ 8) ∧ (∀ k : Nat, 36 ≤ k → k ≤ 47 → (0 : Int) ≤ (fa0_16 k).toInt ∧ (fa0_16 k).toInt ≤ 999) ∧ (∀ k : Nat, 48 ≤ k → k ≤ 59 → (0 : Int) ≤ (fa0_16 k).toInt ∧ (fa0_16 k).toInt ≤ 8) ∧ ((1 : Int) ≤ (fa0_16 11).toInt → (2 : Int) ≤ (fa0_16 0).toInt ∧ (1 : Int) ≤ (fa0_16 1).toInt) ∧ (∀ (j i0 i : Int32), (0 : Int) ≤ j.toInt → j.toInt ≤ 8 → i0.toInt = 12 + 2 * j.toInt → i.toInt = 13 + 2 * j.toInt → (fa0_16 i0.toNatClampNeg).toInt = (1 : Int32).toInt → (1 : Int) ≤ (fa0_16 i.toNatClampNeg).toInt))) : zm l yX8_isKnown wsX8_isKnown ({ frames := 0, cells := 0, slots := 0, locals := 0 }) [.ref a0] dC dI sz [(a0, .inr (8, [a0g_0, a0g_1, a0g_2, a0g_3, a0g_4, a0g_5, a0g_6, a0g_7, Value.int a0_8, a0g_9, a0g_10, a0g_11, Value.ref a0_12, a0g_13, a0g_14, a0g_15, Value.ref a0_16, a0g_17, a0g_18, a0g_19, a0g_20, a0g_21, a0g_22, a0g_23, a0g_24, a0g_25, a0g_26, a0g_27, a0g_28, a0g_29, a0g_30, a0g_31, a0g_32, a0g_33, a0g_34, a0g_35, a0g_36, a0g_37, a0g_38, a0g_39])), (a0_16, .inl (ka0_16, 156, .inl (fa0_16))), (a0_12, .inl (ka0_12, 8, .inl (fa0_12)))] [(ka0_16, .int), (ka0_12, .int)] (fun A _ => True) (fun A => va_Qi (fun (r : Int32) (_ : Unit) => ((r = 1) ∨ (r = 0)) ∧ r.toInt = Ff_X8_isKnown a0_8.toInt (fl_A fa0_16) (fl_A fa0_12)) (fun (_ : Unit) (t : State) => ax_B dC dI A [(a0, .inr (8, [a0g_0, a0g_1, a0g_2, a0g_3, a0g_4, a0g_5, a0g_6, a0g_7, Value.int a0_8, a0g_9, a0g_10, a0g_11, Value.ref a0_12, a0g_13, a0g_14, a0g_15, Value.ref a0_16, a0g_17, a0g_18, a0g_19, a0g_20, a0g_21, a0g_22, a0g_23, a0g_24, a0g_25, a0g_26, a0g_27, a0g_28, a0g_29, a0g_30, a0g_31, a0g_32, a0g_33, a0g_34, a0g_35, a0g_36, a0g_37, a0g_38, a0g_39])), (a0_16, .inl (ka0_16, 156, .inl (fa0_16))), (a0_12, .inl (ka0_12, 8, .inl (fa0_12)))] [(ka0_16, .int), (ka0_12, .int)] t) A) := by
  refine zh (cc := cX8_isKnown) (maxL := 4) (ret := (some .boolean)) zn_RX8 rfl (Nat.le_of_ble_eq_true rfl) (fun p e s m below meth c A ls hx hb hml hr hts (hown : s.vm.findClass RX8 = some m.cls) hlocks hA hS hP hK hD hE (hl : lv_has ls 4 [(0, .ref a0)]) => ?_)
  generalize hFX : Ff_X8_isKnown a0_8.toInt (fl_A fa0_16) (fl_A fa0_12) = FX at ⊢
  have hF0 := hFX.symm.trans (Ff_X8_isKnown.eq_1 a0_8.toInt (fl_A fa0_16) (fl_A fa0_12))
  refine ai_open (fun K hK0 => ?_)
  refine (hK0 _ _ _).mpr ?_
  refine lv_iconst (v := 0) hx hb dX8_isKnown_0 zk_iconst_0 ?_
  refine lv_istore_n (lv' := [(1, .int 0), (0, .ref a0)]) hx hb dX8_isKnown_1 rfl hl (by decide) rfl (fun ls hl => ?_)
  have J2 : ∀ (n : Nat) (j2l1 : Int32) (H : Heap) (locs : List Loc) (ls : Array Slot), (13 : Int) - j2l1.toInt ≤ (n : Int) → (0 : Int) ≤ j2l1.toInt → j2l1.toInt ≤ (12 : Int) → (FX = fl_wh (Sf_X8_isKnown_2_1 a0_8.toInt (fl_A fa0_16) (fl_A fa0_12)) 0 n j2l1.toInt) → va_P (dC, dI) vwCl [(a0, .inr (8, [a0g_0, a0g_1, a0g_2, a0g_3, a0g_4, a0g_5, a0g_6, a0g_7, Value.int a0_8, a0g_9, a0g_10, a0g_11, Value.ref a0_12, a0g_13, a0g_14, a0g_15, Value.ref a0_16, a0g_17, a0g_18, a0g_19, a0g_20, a0g_21, a0g_22, a0g_23, a0g_24, a0g_25, a0g_26, a0g_27, a0g_28, a0g_29, a0g_30, a0g_31, a0g_32, a0g_33, a0g_34, a0g_35, a0g_36, a0g_37, a0g_38, a0g_39])), (a0_16, .inl (ka0_16, 156, .inl (fa0_16))), (a0_12, .inl (ka0_12, 8, .inl (fa0_12)))] H → va_D A [(a0, .inr (8, [a0g_0, a0g_1, a0g_2, a0g_3, a0g_4, a0g_5, a0g_6, a0g_7, Value.int a0_8, a0g_9, a0g_10, a0g_11, Value.ref a0_12, a0g_13, a0g_14, a0g_15, Value.ref a0_16, a0g_17, a0g_18, a0g_19, a0g_20, a0g_21, a0g_22, a0g_23, a0g_24, a0g_25, a0g_26, a0g_27, a0g_28, a0g_29, a0g_30, a0g_31, a0g_32, a0g_33, a0g_34, a0g_35, a0g_36, a0g_37, a0g_38, a0g_39])), (a0_16, .inl (ka0_16, 156, .inl (fa0_16))), (a0_12, .inl (ka0_12, 8, .inl (fa0_12)))] → va_S A s.heap H locs → lv_has ls 4 [(0, .ref a0), (1, .int j2l1)] → K H locs (F0 m 2 ls []) := by
    intro n
    induction n with
    | zero =>
      intro j2l1 H locs ls hm bj2l1_l bj2l1_u hF0 hP hD hS hl
      first | exact zg_0 hm bj2l1_u (by decide) | (have h8 := ai_min j2l1; have h9 := ai_max j2l1; exact absurd hm (by omega))
    | succ n ih2 =>
      intro j2l1 H locs ls hm bj2l1_l bj2l1_u hF0 hP hD hS hl
      refine (hK0 _ _ _).mpr ?_
      have hm2 := hm
      obtain ⟨SX2, hSX2⟩ : ∃ q9, Sf_X8_isKnown_2_1 a0_8.toInt (fl_A fa0_16) (fl_A fa0_12) j2l1.toInt = q9 := ⟨_, rfl⟩
      have hF1 := hSX2.symm.trans (Sf_X8_isKnown_2_1.eq_1 a0_8.toInt (fl_A fa0_16) (fl_A fa0_12) j2l1.toInt)
      refine lv_iload_n hx hb dX8_isKnown_2 rfl (lv_at hl 1 rfl) ?_
      refine lv_bipush (v := 12) hx hb dX8_isKnown_3 zk_bipush_12 ?_
      refine lv_icmp_ge (tgt := 103) hx hb dX8_isKnown_5 (by decide) (fun c5 => ?_) (fun c5 => ?_)
      · have gc5 := ai_le c5
        have l5t_j2l1 : (12 : Int) ≤ j2l1.toInt := Int.le_trans zq119 gc5
        have hF1 := hF1.trans (if_pos (show 12 ≤ j2l1.toInt from gc5))
        have hF0 := hF0.trans (fl_wh_r (hSX2.trans hF1))
        refine lv_iconst (v := 0) hx hb dX8_isKnown_103 zk_iconst_0 ?_
        have hFe : FX = 0 := hF0
        exact W.zret (v := 0) hx hb hr rfl (fun t ht hW => ⟨⟨0, (), rfl, ⟨(Or.inr (rfl)), hFe.symm⟩, by rw [ht]; exact hP, va_K.moved hW.alike hK, hD⟩, hS.F ht⟩) hS.2.2 dX8_isKnown_104
      · have gc5 := ai_nle c5
        have u5f_j2l1 : j2l1.toInt ≤ (11 : Int) := ai_lthi gc5 zq120
        have hF1 := hF1.trans (if_neg (show ¬ (12 ≤ j2l1.toInt) from Int.not_le.mpr gc5))
        refine lv_aload_n hx hb dX8_isKnown_8 rfl (lv_at hl 0 rfl) ?_
        refine va_get (D := (dC, dI)) (ci := 8) (v := .ref a0_16) (C := RX8) (T := TX8) (N := 40) hx hb hts zi_X8_isKnown_8 hown hK hP 0 rfl rfl 16 (by decide) (hts (.fieldLink RX8 23 "WaxTurnsModel" "fresh" "[I") (List.mem_cons_of_mem _ (List.mem_append_left _ (List.mem_of_getElem? (i := 0) rfl)))) (fun _ h9 => h9) rfl dX8_isKnown_9 ?_
        refine lv_bipush (v := 48) hx hb dX8_isKnown_12 zk_bipush_48 ?_
        refine lv_iload_n hx hb dX8_isKnown_14 rfl (lv_at hl 1 rfl) ?_
        refine lv_iadd hx hb dX8_isKnown_15 ?_
        refine lv_topi (fun x15 ex15 => ?_)
        have qx15 : x15.toInt = (48 : Int32).toInt + j2l1.toInt := ai_add ex15 ⟨zq142, zq141⟩ ⟨bj2l1_l, u5f_j2l1⟩ (by decide) (by decide)
        have bx15 : (48 : Int) ≤ x15.toInt ∧ x15.toInt ≤ 59 := ⟨by rw [qx15]; exact Int.add_le_add zq142 bj2l1_l, by rw [qx15]; exact Int.add_le_add zq141 u5f_j2l1⟩
        have wx15 : x15.toInt = 48 + j2l1.toInt := qx15
        have hF1 := hF1.trans (fl_lt_eq (show x15.toInt = 48 + j2l1.toInt from qx15))
        refine va_iald hx hb hK hP 1 0 rfl rfl (ai_in bx15.1 bx15.2 (by decide) (by decide)) dX8_isKnown_16 ?_
        refine lv_topi (fun x16 ex16 => ?_)
        have bx16 : (0 : Int) ≤ x16.toInt ∧ x16.toInt ≤ 8 := by rw [ex16]; exact ai_rd bfa0_16.2.2.2.2.2.2.2.2.2.2.2.2.1 bx15.1 bx15.2 (by decide) (by decide) (by decide)
        have fqx16 := congrArg Int32.toInt ex16
        have hF1 := hF1.trans (fl_lt_eq (show x16.toInt = (fl_A fa0_16) (x15.toInt.toNat) from fqx16))
        have J41 : ∀ (j41s0 : Int32) (H : Heap) (locs : List Loc) (ls : Array Slot), (0 : Int) ≤ j41s0.toInt → j41s0.toInt ≤ (1 : Int) → (SX2 = Gf_X8_isKnown_41_1 a0_8.toInt (fl_A fa0_16) (fl_A fa0_12) j2l1.toInt j41s0.toInt) → va_P (dC, dI) vwCl [(a0, .inr (8, [a0g_0, a0g_1, a0g_2, a0g_3, a0g_4, a0g_5, a0g_6, a0g_7, Value.int a0_8, a0g_9, a0g_10, a0g_11, Value.ref a0_12, a0g_13, a0g_14, a0g_15, Value.ref a0_16, a0g_17, a0g_18, a0g_19, a0g_20, a0g_21, a0g_22, a0g_23, a0g_24, a0g_25, a0g_26, a0g_27, a0g_28, a0g_29, a0g_30, a0g_31, a0g_32, a0g_33, a0g_34, a0g_35, a0g_36, a0g_37, a0g_38, a0g_39])), (a0_16, .inl (ka0_16, 156, .inl (fa0_16))), (a0_12, .inl (ka0_12, 8, .inl (fa0_12)))] H → va_D A [(a0, .inr (8, [a0g_0, a0g_1, a0g_2, a0g_3, a0g_4, a0g_5, a0g_6, a0g_7, Value.int a0_8, a0g_9, a0g_10, a0g_11, Value.ref a0_12, a0g_13, a0g_14, a0g_15, Value.ref a0_16, a0g_17, a0g_18, a0g_19, a0g_20, a0g_21, a0g_22, a0g_23, a0g_24, a0g_25, a0g_26, a0g_27, a0g_28, a0g_29, a0g_30, a0g_31, a0g_32, a0g_33, a0g_34, a0g_35, a0g_36, a0g_37, a0g_38, a0g_39])), (a0_16, .inl (ka0_16, 156, .inl (fa0_16))), (a0_12, .inl (ka0_12, 8, .inl (fa0_12)))] → va_S A s.heap H locs → lv_has ls 4 [(0, .ref a0), (1, .int j2l1)] → K H locs (F0 m 41 ls [.int j41s0]) := by
          intro j41s0 H locs ls  bj41s0_l bj41s0_u hF1 hP hD hS hl
          refine (hK0 _ _ _).mpr ?_
          have hF1 := hF1.trans (Gf_X8_isKnown_41_1.eq_1 a0_8.toInt (fl_A fa0_16) (fl_A fa0_12) j2l1.toInt j41s0.toInt)
          refine lv_istore_n (lv' := [(2, .int j41s0), (0, .ref a0), (1, .int j2l1)]) hx hb dX8_isKnown_41 rfl hl (by decide) rfl (fun ls hl => ?_)
          refine lv_iconst (v := 0) hx hb dX8_isKnown_42 zk_iconst_0 ?_
          refine lv_istore_n (lv' := [(3, .int 0), (2, .int j41s0), (0, .ref a0), (1, .int j2l1)]) hx hb dX8_isKnown_43 rfl hl (by decide) rfl (fun ls hl => ?_)
          have J44 : ∀ (n : Nat) (j44l3 : Int32) (j44l2 : Int32) (H : Heap) (locs : List Loc) (ls : Array Slot), (9 : Int) - j44l3.toInt ≤ (n : Int) → (0 : Int) ≤ j44l3.toInt → j44l3.toInt ≤ (8 : Int) → (0 : Int) ≤ j44l2.toInt → j44l2.toInt ≤ (1 : Int) → (SX2 = fl_wh (fun t9 => Sf_X8_isKnown_44_1 a0_8.toInt (fl_A fa0_16) (fl_A fa0_12) j2l1.toInt t9.1 t9.2) (Sum.inr 0) n (j44l3.toInt, j44l2.toInt)) → va_P (dC, dI) vwCl [(a0, .inr (8, [a0g_0, a0g_1, a0g_2, a0g_3, a0g_4, a0g_5, a0g_6, a0g_7, Value.int a0_8, a0g_9, a0g_10, a0g_11, Value.ref a0_12, a0g_13, a0g_14, a0g_15, Value.ref a0_16, a0g_17, a0g_18, a0g_19, a0g_20, a0g_21, a0g_22, a0g_23, a0g_24, a0g_25, a0g_26, a0g_27, a0g_28, a0g_29, a0g_30, a0g_31, a0g_32, a0g_33, a0g_34, a0g_35, a0g_36, a0g_37, a0g_38, a0g_39])), (a0_16, .inl (ka0_16, 156, .inl (fa0_16))), (a0_12, .inl (ka0_12, 8, .inl (fa0_12)))] H → va_D A [(a0, .inr (8, [a0g_0, a0g_1, a0g_2, a0g_3, a0g_4, a0g_5, a0g_6, a0g_7, Value.int a0_8, a0g_9, a0g_10, a0g_11, Value.ref a0_12, a0g_13, a0g_14, a0g_15, Value.ref a0_16, a0g_17, a0g_18, a0g_19, a0g_20, a0g_21, a0g_22, a0g_23, a0g_24, a0g_25, a0g_26, a0g_27, a0g_28, a0g_29, a0g_30, a0g_31, a0g_32, a0g_33, a0g_34, a0g_35, a0g_36, a0g_37, a0g_38, a0g_39])), (a0_16, .inl (ka0_16, 156, .inl (fa0_16))), (a0_12, .inl (ka0_12, 8, .inl (fa0_12)))] → va_S A s.heap H locs → lv_has ls 4 [(0, .ref a0), (1, .int j2l1), (2, .int j44l2), (3, .int j44l3)] → K H locs (F0 m 44 ls []) := by
            intro n
            induction n with
            | zero =>
              intro j44l3 j44l2 H locs ls hm bj44l3_l bj44l3_u bj44l2_l bj44l2_u hF1 hP hD hS hl
              first | exact zg_0 hm bj44l3_u (by decide) | (have h8 := ai_min j44l3; have h9 := ai_max j44l3; exact absurd hm (by omega))
            | succ n ih44 =>
              intro j44l3 j44l2 H locs ls hm bj44l3_l bj44l3_u bj44l2_l bj44l2_u hF1 hP hD hS hl
              refine (hK0 _ _ _).mpr ?_
              have hm44 := hm
              obtain ⟨SX44, hSX44⟩ : ∃ q9, Sf_X8_isKnown_44_1 a0_8.toInt (fl_A fa0_16) (fl_A fa0_12) j2l1.toInt j44l3.toInt j44l2.toInt = q9 := ⟨_, rfl⟩
              have hF2 := hSX44.symm.trans (Sf_X8_isKnown_44_1.eq_1 a0_8.toInt (fl_A fa0_16) (fl_A fa0_12) j2l1.toInt j44l3.toInt j44l2.toInt)
              refine lv_iload_n hx hb dX8_isKnown_44 rfl (lv_at hl 3 rfl) ?_
              refine lv_aload_n hx hb dX8_isKnown_45 rfl (lv_at hl 0 rfl) ?_
              refine va_get (D := (dC, dI)) (ci := 8) (v := .int a0_8) (C := RX8) (T := TX8) (N := 40) hx hb hts zi_X8_isKnown_8 hown hK hP 0 rfl rfl 8 (by decide) (hts (.fieldLink RX8 81 "WaxTurnsModel" "nameSize" "I") (List.mem_cons_of_mem _ (List.mem_append_left _ (List.mem_of_getElem? (i := 1) rfl)))) (fun _ h9 => h9) rfl dX8_isKnown_46 ?_
              have J91 : ∀ (H : Heap) (locs : List Loc) (ls : Array Slot), (SX2 = Gf_X8_isKnown_91_1 j2l1.toInt j44l2.toInt) → va_P (dC, dI) vwCl [(a0, .inr (8, [a0g_0, a0g_1, a0g_2, a0g_3, a0g_4, a0g_5, a0g_6, a0g_7, Value.int a0_8, a0g_9, a0g_10, a0g_11, Value.ref a0_12, a0g_13, a0g_14, a0g_15, Value.ref a0_16, a0g_17, a0g_18, a0g_19, a0g_20, a0g_21, a0g_22, a0g_23, a0g_24, a0g_25, a0g_26, a0g_27, a0g_28, a0g_29, a0g_30, a0g_31, a0g_32, a0g_33, a0g_34, a0g_35, a0g_36, a0g_37, a0g_38, a0g_39])), (a0_16, .inl (ka0_16, 156, .inl (fa0_16))), (a0_12, .inl (ka0_12, 8, .inl (fa0_12)))] H → va_D A [(a0, .inr (8, [a0g_0, a0g_1, a0g_2, a0g_3, a0g_4, a0g_5, a0g_6, a0g_7, Value.int a0_8, a0g_9, a0g_10, a0g_11, Value.ref a0_12, a0g_13, a0g_14, a0g_15, Value.ref a0_16, a0g_17, a0g_18, a0g_19, a0g_20, a0g_21, a0g_22, a0g_23, a0g_24, a0g_25, a0g_26, a0g_27, a0g_28, a0g_29, a0g_30, a0g_31, a0g_32, a0g_33, a0g_34, a0g_35, a0g_36, a0g_37, a0g_38, a0g_39])), (a0_16, .inl (ka0_16, 156, .inl (fa0_16))), (a0_12, .inl (ka0_12, 8, .inl (fa0_12)))] → va_S A s.heap H locs → lv_has ls 4 [(0, .ref a0), (1, .int j2l1), (2, .int j44l2)] → K H locs (F0 m 91 ls []) := by
                intro  H locs ls  hF1 hP hD hS hl
                refine (hK0 _ _ _).mpr ?_
                have hF1 := hF1.trans (Gf_X8_isKnown_91_1.eq_1 j2l1.toInt j44l2.toInt)
                refine lv_iload_n hx hb dX8_isKnown_91 rfl (lv_at hl 2 rfl) ?_
                refine lv_if_eq (tgt := 97) hx hb dX8_isKnown_92 (by decide) (fun c92 => ?_) (fun c92 => ?_)
                · have gc92 := ai_eq c92
                  have u92t_j44l2 : j44l2.toInt ≤ (0 : Int) := Int.le_trans (Int.le_of_eq gc92) zq6
                  have l92t_j44l2 : (0 : Int) ≤ j44l2.toInt := bj44l2_l
                  have hF1 := hF1.trans (if_pos (show j44l2.toInt = 0 from gc92))
                  obtain ⟨x97, ex97⟩ : ∃ y : Int32, y = j2l1 + Int32.ofInt 1 := ⟨_, rfl⟩
                  have qx97 : x97.toInt = j2l1.toInt + 1 := ai_inc ex97 (by decide) (by decide) u5f_j2l1 (by decide)
                  have bx97 : (1 : Int) ≤ x97.toInt ∧ x97.toInt ≤ 12 := ⟨by rw [qx97]; exact Int.add_le_add bj2l1_l (Int.le_refl _), by rw [qx97]; exact Int.add_le_add u5f_j2l1 (Int.le_refl _)⟩
                  refine lv_iinc (v := x97) (lv' := [(1, .int x97), (0, .ref a0), (2, .int j44l2)]) hx hb dX8_isKnown_97 hl (k := 1) rfl ex97.symm (by decide) rfl (fun ls hl => ?_)
                  have hF1 := hF1.trans (fl_lt_eq (show x97.toInt = j2l1.toInt + 1 from qx97))
                  refine lv_goto (tgt := 2) hx hb dX8_isKnown_100 (by decide) ?_
                  exact (hK0 _ _ _).mp (ih2 x97 _ _ _ (by first | exact zg_s hm2 qx97 | (have h0 := qx97; omega)) (Int.le_trans zq4 bx97.1) bx97.2 (hF0.trans (fl_wh_l (hSX2.trans hF1))) hP hD hS (lv_sub hl [1, 0] rfl))
                · have gc92 := ai_ne c92
                  have l92f_j44l2 : (1 : Int) ≤ j44l2.toInt := (by first | exact zg_l bj44l2_l gc92 (by decide) (by decide) | (have h1 := bj44l2_l; have h2 : (0 : Int32).toInt = 0 := (by decide); rw [h2] at gc92; omega))
                  have hF1 := hF1.trans (if_neg (show ¬ (j44l2.toInt = 0) from  gc92))
                  have hF0 := hF0.trans (fl_wh_r (hSX2.trans hF1))
                  refine lv_iconst (v := 1) hx hb dX8_isKnown_95 zk_iconst_1 ?_
                  have hFe : FX = 1 := hF0
                  exact W.zret (v := 1) hx hb hr rfl (fun t ht hW => ⟨⟨1, (), rfl, ⟨(Or.inl (rfl)), hFe.symm⟩, by rw [ht]; exact hP, va_K.moved hW.alike hK, hD⟩, hS.F ht⟩) hS.2.2 dX8_isKnown_96
              refine lv_icmp_ge (tgt := 91) hx hb dX8_isKnown_49 (by decide) (fun c49 => ?_) (fun c49 => ?_)
              · have gc49 := ai_le c49
                have u49t_a0_8 : a0_8.toInt ≤ (8 : Int) := ba0_8_u
                have l49t_j44l3 : (0 : Int) ≤ j44l3.toInt := bj44l3_l
                have hF2 := hF2.trans (if_pos (show a0_8.toInt ≤ j44l3.toInt from gc49))
                have hF1 := hF1.trans (fl_wh_r (hSX44.trans hF2))
                exact (hK0 _ _ _).mp (J91  _ _ _   hF1 hP hD hS (lv_sub hl [0, 1, 2] rfl))
              · have gc49 := ai_nle c49
                have u49f_j44l3 : j44l3.toInt ≤ (7 : Int) := ai_lthi gc49 ba0_8_u
                have l49f_a0_8 : (1 : Int) ≤ a0_8.toInt := ai_ltlo gc49 bj44l3_l
                have hF2 := hF2.trans (if_neg (show ¬ (a0_8.toInt ≤ j44l3.toInt) from Int.not_le.mpr gc49))
                refine lv_iload_n hx hb dX8_isKnown_52 rfl (lv_at hl 2 rfl) ?_
                refine lv_if_eq (tgt := 91) hx hb dX8_isKnown_53 (by decide) (fun c53 => ?_) (fun c53 => ?_)
                · have gc53 := ai_eq c53
                  have u53t_j44l2 : j44l2.toInt ≤ (0 : Int) := Int.le_trans (Int.le_of_eq gc53) zq6
                  have l53t_j44l2 : (0 : Int) ≤ j44l2.toInt := bj44l2_l
                  have hF2 := hF2.trans (if_pos (show j44l2.toInt = 0 from gc53))
                  have hF1 := hF1.trans (fl_wh_r (hSX44.trans hF2))
                  exact (hK0 _ _ _).mp (J91  _ _ _   hF1 hP hD hS (lv_sub hl [0, 1, 2] rfl))
                · have gc53 := ai_ne c53
                  have l53f_j44l2 : (1 : Int) ≤ j44l2.toInt := (by first | exact zg_l bj44l2_l gc53 (by decide) (by decide) | (have h1 := bj44l2_l; have h2 : (0 : Int32).toInt = 0 := (by decide); rw [h2] at gc53; omega))
                  have hF2 := hF2.trans (if_neg (show ¬ (j44l2.toInt = 0) from  gc53))
                  refine lv_aload_n hx hb dX8_isKnown_56 rfl (lv_at hl 0 rfl) ?_
                  refine va_get (D := (dC, dI)) (ci := 8) (v := .ref a0_16) (C := RX8) (T := TX8) (N := 40) hx hb hts zi_X8_isKnown_8 hown hK hP 0 rfl rfl 16 (by decide) (hts (.fieldLink RX8 23 "WaxTurnsModel" "fresh" "[I") (List.mem_cons_of_mem _ (List.mem_append_left _ (List.mem_of_getElem? (i := 0) rfl)))) (fun _ h9 => h9) rfl dX8_isKnown_57 ?_
                  refine lv_bipush (v := 60) hx hb dX8_isKnown_60 zk_bipush_60 ?_
                  refine lv_bipush (v := 8) hx hb dX8_isKnown_62 zk_bipush_8 ?_
                  refine lv_iload_n hx hb dX8_isKnown_64 rfl (lv_at hl 1 rfl) ?_
                  refine lv_imul hx hb dX8_isKnown_65 ?_
                  refine lv_topi (fun x65 ex65 => ?_)
                  have qx65 : x65.toInt = (8 : Int32).toInt * j2l1.toInt ∧ (0 : Int) ≤ x65.toInt ∧ x65.toInt ≤ 88 := ai_mul ex65 ⟨zq116, zq28⟩ ⟨bj2l1_l, u5f_j2l1⟩ (by decide) (by decide) zq232
                  have wx65 : x65.toInt = 8 * j2l1.toInt := qx65.1
                  have hF2 := hF2.trans (fl_lt_eq (show x65.toInt = 8 * j2l1.toInt from qx65.1))
                  refine lv_iadd hx hb dX8_isKnown_66 ?_
                  refine lv_topi (fun x66 ex66 => ?_)
                  have qx66 : x66.toInt = (60 : Int32).toInt + x65.toInt := ai_add ex66 ⟨zq51, zq46⟩ ⟨qx65.2.1, qx65.2.2⟩ (by decide) (by decide)
                  have bx66 : (60 : Int) ≤ x66.toInt ∧ x66.toInt ≤ 148 := ⟨by rw [qx66]; exact Int.add_le_add zq51 qx65.2.1, by rw [qx66]; exact Int.add_le_add zq46 qx65.2.2⟩
                  have wx66 : x66.toInt = 60 + x65.toInt := qx66
                  have hF2 := hF2.trans (fl_lt_eq (show x66.toInt = 60 + x65.toInt from qx66))
                  refine lv_iload_n hx hb dX8_isKnown_67 rfl (lv_at hl 3 rfl) ?_
                  refine lv_iadd hx hb dX8_isKnown_68 ?_
                  refine lv_topi (fun x68 ex68 => ?_)
                  have qx68 : x68.toInt = x66.toInt + j44l3.toInt := ai_add ex68 ⟨bx66.1, bx66.2⟩ ⟨bj44l3_l, u49f_j44l3⟩ (by decide) (by decide)
                  have bx68 : (60 : Int) ≤ x68.toInt ∧ x68.toInt ≤ 155 := ⟨by rw [qx68]; exact Int.add_le_add bx66.1 bj44l3_l, by rw [qx68]; exact Int.add_le_add bx66.2 u49f_j44l3⟩
                  have hF2 := hF2.trans (fl_lt_eq (show x68.toInt = x66.toInt + j44l3.toInt from qx68))
                  refine va_iald hx hb hK hP 1 0 rfl rfl (ai_in bx68.1 bx68.2 (by decide) (by decide)) dX8_isKnown_69 ?_
                  refine lv_topi (fun x69 ex69 => ?_)
                  have fqx69 := congrArg Int32.toInt ex69
                  have hF2 := hF2.trans (fl_lt_eq (show x69.toInt = (fl_A fa0_16) (x68.toInt.toNat) from fqx69))
                  refine lv_aload_n hx hb dX8_isKnown_70 rfl (lv_at hl 0 rfl) ?_
                  refine va_get (D := (dC, dI)) (ci := 8) (v := .ref a0_12) (C := RX8) (T := TX8) (N := 40) hx hb hts zi_X8_isKnown_8 hown hK hP 0 rfl rfl 12 (by decide) (hts (.fieldLink RX8 17 "WaxTurnsModel" "letters" "[I") (List.mem_cons_of_mem _ (List.mem_append_left _ (List.mem_of_getElem? (i := 2) rfl)))) (fun _ h9 => h9) rfl dX8_isKnown_71 ?_
                  refine lv_iload_n hx hb dX8_isKnown_74 rfl (lv_at hl 3 rfl) ?_
                  refine va_iald hx hb hK hP 2 1 rfl rfl (ai_in bj44l3_l u49f_j44l3 (by decide) (by decide)) dX8_isKnown_75 ?_
                  refine lv_topi (fun x75 ex75 => ?_)
                  have fqx75 := congrArg Int32.toInt ex75
                  have hF2 := hF2.trans (fl_lt_eq (show x75.toInt = (fl_A fa0_12) (j44l3.toInt.toNat) from fqx75))
                  have J84 : ∀ (j84s0 : Int32) (H : Heap) (locs : List Loc) (ls : Array Slot), (0 : Int) ≤ j84s0.toInt → j84s0.toInt ≤ (1 : Int) → (SX44 = Gf_X8_isKnown_84_1 j44l3.toInt j84s0.toInt) → va_P (dC, dI) vwCl [(a0, .inr (8, [a0g_0, a0g_1, a0g_2, a0g_3, a0g_4, a0g_5, a0g_6, a0g_7, Value.int a0_8, a0g_9, a0g_10, a0g_11, Value.ref a0_12, a0g_13, a0g_14, a0g_15, Value.ref a0_16, a0g_17, a0g_18, a0g_19, a0g_20, a0g_21, a0g_22, a0g_23, a0g_24, a0g_25, a0g_26, a0g_27, a0g_28, a0g_29, a0g_30, a0g_31, a0g_32, a0g_33, a0g_34, a0g_35, a0g_36, a0g_37, a0g_38, a0g_39])), (a0_16, .inl (ka0_16, 156, .inl (fa0_16))), (a0_12, .inl (ka0_12, 8, .inl (fa0_12)))] H → va_D A [(a0, .inr (8, [a0g_0, a0g_1, a0g_2, a0g_3, a0g_4, a0g_5, a0g_6, a0g_7, Value.int a0_8, a0g_9, a0g_10, a0g_11, Value.ref a0_12, a0g_13, a0g_14, a0g_15, Value.ref a0_16, a0g_17, a0g_18, a0g_19, a0g_20, a0g_21, a0g_22, a0g_23, a0g_24, a0g_25, a0g_26, a0g_27, a0g_28, a0g_29, a0g_30, a0g_31, a0g_32, a0g_33, a0g_34, a0g_35, a0g_36, a0g_37, a0g_38, a0g_39])), (a0_16, .inl (ka0_16, 156, .inl (fa0_16))), (a0_12, .inl (ka0_12, 8, .inl (fa0_12)))] → va_S A s.heap H locs → lv_has ls 4 [(0, .ref a0), (1, .int j2l1), (3, .int j44l3)] → K H locs (F0 m 84 ls [.int j84s0]) := by
                    intro j84s0 H locs ls  bj84s0_l bj84s0_u hF2 hP hD hS hl
                    refine (hK0 _ _ _).mpr ?_
                    have hF2 := hF2.trans (Gf_X8_isKnown_84_1.eq_1 j44l3.toInt j84s0.toInt)
                    refine lv_istore_n (lv' := [(2, .int j84s0), (0, .ref a0), (1, .int j2l1), (3, .int j44l3)]) hx hb dX8_isKnown_84 rfl hl (by decide) rfl (fun ls hl => ?_)
                    obtain ⟨x85, ex85⟩ : ∃ y : Int32, y = j44l3 + Int32.ofInt 1 := ⟨_, rfl⟩
                    have qx85 : x85.toInt = j44l3.toInt + 1 := ai_inc ex85 (by decide) (by decide) u49f_j44l3 (by decide)
                    have bx85 : (1 : Int) ≤ x85.toInt ∧ x85.toInt ≤ 8 := ⟨by rw [qx85]; exact Int.add_le_add bj44l3_l (Int.le_refl _), by rw [qx85]; exact Int.add_le_add u49f_j44l3 (Int.le_refl _)⟩
                    refine lv_iinc (v := x85) (lv' := [(3, .int x85), (2, .int j84s0), (0, .ref a0), (1, .int j2l1)]) hx hb dX8_isKnown_85 hl (k := 3) rfl ex85.symm (by decide) rfl (fun ls hl => ?_)
                    have hF2 := hF2.trans (fl_lt_eq (show x85.toInt = j44l3.toInt + 1 from qx85))
                    refine lv_goto (tgt := 44) hx hb dX8_isKnown_88 (by decide) ?_
                    exact (hK0 _ _ _).mp (ih44 x85 j84s0 _ _ _ (by first | exact zg_s hm44 qx85 | (have h0 := qx85; omega)) (Int.le_trans zq4 bx85.1) bx85.2 bj84s0_l bj84s0_u (hF1.trans (fl_wh_l (hSX44.trans hF2))) hP hD hS (lv_sub hl [2, 3, 1, 0] rfl))
                  refine lv_icmp_ne (tgt := 83) hx hb dX8_isKnown_76 (by decide) (fun c76 => ?_) (fun c76 => ?_)
                  · have gc76 := ai_ne c76
                    have hF2 := hF2.trans (if_neg (show ¬ (x69.toInt = x75.toInt) from  gc76))
                    refine lv_iconst (v := 0) hx hb dX8_isKnown_83 zk_iconst_0 ?_
                    exact (hK0 _ _ _).mp (J84 0 _ _ _  zq5 (Int.le_trans zq6 zq4) (by rw [show (0 : Int32).toInt = 0 from by decide]; exact hF2) hP hD hS (lv_sub hl [0, 1, 3] rfl))
                  · have gc76 := ai_eq c76
                    have hF2 := hF2.trans (if_pos (show x69.toInt = x75.toInt from gc76))
                    refine lv_iconst (v := 1) hx hb dX8_isKnown_79 zk_iconst_1 ?_
                    refine lv_goto (tgt := 84) hx hb dX8_isKnown_80 (by decide) ?_
                    exact (hK0 _ _ _).mp (J84 1 _ _ _  (Int.le_trans zq4 zq1) zq0 (by rw [show (1 : Int32).toInt = 1 from by decide]; exact hF2) hP hD hS (lv_sub hl [0, 1, 3] rfl))
          exact (hK0 _ _ _).mp (J44 9 0 j41s0 _ _ _ (by first | decide +kernel | (have h1 : (0 : Int) ≤ (0 : Int32).toInt := zq5; have h2 : (0 : Int32).toInt ≤ (0 : Int) := zq6; omega)) zq5 (Int.le_trans zq6 zq20) bj41s0_l bj41s0_u (by rw [show (0 : Int32).toInt = 0 from by decide]; exact hF1) hP hD hS (lv_sub hl [2, 3, 1, 0] rfl))
        have J40 : ∀ (H : Heap) (locs : List Loc) (ls : Array Slot), (SX2 = Gf_X8_isKnown_40_1 a0_8.toInt (fl_A fa0_16) (fl_A fa0_12) j2l1.toInt) → va_P (dC, dI) vwCl [(a0, .inr (8, [a0g_0, a0g_1, a0g_2, a0g_3, a0g_4, a0g_5, a0g_6, a0g_7, Value.int a0_8, a0g_9, a0g_10, a0g_11, Value.ref a0_12, a0g_13, a0g_14, a0g_15, Value.ref a0_16, a0g_17, a0g_18, a0g_19, a0g_20, a0g_21, a0g_22, a0g_23, a0g_24, a0g_25, a0g_26, a0g_27, a0g_28, a0g_29, a0g_30, a0g_31, a0g_32, a0g_33, a0g_34, a0g_35, a0g_36, a0g_37, a0g_38, a0g_39])), (a0_16, .inl (ka0_16, 156, .inl (fa0_16))), (a0_12, .inl (ka0_12, 8, .inl (fa0_12)))] H → va_D A [(a0, .inr (8, [a0g_0, a0g_1, a0g_2, a0g_3, a0g_4, a0g_5, a0g_6, a0g_7, Value.int a0_8, a0g_9, a0g_10, a0g_11, Value.ref a0_12, a0g_13, a0g_14, a0g_15, Value.ref a0_16, a0g_17, a0g_18, a0g_19, a0g_20, a0g_21, a0g_22, a0g_23, a0g_24, a0g_25, a0g_26, a0g_27, a0g_28, a0g_29, a0g_30, a0g_31, a0g_32, a0g_33, a0g_34, a0g_35, a0g_36, a0g_37, a0g_38, a0g_39])), (a0_16, .inl (ka0_16, 156, .inl (fa0_16))), (a0_12, .inl (ka0_12, 8, .inl (fa0_12)))] → va_S A s.heap H locs → lv_has ls 4 [(0, .ref a0), (1, .int j2l1)] → K H locs (F0 m 40 ls []) := by
          intro  H locs ls  hF1 hP hD hS hl
          refine (hK0 _ _ _).mpr ?_
          have hF1 := hF1.trans (Gf_X8_isKnown_40_1.eq_1 a0_8.toInt (fl_A fa0_16) (fl_A fa0_12) j2l1.toInt)
          refine lv_iconst (v := 0) hx hb dX8_isKnown_40 zk_iconst_0 ?_
          exact (hK0 _ _ _).mp (J41 0 _ _ _  zq5 (Int.le_trans zq6 zq4) (by rw [show (0 : Int32).toInt = 0 from by decide]; exact hF1) hP hD hS (lv_sub hl [0, 1] rfl))
        refine lv_if_le (tgt := 40) hx hb dX8_isKnown_17 (by decide) (fun c17 => ?_) (fun c17 => ?_)
        · have gc17 := ai_le c17
          have u17t_x16 : x16.toInt ≤ (0 : Int) := Int.le_trans gc17 zq6
          have hF1 := hF1.trans (if_pos (show x16.toInt ≤ 0 from gc17))
          exact (hK0 _ _ _).mp (J40  _ _ _   hF1 hP hD hS (lv_sub hl [0, 1] rfl))
        · have gc17 := ai_nle c17
          have l17f_x16 : (1 : Int) ≤ x16.toInt := ai_ltlo gc17 zq5
          have hF1 := hF1.trans (if_neg (show ¬ (x16.toInt ≤ 0) from Int.not_le.mpr gc17))
          refine lv_aload_n hx hb dX8_isKnown_20 rfl (lv_at hl 0 rfl) ?_
          refine va_get (D := (dC, dI)) (ci := 8) (v := .ref a0_16) (C := RX8) (T := TX8) (N := 40) hx hb hts zi_X8_isKnown_8 hown hK hP 0 rfl rfl 16 (by decide) (hts (.fieldLink RX8 23 "WaxTurnsModel" "fresh" "[I") (List.mem_cons_of_mem _ (List.mem_append_left _ (List.mem_of_getElem? (i := 0) rfl)))) (fun _ h9 => h9) rfl dX8_isKnown_21 ?_
          refine lv_bipush (v := 48) hx hb dX8_isKnown_24 zk_bipush_48 ?_
          refine lv_iload_n hx hb dX8_isKnown_26 rfl (lv_at hl 1 rfl) ?_
          refine lv_iadd hx hb dX8_isKnown_27 ?_
          refine ax_ti x15 ex15.symm ?_
          refine va_iald hx hb hK hP 1 0 rfl rfl (ai_in bx15.1 bx15.2 (by decide) (by decide)) dX8_isKnown_28 ?_
          refine ax_ti x16 ex16.symm ?_
          refine lv_aload_n hx hb dX8_isKnown_29 rfl (lv_at hl 0 rfl) ?_
          refine va_get (D := (dC, dI)) (ci := 8) (v := .int a0_8) (C := RX8) (T := TX8) (N := 40) hx hb hts zi_X8_isKnown_8 hown hK hP 0 rfl rfl 8 (by decide) (hts (.fieldLink RX8 81 "WaxTurnsModel" "nameSize" "I") (List.mem_cons_of_mem _ (List.mem_append_left _ (List.mem_of_getElem? (i := 1) rfl)))) (fun _ h9 => h9) rfl dX8_isKnown_30 ?_
          refine lv_icmp_ne (tgt := 40) hx hb dX8_isKnown_33 (by decide) (fun c33 => ?_) (fun c33 => ?_)
          · have gc33 := ai_ne c33
            have hF1 := hF1.trans (if_neg (show ¬ (x16.toInt = a0_8.toInt) from  gc33))
            exact (hK0 _ _ _).mp (J40  _ _ _   hF1 hP hD hS (lv_sub hl [0, 1] rfl))
          · have gc33 := ai_eq c33
            have u33f_x16 : x16.toInt ≤ (8 : Int) := bx16.2
            have l33f_x16 : (1 : Int) ≤ x16.toInt := l17f_x16
            have u33f_a0_8 : a0_8.toInt ≤ (8 : Int) := ba0_8_u
            have l33f_a0_8 : (1 : Int) ≤ a0_8.toInt := Int.le_trans l17f_x16 (Int.le_of_eq gc33)
            have hF1 := hF1.trans (if_pos (show x16.toInt = a0_8.toInt from gc33))
            refine lv_iconst (v := 1) hx hb dX8_isKnown_36 zk_iconst_1 ?_
            refine lv_goto (tgt := 41) hx hb dX8_isKnown_37 (by decide) ?_
            exact (hK0 _ _ _).mp (J41 1 _ _ _  (Int.le_trans zq4 zq1) zq0 (by rw [show (1 : Int32).toInt = 1 from by decide]; exact hF1) hP hD hS (lv_sub hl [0, 1] rfl))
  exact (hK0 _ _ _).mp (J2 13 0 _ _ _ (by first | decide +kernel | (have h1 : (0 : Int) ≤ (0 : Int32).toInt := zq5; have h2 : (0 : Int32).toInt ≤ (0 : Int) := zq6; omega)) zq5 (Int.le_trans zq6 zq169) (by rw [show (0 : Int32).toInt = 0 from by decide]; exact hF0) hP hD hS (lv_sub hl [1, 0] rfl))
end P312_01_f
section P312_02_f
set_option maxHeartbeats 4000000 in
set_option maxRecDepth 100000 in
theorem fG_X8_newName (l : Launch) (dC : Nat → ClassId) (dI : Nat → Nat → Nat) (sz : Nat) (a0 : Nat) (a1 : Int32) (a0g_0 a0g_2 a0g_11 a0g_14 a0g_15 a0g_17 a0g_18 a0g_19 a0g_20 a0g_21 a0g_22 a0g_23 a0g_24 a0g_25 a0g_26 a0g_27 a0g_28 a0g_29 a0g_30 a0g_31 a0g_32 a0g_33 a0g_34 a0g_35 a0g_36 a0g_37 a0g_38 a0g_39 : Value) (a0_1 : Nat) (a0_3 : Int32) (a0_4 : Int32) (a0_5 : Int32) (a0_6 : Int32) (a0_7 : Int32) (a0_8 : Int32) (a0_9 : Int32) (a0_10 : Int32) (a0_12 : Nat) (a0_16 : Nat) (ka0_12 : ClassId) (fa0_12 : Nat → Int32) (ka0_16 : ClassId) (fa0_16 : Nat → Int32) (ka0_1 : ClassId) (fa0_1 : Nat → Int32) (ad : Nat → Nat) (ba1_l : (0 : Int) ≤ a1.toInt) (ba1_u : a1.toInt ≤ (11 : Int)) (ba0_3_l : (0 : Int) ≤ a0_3.toInt) (ba0_3_u : a0_3.toInt ≤ (900 : Int)) (ba0_5_l : (0 : Int) ≤ a0_5.toInt) (ba0_5_u : a0_5.toInt ≤ (900 : Int)) (ba0_8_l : (0 : Int) ≤ a0_8.toInt) (ba0_8_u : a0_8.toInt ≤ (900 : Int)) (bfa0_16 : ((∀ k : Nat, 0 ≤ k → k ≤ 0 → (0 : Int) ≤ (fa0_16 k).toInt ∧ (fa0_16 k).toInt ≤ 9) ∧ (∀ k : Nat, 1 ≤ k → k ≤ 1 → (0 : Int) ≤ (fa0_16 k).toInt ∧ (fa0_16 k).toInt ≤ 20) ∧ (∀ k : Nat, 2 ≤ k → k ≤ 2 → (0 : Int) ≤ (fa0_16 k).toInt ∧ (fa0_16 k).toInt ≤ 8) ∧ (∀ k : Nat, 3 ≤ k → k ≤ 3 → (0 : Int) ≤ (fa0_16 k).toInt ∧ (fa0_16 k).toInt ≤ 100) ∧ (∀ k : Nat, 4 ≤ k → k ≤ 4 → (0 : Int) ≤ (fa0_16 k).toInt ∧ (fa0_16 k).toInt ≤ 9) ∧ (∀ k : Nat, 5 ≤ k → k ≤ 5 → (0 : Int) ≤ (fa0_16 k).toInt ∧ (fa0_16 k).toInt ≤ 3) ∧ (∀ k : Nat, 6 ≤ k → k ≤ 6 → (0 : Int) ≤ (fa0_16 k).toInt ∧ (fa0_16 k).toInt ≤ 6) ∧ (∀ k : Nat, 7 ≤ k → k ≤ 9 → (0 : Int) ≤ (fa0_16 k).toInt ∧ (fa0_16 k).toInt ≤ 8) ∧ (∀ k : Nat, 10 ≤ k → k ≤ 11 → (0 : Int) ≤ (fa0_16 k).toInt ∧ (fa0_16 k).toInt ≤ 1) ∧ (∀ k : Nat, 12 ≤ k → k ≤ 29 → (0 : Int) ≤ (fa0_16 k).toInt ∧ (fa0_16 k).toInt ≤ 20) ∧ (∀ k : Nat, 30 ≤ k → k ≤ 35 → (0 : Int) ≤ (fa0_16 k).toInt ∧ (fa0_16 k).toInt ≤ 8) ∧ (∀ k : Nat, 36 ≤ k → k ≤ 47 → (0 : Int) ≤ (fa0_16 k).toInt ∧ (fa0_16 k).toInt ≤ 999) ∧ (∀ k : Nat, 48 ≤ k → k ≤ 59 → (0 : Int) ≤ (fa0_16 k).toInt ∧ (fa0_16 k).toInt ≤ 8) ∧ ((1 : Int) ≤ (fa0_16 11).toInt → (2 : Int) ≤ (fa0_16 0).toInt ∧ (1 : Int) ≤ (fa0_16 1).toInt) ∧ (∀ (j i0 i : Int32), (0 : Int) ≤ j.toInt → j.toInt ≤ 8 → i0.toInt = 12 + 2 * j.toInt → i.toInt = 13 + 2 * j.toInt → (fa0_16 i0.toNatClampNeg).toInt = (1 : Int32).toInt → (1 : Int) ≤ (fa0_16 i.toNatClampNeg).toInt))) (hR1 : (a0_6.toInt = 2 → a0_8.toInt ≤ 8)) : zm l yX8_newName wsX8_newName ({ frames := 5, cells := 0, slots := 0, locals := 108 }) [.ref a0, .int a1] dC dI sz [(a0, .inr (8, [a0g_0, Value.ref a0_1, a0g_2, Value.int a0_3, Value.int a0_4, Value.int a0_5, Value.int a0_6, Value.int a0_7, Value.int a0_8, Value.int a0_9, Value.int a0_10, a0g_11, Value.ref a0_12, Value.int 0, a0g_14, a0g_15, Value.ref a0_16, a0g_17, a0g_18, a0g_19, a0g_20, a0g_21, a0g_22, a0g_23, a0g_24, a0g_25, a0g_26, a0g_27, a0g_28, a0g_29, a0g_30, a0g_31, a0g_32, a0g_33, a0g_34, a0g_35, a0g_36, a0g_37, a0g_38, a0g_39])), (a0_12, .inl (ka0_12, 8, .inl (fa0_12))), (a0_16, .inl (ka0_16, 156, .inl (fa0_16))), (a0_1, .inl (ka0_1, 900, .inl (fa0_1)))] [(ka0_12, .int), (ka0_16, .int), (ka0_1, .int)] (fun A U => sxc_T ad A U) (fun A => va_Qv (fun (_ : Unit) => True) (fun (_ : Unit) (t : State) => ∃ na0_4 : Int32, ∃ na0_5 : Int32, ∃ na0_6 : Int32, ∃ na0_7 : Int32, ∃ na0_8 : Int32, ∃ na0_9 : Int32, ∃ na0_10 : Int32, ∃ na0_13 : Int32, ∃ nfa0_12 : Nat → Int32, ∃ nfa0_16 : Nat → Int32, ((0 : Int) ≤ na0_5.toInt ∧ na0_5.toInt ≤ 900) ∧ ((0 : Int) ≤ na0_8.toInt ∧ na0_8.toInt ≤ 900) ∧ ((0 : Int) ≤ na0_13.toInt ∧ na0_13.toInt ≤ 1) ∧ ((∀ k : Nat, 0 ≤ k → k ≤ 0 → (0 : Int) ≤ (nfa0_16 k).toInt ∧ (nfa0_16 k).toInt ≤ 9) ∧ (∀ k : Nat, 1 ≤ k → k ≤ 1 → (0 : Int) ≤ (nfa0_16 k).toInt ∧ (nfa0_16 k).toInt ≤ 20) ∧ (∀ k : Nat, 2 ≤ k → k ≤ 2 → (0 : Int) ≤ (nfa0_16 k).toInt ∧ (nfa0_16 k).toInt ≤ 8) ∧ (∀ k : Nat, 3 ≤ k → k ≤ 3 → (0 : Int) ≤ (nfa0_16 k).toInt ∧ (nfa0_16 k).toInt ≤ 100) ∧ (∀ k : Nat, 4 ≤ k → k ≤ 4 → (0 : Int) ≤ (nfa0_16 k).toInt ∧ (nfa0_16 k).toInt ≤ 9) ∧ (∀ k : Nat, 5 ≤ k → k ≤ 5 → (0 : Int) ≤ (nfa0_16 k).toInt ∧ (nfa0_16 k).toInt ≤ 3) ∧ (∀ k : Nat, 6 ≤ k → k ≤ 6 → (0 : Int) ≤ (nfa0_16 k).toInt ∧ (nfa0_16 k).toInt ≤ 6) ∧ (∀ k : Nat, 7 ≤ k → k ≤ 9 → (0 : Int) ≤ (nfa0_16 k).toInt ∧ (nfa0_16 k).toInt ≤ 8) ∧ (∀ k : Nat, 10 ≤ k → k ≤ 11 → (0 : Int) ≤ (nfa0_16 k).toInt ∧ (nfa0_16 k).toInt ≤ 1) ∧ (∀ k : Nat, 12 ≤ k → k ≤ 29 → (0 : Int) ≤ (nfa0_16 k).toInt ∧ (nfa0_16 k).toInt ≤ 20) ∧ (∀ k : Nat, 30 ≤ k → k ≤ 35 → (0 : Int) ≤ (nfa0_16 k).toInt ∧ (nfa0_16 k).toInt ≤ 8) ∧ (∀ k : Nat, 36 ≤ k → k ≤ 47 → (0 : Int) ≤ (nfa0_16 k).toInt ∧ (nfa0_16 k).toInt ≤ 999) ∧ (∀ k : Nat, 48 ≤ k → k ≤ 59 → (0 : Int) ≤ (nfa0_16 k).toInt ∧ (nfa0_16 k).toInt ≤ 8) ∧ ((1 : Int) ≤ (nfa0_16 11).toInt → (2 : Int) ≤ (nfa0_16 0).toInt ∧ (1 : Int) ≤ (nfa0_16 1).toInt) ∧ (∀ (j i0 i : Int32), (0 : Int) ≤ j.toInt → j.toInt ≤ 8 → i0.toInt = 12 + 2 * j.toInt → i.toInt = 13 + 2 * j.toInt → (nfa0_16 i0.toNatClampNeg).toInt = (1 : Int32).toInt → (1 : Int) ≤ (nfa0_16 i.toNatClampNeg).toInt)) ∧ (na0_13 = 1 ∨ na0_13 = 0) ∧ (a0_5.toInt ≤ na0_5.toInt ∧ ((na0_5.toInt = a0_5.toInt ∧ na0_6.toInt = a0_6.toInt) ∨ na0_6.toInt ≠ 59 ∨ a0_5.toInt < na0_5.toInt)) ∧ (∀ k : Nat, k < 48 → nfa0_16 k = fa0_16 k) ∧ (FfG_X8_newName a1.toInt a0_3.toInt a0_4.toInt a0_5.toInt a0_6.toInt a0_7.toInt a0_8.toInt a0_9.toInt a0_10.toInt (fl_A fa0_12) (fl_A fa0_16) (fl_A fa0_1) = (na0_4.toInt, na0_5.toInt, na0_6.toInt, na0_7.toInt, na0_8.toInt, na0_9.toInt, na0_10.toInt, na0_13.toInt, (fl_A nfa0_12), (fl_A nfa0_16))) ∧ ax_B dC dI A [(a0, .inr (8, [a0g_0, Value.ref a0_1, a0g_2, Value.int a0_3, Value.int na0_4, Value.int na0_5, Value.int na0_6, Value.int na0_7, Value.int na0_8, Value.int na0_9, Value.int na0_10, a0g_11, Value.ref a0_12, Value.int na0_13, a0g_14, a0g_15, Value.ref a0_16, a0g_17, a0g_18, a0g_19, a0g_20, a0g_21, a0g_22, a0g_23, a0g_24, a0g_25, a0g_26, a0g_27, a0g_28, a0g_29, a0g_30, a0g_31, a0g_32, a0g_33, a0g_34, a0g_35, a0g_36, a0g_37, a0g_38, a0g_39])), (a0_12, .inl (ka0_12, 8, .inl (nfa0_12))), (a0_16, .inl (ka0_16, 156, .inl (nfa0_16))), (a0_1, .inl (ka0_1, 900, .inl (fa0_1)))] [(ka0_12, .int), (ka0_16, .int), (ka0_1, .int)] t) A) := by
  refine zh (cc := cX8_newName) (maxL := 3) (ret := none) zn_RX8 rfl (Nat.le_of_ble_eq_true rfl) (fun p e s m below meth c A ls hx hb hml hr hts (hown : s.vm.findClass RX8 = some m.cls) hlocks hA hS hP hK hD hE (hl : lv_has ls 3 [(0, .ref a0), (1, .int a1)]) => ?_)
  have hE0 := hE
  generalize hFX : FfG_X8_newName a1.toInt a0_3.toInt a0_4.toInt a0_5.toInt a0_6.toInt a0_7.toInt a0_8.toInt a0_9.toInt a0_10.toInt (fl_A fa0_12) (fl_A fa0_16) (fl_A fa0_1) = FX at ⊢
  have hF0 := hFX.symm.trans (FfG_X8_newName.eq_1 a1.toInt a0_3.toInt a0_4.toInt a0_5.toInt a0_6.toInt a0_7.toInt a0_8.toInt a0_9.toInt a0_10.toInt (fl_A fa0_12) (fl_A fa0_16) (fl_A fa0_1))
  refine ai_open (fun K hK0 => ?_)
  refine (hK0 _ _ _).mpr ?_
  refine lv_aload_n hx hb dX8_newName_0 rfl (lv_at hl 0 rfl) ?_
  refine va_get (D := (dC, dI)) (ci := 8) (v := .int 0) (C := RX8) (T := TX8) (N := 40) hx hb hts zi_X8_newName_8 hown hK hP 0 rfl rfl 13 (by decide) (hts (.fieldLink RX8 97 "WaxTurnsModel" "failed" "Z") (zm_X8_newName_r1 (List.mem_of_getElem? (i := 0) rfl))) (fun _ h9 => h9) rfl dX8_newName_1 ?_
  refine lv_if_eq (tgt := 8) hx hb dX8_newName_4 (by decide) (fun _ => ?_) (fun c4 => absurd (by decide +kernel) c4)
  refine lv_aload_n hx hb dX8_newName_8 rfl (lv_at hl 0 rfl) ?_
  refine va_get (D := (dC, dI)) (ci := 8) (v := .int a0_6) (C := RX8) (T := TX8) (N := 40) hx hb hts zi_X8_newName_8 hown hK hP 0 rfl rfl 6 (by decide) (hts (.fieldLink RX8 87 "WaxTurnsModel" "token" "I") (zm_X8_newName_r1 (List.mem_of_getElem? (i := 1) rfl))) (fun _ h9 => h9) rfl dX8_newName_9 ?_
  refine lv_iconst (v := 2) hx hb dX8_newName_12 zk_iconst_2 ?_
  refine lv_icmp_ne (tgt := 61) hx hb dX8_newName_13 (by decide) (fun c13 => ?_) (fun c13 => ?_)
  · have gc13 := ai_ne c13
    have hF0 := hF0.trans (if_neg (show ¬ (a0_6.toInt = 2) from  gc13))
    refine lv_aload_n hx hb dX8_newName_61 rfl (lv_at hl 0 rfl) ?_
    refine lv_iconst (v := 1) hx hb dX8_newName_62 zk_iconst_1 ?_
    refine lv_aload_n hx hb dX8_newName_63 rfl (lv_at hl 0 rfl) ?_
    refine va_get (D := (dC, dI)) (ci := 8) (v := .int a0_4) (C := RX8) (T := TX8) (N := 40) hx hb hts zi_X8_newName_8 hown hK hP 0 rfl rfl 4 (by decide) (hts (.fieldLink RX8 78 "WaxTurnsModel" "at" "I") (zm_X8_newName_r1 (List.mem_of_getElem? (i := 2) rfl))) (fun _ h9 => h9) rfl dX8_newName_64 ?_
    refine va_callv (va_runV (As := [.int 1, .int a0_4]) (rest := []) ⟨hx, hb, hml, hown, hts⟩ (fG_X8_wrong l dC dI s.heap.size a0 1 a0_4 a0g_0 (Value.ref a0_1) a0g_2 (Value.int a0_3) (Value.int a0_4) (Value.int a0_5) (Value.int a0_6) (Value.int a0_7) (Value.int a0_8) a0g_11 (Value.ref a0_12) a0g_14 a0g_15 (Value.ref a0_16) a0g_17 a0g_18 a0g_19 a0g_20 a0g_21 a0g_22 a0g_23 a0g_24 a0g_25 a0g_26 a0g_27 a0g_28 a0g_29 a0g_30 a0g_31 a0g_32 a0g_33 a0g_34 a0g_35 a0g_36 a0g_37 a0g_38 a0g_39 a0_9 a0_10 ) (cwV 2 hts gX8_newName_X8_wrong rfl rfl rfl zd_X8_wrong ⟨Nat.le_of_ble_eq_true rfl, Nat.le_of_ble_eq_true rfl⟩) ⟨ax_blind (fun _ _ _ _ _ => trivial), zr_8 (zp_K hK) (zp_P1 hP) (q0 := 0) rfl, ax_pre (zp_P1 hP) (zp_K hK) (zp_D1 hD) (fun _ _ => trivial)⟩ rfl rfl hl.1 rfl (lv_room (Nat.le_of_ble_eq_true rfl)) dX8_newName_67 ⟨Nat.le_of_ble_eq_true rfl, Nat.le_of_ble_eq_true rfl⟩) hS (fun q _ h => zp_F1 hD hS hA q h) (zp_F1 hD hS hA) (fun u t H locs ht hvm hw => zx_2 (fun v67na0_9 v67na0_10 => zy_1 (fun hraw67_0 hB hz1 hk1 hS1 => zo1 hB ht hP hD hk1 (zp_F1 hD hS hA) hS1 (fun hP hK1 hD hS => ?_))))
    rw [show (1 : Int32).toInt = 1 from by decide] at hraw67_0
    have hc67 : FfG_X8_wrong 1 a0_4.toInt = (v67na0_9.toInt, v67na0_10.toInt) := hraw67_0
    have hF0 := hF0.trans (fl_c2_eq hc67)
    refine lv_aload_n hx hb dX8_newName_70 rfl (lv_at hl 0 rfl) ?_
    refine va_get (D := (dC, dI)) (ci := 8) (v := .int 1) (C := RX8) (T := TX8) (N := 40) hx hb hts zi_X8_newName_8 hown hK hP 0 rfl rfl 13 (by decide) (hts (.fieldLink RX8 97 "WaxTurnsModel" "failed" "Z") (zm_X8_newName_r1 (List.mem_of_getElem? (i := 0) rfl))) (fun _ h9 => h9) rfl dX8_newName_71 ?_
    refine lv_if_ne (tgt := 93) hx hb dX8_newName_74 (by decide) (fun _ => ?_) (fun c74 => absurd c74 (by decide +kernel))
    refine lv_aload_n hx hb dX8_newName_93 rfl (lv_at hl 0 rfl) ?_
    refine va_get (D := (dC, dI)) (ci := 8) (v := .int 1) (C := RX8) (T := TX8) (N := 40) hx hb hts zi_X8_newName_8 hown hK hP 0 rfl rfl 13 (by decide) (hts (.fieldLink RX8 97 "WaxTurnsModel" "failed" "Z") (zm_X8_newName_r1 (List.mem_of_getElem? (i := 0) rfl))) (fun _ h9 => h9) rfl dX8_newName_94 ?_
    refine lv_if_eq (tgt := 101) hx hb dX8_newName_97 (by decide) (fun c97 => absurd c97 (by decide +kernel)) (fun _ => ?_)
    have hFe : FX = (a0_4.toInt, a0_5.toInt, a0_6.toInt, a0_7.toInt, a0_8.toInt, v67na0_9.toInt, v67na0_10.toInt, 1, (fl_A fa0_12), (fl_A fa0_16)) := hF0
    exact W.vret hx hb hr (fun t ht hW => ⟨⟨(), rfl, trivial, a0_4, a0_5, a0_6, a0_7, a0_8, v67na0_9, v67na0_10, 1, fa0_12, fa0_16, ⟨ba0_5_l, ba0_5_u⟩, ⟨ba0_8_l, ba0_8_u⟩, ⟨Int.le_trans (by decide) zq1, zq0⟩, bfa0_16, (Or.inl rfl), (em_r _ _), (fun _ _ => rfl), hFe, by rw [ht]; exact hP, va_K.moved hW.alike hK, hD⟩, hS.F ht⟩) hS.2.2 dX8_newName_100
  · have gc13 := ai_eq c13
    have u13f_a0_6 : a0_6.toInt ≤ (2 : Int) := Int.le_trans (Int.le_of_eq gc13) zq13
    have l13f_a0_6 : (2 : Int) ≤ a0_6.toInt := Int.le_trans zq12 (Int.le_of_eq gc13.symm)
    have hF0 := hF0.trans (if_pos (show a0_6.toInt = 2 from gc13))
    refine lv_aload_n hx hb dX8_newName_16 rfl (lv_at hl 0 rfl) ?_
    have u16z_a0_8 : a0_8.toInt ≤ (8 : Int) := hR1 (by omega)
    refine va_ldcS hx hb hown (sxc_R18 hE0) dX8_newName_17 ?_
    have hKc := hK.sub (tys' := [(ka0_12, .int)]) [0] rfl
    refine va_calli (va_runV (As := [.ref (ad 18)]) (rest := []) ⟨hx, hb, hml, hown, hts⟩ (fG_X8_isWord l dC dI s.heap.size a0 (ad 18) a0g_0 (Value.ref a0_1) a0g_2 (Value.int a0_3) (Value.int a0_4) (Value.int a0_5) (Value.int a0_7) (Value.int a0_9) (Value.int a0_10) a0g_11 a0g_14 a0g_15 (Value.ref a0_16) a0g_17 a0g_18 a0g_19 a0g_20 a0g_21 a0g_22 a0g_23 a0g_24 a0g_25 a0g_26 a0g_27 a0g_28 a0g_29 a0g_30 a0g_31 a0g_32 a0g_33 a0g_34 a0g_35 a0g_36 a0g_37 a0g_38 a0g_39 a0_6 a0_8 a0_12 ka0_12 fa0_12 7 (sxc 18) ba0_8_l (Int.le_trans u16z_a0_8 zq233)) (cwV 1 hts gX8_newName_X8_isWord rfl rfl rfl zd_X8_isWord ⟨Nat.le_of_ble_eq_true rfl, Nat.le_of_ble_eq_true rfl⟩) ⟨ax_blind (fun _ _ _ _ hq => sxc_W_same _ _ _ _ (hq)), zr_8 hKc (zp_P2 hP) (q0 := 0) rfl, ax_preE (zp_P2 hP) hKc (zp_D2 hD) (fun U hU hW => sxc_W_to (sxc_T_w hE0 (i := 18) (by decide)) hS.2.1 (zp_F2 hD hS hA) hU hW)⟩ rfl rfl hl.1 rfl (lv_room (Nat.le_of_ble_eq_true rfl)) dX8_newName_19 ⟨Nat.le_of_ble_eq_true rfl, Nat.le_of_ble_eq_true rfl⟩) hS (fun q _ h => zp_F2 hD hS hA q h) (zp_F2 hD hS hA) (fun r19 u t H locs ht hvm hw hB hz1 hk1 hS1 => zo2 hB ht hP hD hk1 (zp_F2 hD hS hA) hS1 (fun hP hK1 hD hS => ?_))
    obtain ⟨hw, hfr19⟩ := hw
    rw [show ((7 : Nat) : Int) = 7 from rfl] at hfr19
    have hc19 : FfG_X8_isWord a0_6.toInt a0_8.toInt (fl_A fa0_12) 7 (fl_A (sxc 18)) = r19.toInt := hfr19.symm
    have hF0 := hF0.trans (fl_lt_eq hc19.symm)
    have hw : (0 : Int) ≤ r19.toInt ∧ r19.toInt ≤ (1 : Int) := hw
    obtain ⟨h19_0, h19_1⟩ := hw
    refine lv_if_ne (tgt := 61) hx hb dX8_newName_22 (by decide) (fun c22 => ?_) (fun c22 => ?_)
    · have gc22 := ai_ne c22
      have l22t_r19 : (1 : Int) ≤ r19.toInt := (by first | exact zg_l h19_0 gc22 (by decide) (by decide) | (have h1 := h19_0; have h2 : (0 : Int32).toInt = 0 := (by decide); rw [h2] at gc22; omega))
      have hF0 := hF0.trans (if_neg (show ¬ (r19.toInt = 0) from  gc22))
      refine lv_aload_n hx hb dX8_newName_61 rfl (lv_at hl 0 rfl) ?_
      refine lv_iconst (v := 1) hx hb dX8_newName_62 zk_iconst_1 ?_
      refine lv_aload_n hx hb dX8_newName_63 rfl (lv_at hl 0 rfl) ?_
      refine va_get (D := (dC, dI)) (ci := 8) (v := .int a0_4) (C := RX8) (T := TX8) (N := 40) hx hb hts zi_X8_newName_8 hown hK hP 0 rfl rfl 4 (by decide) (hts (.fieldLink RX8 78 "WaxTurnsModel" "at" "I") (zm_X8_newName_r1 (List.mem_of_getElem? (i := 2) rfl))) (fun _ h9 => h9) rfl dX8_newName_64 ?_
      refine va_callv (va_runV (As := [.int 1, .int a0_4]) (rest := []) ⟨hx, hb, hml, hown, hts⟩ (fG_X8_wrong l dC dI H.size a0 1 a0_4 a0g_0 (Value.ref a0_1) a0g_2 (Value.int a0_3) (Value.int a0_4) (Value.int a0_5) (Value.int a0_6) (Value.int a0_7) (Value.int a0_8) a0g_11 (Value.ref a0_12) a0g_14 a0g_15 (Value.ref a0_16) a0g_17 a0g_18 a0g_19 a0g_20 a0g_21 a0g_22 a0g_23 a0g_24 a0g_25 a0g_26 a0g_27 a0g_28 a0g_29 a0g_30 a0g_31 a0g_32 a0g_33 a0g_34 a0g_35 a0g_36 a0g_37 a0g_38 a0g_39 a0_9 a0_10 ) (cwV 2 hts gX8_newName_X8_wrong rfl rfl rfl zd_X8_wrong ⟨Nat.le_of_ble_eq_true rfl, Nat.le_of_ble_eq_true rfl⟩) ⟨ax_blind (fun _ _ _ _ _ => trivial), zr_8 (zp_K hK) (zp_P1 hP) (q0 := 0) rfl, ax_pre (zp_P1 hP) (zp_K hK) (zp_D1 hD) (fun _ _ => trivial)⟩ rfl rfl hl.1 rfl (lv_room (Nat.le_of_ble_eq_true rfl)) dX8_newName_67 ⟨Nat.le_of_ble_eq_true rfl, Nat.le_of_ble_eq_true rfl⟩) hS (fun q _ h => zp_F1 hD hS hA q h) (zp_F1 hD hS hA) (fun u t H locs ht hvm hw => zx_2 (fun v67na0_9 v67na0_10 => zy_1 (fun hraw67_0 hB hz1 hk1 hS1 => zo1 hB ht hP hD hk1 (zp_F1 hD hS hA) hS1 (fun hP hK1 hD hS => ?_))))
      rw [show (1 : Int32).toInt = 1 from by decide] at hraw67_0
      have hc67 : FfG_X8_wrong 1 a0_4.toInt = (v67na0_9.toInt, v67na0_10.toInt) := hraw67_0
      have hF0 := hF0.trans (fl_c2_eq hc67)
      refine lv_aload_n hx hb dX8_newName_70 rfl (lv_at hl 0 rfl) ?_
      refine va_get (D := (dC, dI)) (ci := 8) (v := .int 1) (C := RX8) (T := TX8) (N := 40) hx hb hts zi_X8_newName_8 hown hK hP 0 rfl rfl 13 (by decide) (hts (.fieldLink RX8 97 "WaxTurnsModel" "failed" "Z") (zm_X8_newName_r1 (List.mem_of_getElem? (i := 0) rfl))) (fun _ h9 => h9) rfl dX8_newName_71 ?_
      refine lv_if_ne (tgt := 93) hx hb dX8_newName_74 (by decide) (fun _ => ?_) (fun c74 => absurd c74 (by decide +kernel))
      refine lv_aload_n hx hb dX8_newName_93 rfl (lv_at hl 0 rfl) ?_
      refine va_get (D := (dC, dI)) (ci := 8) (v := .int 1) (C := RX8) (T := TX8) (N := 40) hx hb hts zi_X8_newName_8 hown hK hP 0 rfl rfl 13 (by decide) (hts (.fieldLink RX8 97 "WaxTurnsModel" "failed" "Z") (zm_X8_newName_r1 (List.mem_of_getElem? (i := 0) rfl))) (fun _ h9 => h9) rfl dX8_newName_94 ?_
      refine lv_if_eq (tgt := 101) hx hb dX8_newName_97 (by decide) (fun c97 => absurd c97 (by decide +kernel)) (fun _ => ?_)
      have hFe : FX = (a0_4.toInt, a0_5.toInt, a0_6.toInt, a0_7.toInt, a0_8.toInt, v67na0_9.toInt, v67na0_10.toInt, 1, (fl_A fa0_12), (fl_A fa0_16)) := hF0
      exact W.vret hx hb hr (fun t ht hW => ⟨⟨(), rfl, trivial, a0_4, a0_5, a0_6, a0_7, a0_8, v67na0_9, v67na0_10, 1, fa0_12, fa0_16, ⟨ba0_5_l, ba0_5_u⟩, ⟨ba0_8_l, Int.le_trans u16z_a0_8 (by decide)⟩, ⟨Int.le_trans (by decide) zq1, zq0⟩, bfa0_16, (Or.inl rfl), (em_r _ _), (fun _ _ => rfl), hFe, by rw [ht]; exact hP, va_K.moved hW.alike hK, hD⟩, hS.F ht⟩) hS.2.2 dX8_newName_100
    · have gc22 := ai_eq c22
      have u22f_r19 : r19.toInt ≤ (0 : Int) := Int.le_trans (Int.le_of_eq gc22) zq6
      have l22f_r19 : (0 : Int) ≤ r19.toInt := h19_0
      have hF0 := hF0.trans (if_pos (show r19.toInt = 0 from gc22))
      refine lv_aload_n hx hb dX8_newName_25 rfl (lv_at hl 0 rfl) ?_
      refine va_ldcS hx hb hown (sxc_R19 hE0) dX8_newName_26 ?_
      have hKc := hK.sub (tys' := [(ka0_12, .int)]) [0] rfl
      refine va_calli (va_runV (As := [.ref (ad 19)]) (rest := []) ⟨hx, hb, hml, hown, hts⟩ (fG_X8_isWord l dC dI H.size a0 (ad 19) a0g_0 (Value.ref a0_1) a0g_2 (Value.int a0_3) (Value.int a0_4) (Value.int a0_5) (Value.int a0_7) (Value.int a0_9) (Value.int a0_10) a0g_11 a0g_14 a0g_15 (Value.ref a0_16) a0g_17 a0g_18 a0g_19 a0g_20 a0g_21 a0g_22 a0g_23 a0g_24 a0g_25 a0g_26 a0g_27 a0g_28 a0g_29 a0g_30 a0g_31 a0g_32 a0g_33 a0g_34 a0g_35 a0g_36 a0g_37 a0g_38 a0g_39 a0_6 a0_8 a0_12 ka0_12 fa0_12 3 (sxc 19) ba0_8_l (Int.le_trans u16z_a0_8 zq233)) (cwV 1 hts gX8_newName_X8_isWord rfl rfl rfl zd_X8_isWord ⟨Nat.le_of_ble_eq_true rfl, Nat.le_of_ble_eq_true rfl⟩) ⟨ax_blind (fun _ _ _ _ hq => sxc_W_same _ _ _ _ (hq)), zr_8 hKc (zp_P2 hP) (q0 := 0) rfl, ax_preE (zp_P2 hP) hKc (zp_D2 hD) (fun U hU hW => sxc_W_to (sxc_T_w hE0 (i := 19) (by decide)) hS.2.1 (zp_F2 hD hS hA) hU hW)⟩ rfl rfl hl.1 rfl (lv_room (Nat.le_of_ble_eq_true rfl)) dX8_newName_28 ⟨Nat.le_of_ble_eq_true rfl, Nat.le_of_ble_eq_true rfl⟩) hS (fun q _ h => zp_F2 hD hS hA q h) (zp_F2 hD hS hA) (fun r28 u t H locs ht hvm hw hB hz1 hk1 hS1 => zo2 hB ht hP hD hk1 (zp_F2 hD hS hA) hS1 (fun hP hK1 hD hS => ?_))
      obtain ⟨hw, hfr28⟩ := hw
      rw [show ((3 : Nat) : Int) = 3 from rfl] at hfr28
      have hc28 : FfG_X8_isWord a0_6.toInt a0_8.toInt (fl_A fa0_12) 3 (fl_A (sxc 19)) = r28.toInt := hfr28.symm
      have hF0 := hF0.trans (fl_lt_eq hc28.symm)
      have hw : (0 : Int) ≤ r28.toInt ∧ r28.toInt ≤ (1 : Int) := hw
      obtain ⟨h28_0, h28_1⟩ := hw
      refine lv_if_ne (tgt := 61) hx hb dX8_newName_31 (by decide) (fun c31 => ?_) (fun c31 => ?_)
      · have gc31 := ai_ne c31
        have l31t_r28 : (1 : Int) ≤ r28.toInt := (by first | exact zg_l h28_0 gc31 (by decide) (by decide) | (have h1 := h28_0; have h2 : (0 : Int32).toInt = 0 := (by decide); rw [h2] at gc31; omega))
        have hF0 := hF0.trans (if_neg (show ¬ (r28.toInt = 0) from  gc31))
        refine lv_aload_n hx hb dX8_newName_61 rfl (lv_at hl 0 rfl) ?_
        refine lv_iconst (v := 1) hx hb dX8_newName_62 zk_iconst_1 ?_
        refine lv_aload_n hx hb dX8_newName_63 rfl (lv_at hl 0 rfl) ?_
        refine va_get (D := (dC, dI)) (ci := 8) (v := .int a0_4) (C := RX8) (T := TX8) (N := 40) hx hb hts zi_X8_newName_8 hown hK hP 0 rfl rfl 4 (by decide) (hts (.fieldLink RX8 78 "WaxTurnsModel" "at" "I") (zm_X8_newName_r1 (List.mem_of_getElem? (i := 2) rfl))) (fun _ h9 => h9) rfl dX8_newName_64 ?_
        refine va_callv (va_runV (As := [.int 1, .int a0_4]) (rest := []) ⟨hx, hb, hml, hown, hts⟩ (fG_X8_wrong l dC dI H.size a0 1 a0_4 a0g_0 (Value.ref a0_1) a0g_2 (Value.int a0_3) (Value.int a0_4) (Value.int a0_5) (Value.int a0_6) (Value.int a0_7) (Value.int a0_8) a0g_11 (Value.ref a0_12) a0g_14 a0g_15 (Value.ref a0_16) a0g_17 a0g_18 a0g_19 a0g_20 a0g_21 a0g_22 a0g_23 a0g_24 a0g_25 a0g_26 a0g_27 a0g_28 a0g_29 a0g_30 a0g_31 a0g_32 a0g_33 a0g_34 a0g_35 a0g_36 a0g_37 a0g_38 a0g_39 a0_9 a0_10 ) (cwV 2 hts gX8_newName_X8_wrong rfl rfl rfl zd_X8_wrong ⟨Nat.le_of_ble_eq_true rfl, Nat.le_of_ble_eq_true rfl⟩) ⟨ax_blind (fun _ _ _ _ _ => trivial), zr_8 (zp_K hK) (zp_P1 hP) (q0 := 0) rfl, ax_pre (zp_P1 hP) (zp_K hK) (zp_D1 hD) (fun _ _ => trivial)⟩ rfl rfl hl.1 rfl (lv_room (Nat.le_of_ble_eq_true rfl)) dX8_newName_67 ⟨Nat.le_of_ble_eq_true rfl, Nat.le_of_ble_eq_true rfl⟩) hS (fun q _ h => zp_F1 hD hS hA q h) (zp_F1 hD hS hA) (fun u t H locs ht hvm hw => zx_2 (fun v67na0_9 v67na0_10 => zy_1 (fun hraw67_0 hB hz1 hk1 hS1 => zo1 hB ht hP hD hk1 (zp_F1 hD hS hA) hS1 (fun hP hK1 hD hS => ?_))))
        rw [show (1 : Int32).toInt = 1 from by decide] at hraw67_0
        have hc67 : FfG_X8_wrong 1 a0_4.toInt = (v67na0_9.toInt, v67na0_10.toInt) := hraw67_0
        have hF0 := hF0.trans (fl_c2_eq hc67)
        refine lv_aload_n hx hb dX8_newName_70 rfl (lv_at hl 0 rfl) ?_
        refine va_get (D := (dC, dI)) (ci := 8) (v := .int 1) (C := RX8) (T := TX8) (N := 40) hx hb hts zi_X8_newName_8 hown hK hP 0 rfl rfl 13 (by decide) (hts (.fieldLink RX8 97 "WaxTurnsModel" "failed" "Z") (zm_X8_newName_r1 (List.mem_of_getElem? (i := 0) rfl))) (fun _ h9 => h9) rfl dX8_newName_71 ?_
        refine lv_if_ne (tgt := 93) hx hb dX8_newName_74 (by decide) (fun _ => ?_) (fun c74 => absurd c74 (by decide +kernel))
        refine lv_aload_n hx hb dX8_newName_93 rfl (lv_at hl 0 rfl) ?_
        refine va_get (D := (dC, dI)) (ci := 8) (v := .int 1) (C := RX8) (T := TX8) (N := 40) hx hb hts zi_X8_newName_8 hown hK hP 0 rfl rfl 13 (by decide) (hts (.fieldLink RX8 97 "WaxTurnsModel" "failed" "Z") (zm_X8_newName_r1 (List.mem_of_getElem? (i := 0) rfl))) (fun _ h9 => h9) rfl dX8_newName_94 ?_
        refine lv_if_eq (tgt := 101) hx hb dX8_newName_97 (by decide) (fun c97 => absurd c97 (by decide +kernel)) (fun _ => ?_)
        have hFe : FX = (a0_4.toInt, a0_5.toInt, a0_6.toInt, a0_7.toInt, a0_8.toInt, v67na0_9.toInt, v67na0_10.toInt, 1, (fl_A fa0_12), (fl_A fa0_16)) := hF0
        exact W.vret hx hb hr (fun t ht hW => ⟨⟨(), rfl, trivial, a0_4, a0_5, a0_6, a0_7, a0_8, v67na0_9, v67na0_10, 1, fa0_12, fa0_16, ⟨ba0_5_l, ba0_5_u⟩, ⟨ba0_8_l, Int.le_trans u16z_a0_8 (by decide)⟩, ⟨Int.le_trans (by decide) zq1, zq0⟩, bfa0_16, (Or.inl rfl), (em_r _ _), (fun _ _ => rfl), hFe, by rw [ht]; exact hP, va_K.moved hW.alike hK, hD⟩, hS.F ht⟩) hS.2.2 dX8_newName_100
      · have gc31 := ai_eq c31
        have u31f_r28 : r28.toInt ≤ (0 : Int) := Int.le_trans (Int.le_of_eq gc31) zq6
        have l31f_r28 : (0 : Int) ≤ r28.toInt := h28_0
        have hF0 := hF0.trans (if_pos (show r28.toInt = 0 from gc31))
        refine lv_aload_n hx hb dX8_newName_34 rfl (lv_at hl 0 rfl) ?_
        refine va_ldcS hx hb hown (sxc_R20 hE0) dX8_newName_35 ?_
        have hKc := hK.sub (tys' := [(ka0_12, .int)]) [0] rfl
        refine va_calli (va_runV (As := [.ref (ad 20)]) (rest := []) ⟨hx, hb, hml, hown, hts⟩ (fG_X8_isWord l dC dI H.size a0 (ad 20) a0g_0 (Value.ref a0_1) a0g_2 (Value.int a0_3) (Value.int a0_4) (Value.int a0_5) (Value.int a0_7) (Value.int a0_9) (Value.int a0_10) a0g_11 a0g_14 a0g_15 (Value.ref a0_16) a0g_17 a0g_18 a0g_19 a0g_20 a0g_21 a0g_22 a0g_23 a0g_24 a0g_25 a0g_26 a0g_27 a0g_28 a0g_29 a0g_30 a0g_31 a0g_32 a0g_33 a0g_34 a0g_35 a0g_36 a0g_37 a0g_38 a0g_39 a0_6 a0_8 a0_12 ka0_12 fa0_12 6 (sxc 20) ba0_8_l (Int.le_trans u16z_a0_8 zq233)) (cwV 1 hts gX8_newName_X8_isWord rfl rfl rfl zd_X8_isWord ⟨Nat.le_of_ble_eq_true rfl, Nat.le_of_ble_eq_true rfl⟩) ⟨ax_blind (fun _ _ _ _ hq => sxc_W_same _ _ _ _ (hq)), zr_8 hKc (zp_P2 hP) (q0 := 0) rfl, ax_preE (zp_P2 hP) hKc (zp_D2 hD) (fun U hU hW => sxc_W_to (sxc_T_w hE0 (i := 20) (by decide)) hS.2.1 (zp_F2 hD hS hA) hU hW)⟩ rfl rfl hl.1 rfl (lv_room (Nat.le_of_ble_eq_true rfl)) dX8_newName_37 ⟨Nat.le_of_ble_eq_true rfl, Nat.le_of_ble_eq_true rfl⟩) hS (fun q _ h => zp_F2 hD hS hA q h) (zp_F2 hD hS hA) (fun r37 u t H locs ht hvm hw hB hz1 hk1 hS1 => zo2 hB ht hP hD hk1 (zp_F2 hD hS hA) hS1 (fun hP hK1 hD hS => ?_))
        obtain ⟨hw, hfr37⟩ := hw
        rw [show ((6 : Nat) : Int) = 6 from rfl] at hfr37
        have hc37 : FfG_X8_isWord a0_6.toInt a0_8.toInt (fl_A fa0_12) 6 (fl_A (sxc 20)) = r37.toInt := hfr37.symm
        have hF0 := hF0.trans (fl_lt_eq hc37.symm)
        have hw : (0 : Int) ≤ r37.toInt ∧ r37.toInt ≤ (1 : Int) := hw
        obtain ⟨h37_0, h37_1⟩ := hw
        refine lv_if_ne (tgt := 61) hx hb dX8_newName_40 (by decide) (fun c40 => ?_) (fun c40 => ?_)
        · have gc40 := ai_ne c40
          have l40t_r37 : (1 : Int) ≤ r37.toInt := (by first | exact zg_l h37_0 gc40 (by decide) (by decide) | (have h1 := h37_0; have h2 : (0 : Int32).toInt = 0 := (by decide); rw [h2] at gc40; omega))
          have hF0 := hF0.trans (if_neg (show ¬ (r37.toInt = 0) from  gc40))
          refine lv_aload_n hx hb dX8_newName_61 rfl (lv_at hl 0 rfl) ?_
          refine lv_iconst (v := 1) hx hb dX8_newName_62 zk_iconst_1 ?_
          refine lv_aload_n hx hb dX8_newName_63 rfl (lv_at hl 0 rfl) ?_
          refine va_get (D := (dC, dI)) (ci := 8) (v := .int a0_4) (C := RX8) (T := TX8) (N := 40) hx hb hts zi_X8_newName_8 hown hK hP 0 rfl rfl 4 (by decide) (hts (.fieldLink RX8 78 "WaxTurnsModel" "at" "I") (zm_X8_newName_r1 (List.mem_of_getElem? (i := 2) rfl))) (fun _ h9 => h9) rfl dX8_newName_64 ?_
          refine va_callv (va_runV (As := [.int 1, .int a0_4]) (rest := []) ⟨hx, hb, hml, hown, hts⟩ (fG_X8_wrong l dC dI H.size a0 1 a0_4 a0g_0 (Value.ref a0_1) a0g_2 (Value.int a0_3) (Value.int a0_4) (Value.int a0_5) (Value.int a0_6) (Value.int a0_7) (Value.int a0_8) a0g_11 (Value.ref a0_12) a0g_14 a0g_15 (Value.ref a0_16) a0g_17 a0g_18 a0g_19 a0g_20 a0g_21 a0g_22 a0g_23 a0g_24 a0g_25 a0g_26 a0g_27 a0g_28 a0g_29 a0g_30 a0g_31 a0g_32 a0g_33 a0g_34 a0g_35 a0g_36 a0g_37 a0g_38 a0g_39 a0_9 a0_10 ) (cwV 2 hts gX8_newName_X8_wrong rfl rfl rfl zd_X8_wrong ⟨Nat.le_of_ble_eq_true rfl, Nat.le_of_ble_eq_true rfl⟩) ⟨ax_blind (fun _ _ _ _ _ => trivial), zr_8 (zp_K hK) (zp_P1 hP) (q0 := 0) rfl, ax_pre (zp_P1 hP) (zp_K hK) (zp_D1 hD) (fun _ _ => trivial)⟩ rfl rfl hl.1 rfl (lv_room (Nat.le_of_ble_eq_true rfl)) dX8_newName_67 ⟨Nat.le_of_ble_eq_true rfl, Nat.le_of_ble_eq_true rfl⟩) hS (fun q _ h => zp_F1 hD hS hA q h) (zp_F1 hD hS hA) (fun u t H locs ht hvm hw => zx_2 (fun v67na0_9 v67na0_10 => zy_1 (fun hraw67_0 hB hz1 hk1 hS1 => zo1 hB ht hP hD hk1 (zp_F1 hD hS hA) hS1 (fun hP hK1 hD hS => ?_))))
          rw [show (1 : Int32).toInt = 1 from by decide] at hraw67_0
          have hc67 : FfG_X8_wrong 1 a0_4.toInt = (v67na0_9.toInt, v67na0_10.toInt) := hraw67_0
          have hF0 := hF0.trans (fl_c2_eq hc67)
          refine lv_aload_n hx hb dX8_newName_70 rfl (lv_at hl 0 rfl) ?_
          refine va_get (D := (dC, dI)) (ci := 8) (v := .int 1) (C := RX8) (T := TX8) (N := 40) hx hb hts zi_X8_newName_8 hown hK hP 0 rfl rfl 13 (by decide) (hts (.fieldLink RX8 97 "WaxTurnsModel" "failed" "Z") (zm_X8_newName_r1 (List.mem_of_getElem? (i := 0) rfl))) (fun _ h9 => h9) rfl dX8_newName_71 ?_
          refine lv_if_ne (tgt := 93) hx hb dX8_newName_74 (by decide) (fun _ => ?_) (fun c74 => absurd c74 (by decide +kernel))
          refine lv_aload_n hx hb dX8_newName_93 rfl (lv_at hl 0 rfl) ?_
          refine va_get (D := (dC, dI)) (ci := 8) (v := .int 1) (C := RX8) (T := TX8) (N := 40) hx hb hts zi_X8_newName_8 hown hK hP 0 rfl rfl 13 (by decide) (hts (.fieldLink RX8 97 "WaxTurnsModel" "failed" "Z") (zm_X8_newName_r1 (List.mem_of_getElem? (i := 0) rfl))) (fun _ h9 => h9) rfl dX8_newName_94 ?_
          refine lv_if_eq (tgt := 101) hx hb dX8_newName_97 (by decide) (fun c97 => absurd c97 (by decide +kernel)) (fun _ => ?_)
          have hFe : FX = (a0_4.toInt, a0_5.toInt, a0_6.toInt, a0_7.toInt, a0_8.toInt, v67na0_9.toInt, v67na0_10.toInt, 1, (fl_A fa0_12), (fl_A fa0_16)) := hF0
          exact W.vret hx hb hr (fun t ht hW => ⟨⟨(), rfl, trivial, a0_4, a0_5, a0_6, a0_7, a0_8, v67na0_9, v67na0_10, 1, fa0_12, fa0_16, ⟨ba0_5_l, ba0_5_u⟩, ⟨ba0_8_l, Int.le_trans u16z_a0_8 (by decide)⟩, ⟨Int.le_trans (by decide) zq1, zq0⟩, bfa0_16, (Or.inl rfl), (em_r _ _), (fun _ _ => rfl), hFe, by rw [ht]; exact hP, va_K.moved hW.alike hK, hD⟩, hS.F ht⟩) hS.2.2 dX8_newName_100
        · have gc40 := ai_eq c40
          have u40f_r37 : r37.toInt ≤ (0 : Int) := Int.le_trans (Int.le_of_eq gc40) zq6
          have l40f_r37 : (0 : Int) ≤ r37.toInt := h37_0
          have hF0 := hF0.trans (if_pos (show r37.toInt = 0 from gc40))
          refine lv_aload_n hx hb dX8_newName_43 rfl (lv_at hl 0 rfl) ?_
          refine va_ldcS hx hb hown (sxc_R21 hE0) dX8_newName_44 ?_
          have hKc := hK.sub (tys' := [(ka0_12, .int)]) [0] rfl
          refine va_calli (va_runV (As := [.ref (ad 21)]) (rest := []) ⟨hx, hb, hml, hown, hts⟩ (fG_X8_isWord l dC dI H.size a0 (ad 21) a0g_0 (Value.ref a0_1) a0g_2 (Value.int a0_3) (Value.int a0_4) (Value.int a0_5) (Value.int a0_7) (Value.int a0_9) (Value.int a0_10) a0g_11 a0g_14 a0g_15 (Value.ref a0_16) a0g_17 a0g_18 a0g_19 a0g_20 a0g_21 a0g_22 a0g_23 a0g_24 a0g_25 a0g_26 a0g_27 a0g_28 a0g_29 a0g_30 a0g_31 a0g_32 a0g_33 a0g_34 a0g_35 a0g_36 a0g_37 a0g_38 a0g_39 a0_6 a0_8 a0_12 ka0_12 fa0_12 7 (sxc 21) ba0_8_l (Int.le_trans u16z_a0_8 zq233)) (cwV 1 hts gX8_newName_X8_isWord rfl rfl rfl zd_X8_isWord ⟨Nat.le_of_ble_eq_true rfl, Nat.le_of_ble_eq_true rfl⟩) ⟨ax_blind (fun _ _ _ _ hq => sxc_W_same _ _ _ _ (hq)), zr_8 hKc (zp_P2 hP) (q0 := 0) rfl, ax_preE (zp_P2 hP) hKc (zp_D2 hD) (fun U hU hW => sxc_W_to (sxc_T_w hE0 (i := 21) (by decide)) hS.2.1 (zp_F2 hD hS hA) hU hW)⟩ rfl rfl hl.1 rfl (lv_room (Nat.le_of_ble_eq_true rfl)) dX8_newName_46 ⟨Nat.le_of_ble_eq_true rfl, Nat.le_of_ble_eq_true rfl⟩) hS (fun q _ h => zp_F2 hD hS hA q h) (zp_F2 hD hS hA) (fun r46 u t H locs ht hvm hw hB hz1 hk1 hS1 => zo2 hB ht hP hD hk1 (zp_F2 hD hS hA) hS1 (fun hP hK1 hD hS => ?_))
          obtain ⟨hw, hfr46⟩ := hw
          rw [show ((7 : Nat) : Int) = 7 from rfl] at hfr46
          have hc46 : FfG_X8_isWord a0_6.toInt a0_8.toInt (fl_A fa0_12) 7 (fl_A (sxc 21)) = r46.toInt := hfr46.symm
          have hF0 := hF0.trans (fl_lt_eq hc46.symm)
          have hw : (0 : Int) ≤ r46.toInt ∧ r46.toInt ≤ (1 : Int) := hw
          obtain ⟨h46_0, h46_1⟩ := hw
          refine lv_if_ne (tgt := 61) hx hb dX8_newName_49 (by decide) (fun c49 => ?_) (fun c49 => ?_)
          · have gc49 := ai_ne c49
            have l49t_r46 : (1 : Int) ≤ r46.toInt := (by first | exact zg_l h46_0 gc49 (by decide) (by decide) | (have h1 := h46_0; have h2 : (0 : Int32).toInt = 0 := (by decide); rw [h2] at gc49; omega))
            have hF0 := hF0.trans (if_neg (show ¬ (r46.toInt = 0) from  gc49))
            refine lv_aload_n hx hb dX8_newName_61 rfl (lv_at hl 0 rfl) ?_
            refine lv_iconst (v := 1) hx hb dX8_newName_62 zk_iconst_1 ?_
            refine lv_aload_n hx hb dX8_newName_63 rfl (lv_at hl 0 rfl) ?_
            refine va_get (D := (dC, dI)) (ci := 8) (v := .int a0_4) (C := RX8) (T := TX8) (N := 40) hx hb hts zi_X8_newName_8 hown hK hP 0 rfl rfl 4 (by decide) (hts (.fieldLink RX8 78 "WaxTurnsModel" "at" "I") (zm_X8_newName_r1 (List.mem_of_getElem? (i := 2) rfl))) (fun _ h9 => h9) rfl dX8_newName_64 ?_
            refine va_callv (va_runV (As := [.int 1, .int a0_4]) (rest := []) ⟨hx, hb, hml, hown, hts⟩ (fG_X8_wrong l dC dI H.size a0 1 a0_4 a0g_0 (Value.ref a0_1) a0g_2 (Value.int a0_3) (Value.int a0_4) (Value.int a0_5) (Value.int a0_6) (Value.int a0_7) (Value.int a0_8) a0g_11 (Value.ref a0_12) a0g_14 a0g_15 (Value.ref a0_16) a0g_17 a0g_18 a0g_19 a0g_20 a0g_21 a0g_22 a0g_23 a0g_24 a0g_25 a0g_26 a0g_27 a0g_28 a0g_29 a0g_30 a0g_31 a0g_32 a0g_33 a0g_34 a0g_35 a0g_36 a0g_37 a0g_38 a0g_39 a0_9 a0_10 ) (cwV 2 hts gX8_newName_X8_wrong rfl rfl rfl zd_X8_wrong ⟨Nat.le_of_ble_eq_true rfl, Nat.le_of_ble_eq_true rfl⟩) ⟨ax_blind (fun _ _ _ _ _ => trivial), zr_8 (zp_K hK) (zp_P1 hP) (q0 := 0) rfl, ax_pre (zp_P1 hP) (zp_K hK) (zp_D1 hD) (fun _ _ => trivial)⟩ rfl rfl hl.1 rfl (lv_room (Nat.le_of_ble_eq_true rfl)) dX8_newName_67 ⟨Nat.le_of_ble_eq_true rfl, Nat.le_of_ble_eq_true rfl⟩) hS (fun q _ h => zp_F1 hD hS hA q h) (zp_F1 hD hS hA) (fun u t H locs ht hvm hw => zx_2 (fun v67na0_9 v67na0_10 => zy_1 (fun hraw67_0 hB hz1 hk1 hS1 => zo1 hB ht hP hD hk1 (zp_F1 hD hS hA) hS1 (fun hP hK1 hD hS => ?_))))
            rw [show (1 : Int32).toInt = 1 from by decide] at hraw67_0
            have hc67 : FfG_X8_wrong 1 a0_4.toInt = (v67na0_9.toInt, v67na0_10.toInt) := hraw67_0
            have hF0 := hF0.trans (fl_c2_eq hc67)
            refine lv_aload_n hx hb dX8_newName_70 rfl (lv_at hl 0 rfl) ?_
            refine va_get (D := (dC, dI)) (ci := 8) (v := .int 1) (C := RX8) (T := TX8) (N := 40) hx hb hts zi_X8_newName_8 hown hK hP 0 rfl rfl 13 (by decide) (hts (.fieldLink RX8 97 "WaxTurnsModel" "failed" "Z") (zm_X8_newName_r1 (List.mem_of_getElem? (i := 0) rfl))) (fun _ h9 => h9) rfl dX8_newName_71 ?_
            refine lv_if_ne (tgt := 93) hx hb dX8_newName_74 (by decide) (fun _ => ?_) (fun c74 => absurd c74 (by decide +kernel))
            refine lv_aload_n hx hb dX8_newName_93 rfl (lv_at hl 0 rfl) ?_
            refine va_get (D := (dC, dI)) (ci := 8) (v := .int 1) (C := RX8) (T := TX8) (N := 40) hx hb hts zi_X8_newName_8 hown hK hP 0 rfl rfl 13 (by decide) (hts (.fieldLink RX8 97 "WaxTurnsModel" "failed" "Z") (zm_X8_newName_r1 (List.mem_of_getElem? (i := 0) rfl))) (fun _ h9 => h9) rfl dX8_newName_94 ?_
            refine lv_if_eq (tgt := 101) hx hb dX8_newName_97 (by decide) (fun c97 => absurd c97 (by decide +kernel)) (fun _ => ?_)
            have hFe : FX = (a0_4.toInt, a0_5.toInt, a0_6.toInt, a0_7.toInt, a0_8.toInt, v67na0_9.toInt, v67na0_10.toInt, 1, (fl_A fa0_12), (fl_A fa0_16)) := hF0
            exact W.vret hx hb hr (fun t ht hW => ⟨⟨(), rfl, trivial, a0_4, a0_5, a0_6, a0_7, a0_8, v67na0_9, v67na0_10, 1, fa0_12, fa0_16, ⟨ba0_5_l, ba0_5_u⟩, ⟨ba0_8_l, Int.le_trans u16z_a0_8 (by decide)⟩, ⟨Int.le_trans (by decide) zq1, zq0⟩, bfa0_16, (Or.inl rfl), (em_r _ _), (fun _ _ => rfl), hFe, by rw [ht]; exact hP, va_K.moved hW.alike hK, hD⟩, hS.F ht⟩) hS.2.2 dX8_newName_100
          · have gc49 := ai_eq c49
            have u49f_r46 : r46.toInt ≤ (0 : Int) := Int.le_trans (Int.le_of_eq gc49) zq6
            have l49f_r46 : (0 : Int) ≤ r46.toInt := h46_0
            have hF0 := hF0.trans (if_pos (show r46.toInt = 0 from gc49))
            refine lv_aload_n hx hb dX8_newName_52 rfl (lv_at hl 0 rfl) ?_
            refine va_ldcS hx hb hown (sxc_R22 hE0) dX8_newName_53 ?_
            have hKc := hK.sub (tys' := [(ka0_12, .int)]) [0] rfl
            refine va_calli (va_runV (As := [.ref (ad 22)]) (rest := []) ⟨hx, hb, hml, hown, hts⟩ (fG_X8_isWord l dC dI H.size a0 (ad 22) a0g_0 (Value.ref a0_1) a0g_2 (Value.int a0_3) (Value.int a0_4) (Value.int a0_5) (Value.int a0_7) (Value.int a0_9) (Value.int a0_10) a0g_11 a0g_14 a0g_15 (Value.ref a0_16) a0g_17 a0g_18 a0g_19 a0g_20 a0g_21 a0g_22 a0g_23 a0g_24 a0g_25 a0g_26 a0g_27 a0g_28 a0g_29 a0g_30 a0g_31 a0g_32 a0g_33 a0g_34 a0g_35 a0g_36 a0g_37 a0g_38 a0g_39 a0_6 a0_8 a0_12 ka0_12 fa0_12 4 (sxc 22) ba0_8_l (Int.le_trans u16z_a0_8 zq233)) (cwV 1 hts gX8_newName_X8_isWord rfl rfl rfl zd_X8_isWord ⟨Nat.le_of_ble_eq_true rfl, Nat.le_of_ble_eq_true rfl⟩) ⟨ax_blind (fun _ _ _ _ hq => sxc_W_same _ _ _ _ (hq)), zr_8 hKc (zp_P2 hP) (q0 := 0) rfl, ax_preE (zp_P2 hP) hKc (zp_D2 hD) (fun U hU hW => sxc_W_to (sxc_T_w hE0 (i := 22) (by decide)) hS.2.1 (zp_F2 hD hS hA) hU hW)⟩ rfl rfl hl.1 rfl (lv_room (Nat.le_of_ble_eq_true rfl)) dX8_newName_55 ⟨Nat.le_of_ble_eq_true rfl, Nat.le_of_ble_eq_true rfl⟩) hS (fun q _ h => zp_F2 hD hS hA q h) (zp_F2 hD hS hA) (fun r55 u t H locs ht hvm hw hB hz1 hk1 hS1 => zo2 hB ht hP hD hk1 (zp_F2 hD hS hA) hS1 (fun hP hK1 hD hS => ?_))
            obtain ⟨hw, hfr55⟩ := hw
            rw [show ((4 : Nat) : Int) = 4 from rfl] at hfr55
            have hc55 : FfG_X8_isWord a0_6.toInt a0_8.toInt (fl_A fa0_12) 4 (fl_A (sxc 22)) = r55.toInt := hfr55.symm
            have hF0 := hF0.trans (fl_lt_eq hc55.symm)
            have hw : (0 : Int) ≤ r55.toInt ∧ r55.toInt ≤ (1 : Int) := hw
            obtain ⟨h55_0, h55_1⟩ := hw
            refine lv_if_eq (tgt := 70) hx hb dX8_newName_58 (by decide) (fun c58 => ?_) (fun c58 => ?_)
            · have gc58 := ai_eq c58
              have u58t_r55 : r55.toInt ≤ (0 : Int) := Int.le_trans (Int.le_of_eq gc58) zq6
              have l58t_r55 : (0 : Int) ≤ r55.toInt := h55_0
              have hF0 := hF0.trans (if_pos (show r55.toInt = 0 from gc58))
              refine lv_aload_n hx hb dX8_newName_70 rfl (lv_at hl 0 rfl) ?_
              refine va_get (D := (dC, dI)) (ci := 8) (v := .int 0) (C := RX8) (T := TX8) (N := 40) hx hb hts zi_X8_newName_8 hown hK hP 0 rfl rfl 13 (by decide) (hts (.fieldLink RX8 97 "WaxTurnsModel" "failed" "Z") (zm_X8_newName_r1 (List.mem_of_getElem? (i := 0) rfl))) (fun _ h9 => h9) rfl dX8_newName_71 ?_
              refine lv_if_ne (tgt := 93) hx hb dX8_newName_74 (by decide) (fun c74 => absurd (by decide +kernel) c74) (fun _ => ?_)
              refine lv_aload_n hx hb dX8_newName_77 rfl (lv_at hl 0 rfl) ?_
              refine zc_cutc (wc := [(a0, .inr (8, [a0g_0, Value.ref a0_1, a0g_2, Value.int a0_3, Value.int a0_4, Value.int a0_5, Value.int a0_6, Value.int a0_7, Value.int a0_8, Value.int a0_9, Value.int a0_10, a0g_11, Value.ref a0_12, Value.int 0, a0g_14, a0g_15, Value.ref a0_16, a0g_17, a0g_18, a0g_19, a0g_20, a0g_21, a0g_22, a0g_23, a0g_24, a0g_25, a0g_26, a0g_27, a0g_28, a0g_29, a0g_30, a0g_31, a0g_32, a0g_33, a0g_34, a0g_35, a0g_36, a0g_37, a0g_38, a0g_39])), (a0_16, .inl (ka0_16, 156, .inl (fa0_16))), (a0_12, .inl (ka0_12, 8, .inl (fa0_12)))]) hP hD hS hA [0, 2, 1] (by decide +kernel) rfl (fun hPc hDc hFc hCc => ?_)
              have hKc := hK.sub (tys' := [(ka0_16, .int), (ka0_12, .int)]) [1, 0] rfl
              refine va_calli (va_runV (As := []) (rest := []) ⟨hx, hb, hml, hown, hts⟩ (f_X8_isKnown l dC dI H.size a0 a0g_0 (Value.ref a0_1) a0g_2 (Value.int a0_3) (Value.int a0_4) (Value.int a0_5) (Value.int a0_6) (Value.int a0_7) (Value.int a0_9) (Value.int a0_10) a0g_11 (Value.int 0) a0g_14 a0g_15 a0g_17 a0g_18 a0g_19 a0g_20 a0g_21 a0g_22 a0g_23 a0g_24 a0g_25 a0g_26 a0g_27 a0g_28 a0g_29 a0g_30 a0g_31 a0g_32 a0g_33 a0g_34 a0g_35 a0g_36 a0g_37 a0g_38 a0g_39 a0_8 a0_12 a0_16 ka0_16 fa0_16 ka0_12 fa0_12 ba0_8_l u16z_a0_8 bfa0_16) (cwV 0 hts gX8_newName_X8_isKnown rfl rfl rfl zd_X8_isKnown ⟨Nat.le_of_ble_eq_true rfl, Nat.le_of_ble_eq_true rfl⟩) ⟨ax_blind (fun _ _ _ _ _ => trivial), zr_8 hKc hPc (q0 := 0) rfl, ax_pre hPc hKc hDc (fun _ _ => trivial)⟩ rfl rfl hl.1 rfl (lv_room (Nat.le_of_ble_eq_true rfl)) dX8_newName_78 ⟨Nat.le_of_ble_eq_true rfl, Nat.le_of_ble_eq_true rfl⟩) hS (fun q _ h => hFc q h) hFc (fun r78 u t H locs ht hvm hw hB hz1 hk1 hS1 => zo hB ht hS1 (fun hP1 hK1 hD1 hS => ?_))
              refine zc_backc (w := [(a0, .inr (8, [a0g_0, Value.ref a0_1, a0g_2, Value.int a0_3, Value.int a0_4, Value.int a0_5, Value.int a0_6, Value.int a0_7, Value.int a0_8, Value.int a0_9, Value.int a0_10, a0g_11, Value.ref a0_12, Value.int 0, a0g_14, a0g_15, Value.ref a0_16, a0g_17, a0g_18, a0g_19, a0g_20, a0g_21, a0g_22, a0g_23, a0g_24, a0g_25, a0g_26, a0g_27, a0g_28, a0g_29, a0g_30, a0g_31, a0g_32, a0g_33, a0g_34, a0g_35, a0g_36, a0g_37, a0g_38, a0g_39])), (a0_12, .inl (ka0_12, 8, .inl (fa0_12))), (a0_16, .inl (ka0_16, 156, .inl (fa0_16))), (a0_1, .inl (ka0_1, 900, .inl (fa0_1)))]) hP hD hCc hk1 hFc hP1 hD1 [.inr 0, .inr 2, .inr 1, .inl 3] (by decide +kernel) rfl (fun hP hD => ?_)
              obtain ⟨hw, hfr78⟩ := hw
              have hc78 : Ff_X8_isKnown a0_8.toInt (fl_A fa0_16) (fl_A fa0_12) = r78.toInt := hfr78.symm
              have hF0 := hF0.trans (fl_lt_eq hc78.symm)
              rcases hw with hw | hw
              · subst hw
                have hF0 := hF0.trans (if_pos (by decide))
                refine lv_if_eq (tgt := 93) hx hb dX8_newName_81 (by decide) (fun c81 => absurd c81 (by decide +kernel)) (fun _ => ?_)
                refine lv_aload_n hx hb dX8_newName_84 rfl (lv_at hl 0 rfl) ?_
                refine lv_iconst (v := 3) hx hb dX8_newName_85 zk_iconst_3 ?_
                refine lv_aload_n hx hb dX8_newName_86 rfl (lv_at hl 0 rfl) ?_
                refine va_get (D := (dC, dI)) (ci := 8) (v := .int a0_4) (C := RX8) (T := TX8) (N := 40) hx hb hts zi_X8_newName_8 hown hK hP 0 rfl rfl 4 (by decide) (hts (.fieldLink RX8 78 "WaxTurnsModel" "at" "I") (zm_X8_newName_r1 (List.mem_of_getElem? (i := 2) rfl))) (fun _ h9 => h9) rfl dX8_newName_87 ?_
                refine va_callv (va_runV (As := [.int 3, .int a0_4]) (rest := []) ⟨hx, hb, hml, hown, hts⟩ (fG_X8_wrong l dC dI H.size a0 3 a0_4 a0g_0 (Value.ref a0_1) a0g_2 (Value.int a0_3) (Value.int a0_4) (Value.int a0_5) (Value.int a0_6) (Value.int a0_7) (Value.int a0_8) a0g_11 (Value.ref a0_12) a0g_14 a0g_15 (Value.ref a0_16) a0g_17 a0g_18 a0g_19 a0g_20 a0g_21 a0g_22 a0g_23 a0g_24 a0g_25 a0g_26 a0g_27 a0g_28 a0g_29 a0g_30 a0g_31 a0g_32 a0g_33 a0g_34 a0g_35 a0g_36 a0g_37 a0g_38 a0g_39 a0_9 a0_10 ) (cwV 2 hts gX8_newName_X8_wrong rfl rfl rfl zd_X8_wrong ⟨Nat.le_of_ble_eq_true rfl, Nat.le_of_ble_eq_true rfl⟩) ⟨ax_blind (fun _ _ _ _ _ => trivial), zr_8 (zp_K hK) (zp_P1 hP) (q0 := 0) rfl, ax_pre (zp_P1 hP) (zp_K hK) (zp_D1 hD) (fun _ _ => trivial)⟩ rfl rfl hl.1 rfl (lv_room (Nat.le_of_ble_eq_true rfl)) dX8_newName_90 ⟨Nat.le_of_ble_eq_true rfl, Nat.le_of_ble_eq_true rfl⟩) hS (fun q _ h => zp_F1 hD hS hA q h) (zp_F1 hD hS hA) (fun u t H locs ht hvm hw => zx_2 (fun v90na0_9 v90na0_10 => zy_1 (fun hraw90_0 hB hz1 hk1 hS1 => zo1 hB ht hP hD hk1 (zp_F1 hD hS hA) hS1 (fun hP hK1 hD hS => ?_))))
                rw [show (3 : Int32).toInt = 3 from by decide] at hraw90_0
                have hc90 : FfG_X8_wrong 3 a0_4.toInt = (v90na0_9.toInt, v90na0_10.toInt) := hraw90_0
                have hF0 := hF0.trans (fl_c2_eq hc90)
                refine lv_aload_n hx hb dX8_newName_93 rfl (lv_at hl 0 rfl) ?_
                refine va_get (D := (dC, dI)) (ci := 8) (v := .int 1) (C := RX8) (T := TX8) (N := 40) hx hb hts zi_X8_newName_8 hown hK hP 0 rfl rfl 13 (by decide) (hts (.fieldLink RX8 97 "WaxTurnsModel" "failed" "Z") (zm_X8_newName_r1 (List.mem_of_getElem? (i := 0) rfl))) (fun _ h9 => h9) rfl dX8_newName_94 ?_
                refine lv_if_eq (tgt := 101) hx hb dX8_newName_97 (by decide) (fun c97 => absurd c97 (by decide +kernel)) (fun _ => ?_)
                have hFe : FX = (a0_4.toInt, a0_5.toInt, a0_6.toInt, a0_7.toInt, a0_8.toInt, v90na0_9.toInt, v90na0_10.toInt, 1, (fl_A fa0_12), (fl_A fa0_16)) := hF0
                exact W.vret hx hb hr (fun t ht hW => ⟨⟨(), rfl, trivial, a0_4, a0_5, a0_6, a0_7, a0_8, v90na0_9, v90na0_10, 1, fa0_12, fa0_16, ⟨ba0_5_l, ba0_5_u⟩, ⟨ba0_8_l, Int.le_trans u16z_a0_8 (by decide)⟩, ⟨Int.le_trans (by decide) zq1, zq0⟩, bfa0_16, (Or.inl rfl), (em_r _ _), (fun _ _ => rfl), hFe, by rw [ht]; exact hP, va_K.moved hW.alike hK, hD⟩, hS.F ht⟩) hS.2.2 dX8_newName_100
              · subst hw
                have hF0 := hF0.trans (if_neg (by decide))
                refine lv_if_eq (tgt := 93) hx hb dX8_newName_81 (by decide) (fun _ => ?_) (fun c81 => absurd (by decide +kernel) c81)
                refine lv_aload_n hx hb dX8_newName_93 rfl (lv_at hl 0 rfl) ?_
                refine va_get (D := (dC, dI)) (ci := 8) (v := .int 0) (C := RX8) (T := TX8) (N := 40) hx hb hts zi_X8_newName_8 hown hK hP 0 rfl rfl 13 (by decide) (hts (.fieldLink RX8 97 "WaxTurnsModel" "failed" "Z") (zm_X8_newName_r1 (List.mem_of_getElem? (i := 0) rfl))) (fun _ h9 => h9) rfl dX8_newName_94 ?_
                refine lv_if_eq (tgt := 101) hx hb dX8_newName_97 (by decide) (fun _ => ?_) (fun c97 => absurd (by decide +kernel) c97)
                refine lv_iconst (v := 0) hx hb dX8_newName_101 zk_iconst_0 ?_
                refine lv_istore_n (lv' := [(2, .int 0), (0, .ref a0), (1, .int a1)]) hx hb dX8_newName_102 rfl hl (by decide) rfl (fun ls hl => ?_)
                have J103 : ∀ (n : Nat) (j103l2 : Int32) (j103a0_16_a : Nat → Int32) (H : Heap) (locs : List Loc) (ls : Array Slot), (9 : Int) - j103l2.toInt ≤ (n : Int) → (0 : Int) ≤ j103l2.toInt → j103l2.toInt ≤ (8 : Int) → ((∀ k : Nat, 0 ≤ k → k ≤ 0 → (0 : Int) ≤ (j103a0_16_a k).toInt ∧ (j103a0_16_a k).toInt ≤ 9) ∧ (∀ k : Nat, 1 ≤ k → k ≤ 1 → (0 : Int) ≤ (j103a0_16_a k).toInt ∧ (j103a0_16_a k).toInt ≤ 20) ∧ (∀ k : Nat, 2 ≤ k → k ≤ 2 → (0 : Int) ≤ (j103a0_16_a k).toInt ∧ (j103a0_16_a k).toInt ≤ 8) ∧ (∀ k : Nat, 3 ≤ k → k ≤ 3 → (0 : Int) ≤ (j103a0_16_a k).toInt ∧ (j103a0_16_a k).toInt ≤ 100) ∧ (∀ k : Nat, 4 ≤ k → k ≤ 4 → (0 : Int) ≤ (j103a0_16_a k).toInt ∧ (j103a0_16_a k).toInt ≤ 9) ∧ (∀ k : Nat, 5 ≤ k → k ≤ 5 → (0 : Int) ≤ (j103a0_16_a k).toInt ∧ (j103a0_16_a k).toInt ≤ 3) ∧ (∀ k : Nat, 6 ≤ k → k ≤ 6 → (0 : Int) ≤ (j103a0_16_a k).toInt ∧ (j103a0_16_a k).toInt ≤ 6) ∧ (∀ k : Nat, 7 ≤ k → k ≤ 9 → (0 : Int) ≤ (j103a0_16_a k).toInt ∧ (j103a0_16_a k).toInt ≤ 8) ∧ (∀ k : Nat, 10 ≤ k → k ≤ 11 → (0 : Int) ≤ (j103a0_16_a k).toInt ∧ (j103a0_16_a k).toInt ≤ 1) ∧ (∀ k : Nat, 12 ≤ k → k ≤ 29 → (0 : Int) ≤ (j103a0_16_a k).toInt ∧ (j103a0_16_a k).toInt ≤ 20) ∧ (∀ k : Nat, 30 ≤ k → k ≤ 35 → (0 : Int) ≤ (j103a0_16_a k).toInt ∧ (j103a0_16_a k).toInt ≤ 8) ∧ (∀ k : Nat, 36 ≤ k → k ≤ 47 → (0 : Int) ≤ (j103a0_16_a k).toInt ∧ (j103a0_16_a k).toInt ≤ 999) ∧ (∀ k : Nat, 48 ≤ k → k ≤ 59 → (0 : Int) ≤ (j103a0_16_a k).toInt ∧ (j103a0_16_a k).toInt ≤ 8) ∧ ((1 : Int) ≤ (j103a0_16_a 11).toInt → (2 : Int) ≤ (j103a0_16_a 0).toInt ∧ (1 : Int) ≤ (j103a0_16_a 1).toInt) ∧ (∀ (j i0 i : Int32), (0 : Int) ≤ j.toInt → j.toInt ≤ 8 → i0.toInt = 12 + 2 * j.toInt → i.toInt = 13 + 2 * j.toInt → (j103a0_16_a i0.toNatClampNeg).toInt = (1 : Int32).toInt → (1 : Int) ≤ (j103a0_16_a i.toNatClampNeg).toInt)) → (∀ k : Nat, k < 48 → j103a0_16_a k = fa0_16 k) → (FX = fl_wh (fun t9 => SfG_X8_newName_103_1 a1.toInt a0_3.toInt a0_5.toInt a0_8.toInt a0_9.toInt a0_10.toInt (fl_A fa0_12) (fl_A fa0_1) t9.1 t9.2) (0, 0, 0, 0, 0, 0, 0, 0, (fun _ => 0), (fun _ => 0)) n (j103l2.toInt, (fl_A j103a0_16_a))) → va_P (dC, dI) vwCl [(a0, .inr (8, [a0g_0, Value.ref a0_1, a0g_2, Value.int a0_3, Value.int a0_4, Value.int a0_5, Value.int a0_6, Value.int a0_7, Value.int a0_8, Value.int a0_9, Value.int a0_10, a0g_11, Value.ref a0_12, Value.int 0, a0g_14, a0g_15, Value.ref a0_16, a0g_17, a0g_18, a0g_19, a0g_20, a0g_21, a0g_22, a0g_23, a0g_24, a0g_25, a0g_26, a0g_27, a0g_28, a0g_29, a0g_30, a0g_31, a0g_32, a0g_33, a0g_34, a0g_35, a0g_36, a0g_37, a0g_38, a0g_39])), (a0_12, .inl (ka0_12, 8, .inl (fa0_12))), (a0_16, .inl (ka0_16, 156, .inl (j103a0_16_a))), (a0_1, .inl (ka0_1, 900, .inl (fa0_1)))] H → va_D A [(a0, .inr (8, [a0g_0, Value.ref a0_1, a0g_2, Value.int a0_3, Value.int a0_4, Value.int a0_5, Value.int a0_6, Value.int a0_7, Value.int a0_8, Value.int a0_9, Value.int a0_10, a0g_11, Value.ref a0_12, Value.int 0, a0g_14, a0g_15, Value.ref a0_16, a0g_17, a0g_18, a0g_19, a0g_20, a0g_21, a0g_22, a0g_23, a0g_24, a0g_25, a0g_26, a0g_27, a0g_28, a0g_29, a0g_30, a0g_31, a0g_32, a0g_33, a0g_34, a0g_35, a0g_36, a0g_37, a0g_38, a0g_39])), (a0_12, .inl (ka0_12, 8, .inl (fa0_12))), (a0_16, .inl (ka0_16, 156, .inl (j103a0_16_a))), (a0_1, .inl (ka0_1, 900, .inl (fa0_1)))] → va_S A s.heap H locs → lv_has ls 3 [(0, .ref a0), (1, .int a1), (2, .int j103l2)] → K H locs (F0 m 103 ls []) := by
                  intro n
                  induction n with
                  | zero =>
                    intro j103l2 j103a0_16_a H locs ls hm bj103l2_l bj103l2_u bj103a0_16_a fz103 hF0 hP hD hS hl
                    first | exact zg_0 hm bj103l2_u (by decide) | (have h8 := ai_min j103l2; have h9 := ai_max j103l2; exact absurd hm (by omega))
                  | succ n ih103 =>
                    intro j103l2 j103a0_16_a H locs ls hm bj103l2_l bj103l2_u bj103a0_16_a fz103 hF0 hP hD hS hl
                    refine (hK0 _ _ _).mpr ?_
                    have hm103 := hm
                    obtain ⟨SX103, hSX103⟩ : ∃ q9, SfG_X8_newName_103_1 a1.toInt a0_3.toInt a0_5.toInt a0_8.toInt a0_9.toInt a0_10.toInt (fl_A fa0_12) (fl_A fa0_1) j103l2.toInt (fl_A j103a0_16_a) = q9 := ⟨_, rfl⟩
                    have hF1 := hSX103.symm.trans (SfG_X8_newName_103_1.eq_1 a1.toInt a0_3.toInt a0_5.toInt a0_8.toInt a0_9.toInt a0_10.toInt (fl_A fa0_12) (fl_A fa0_1) j103l2.toInt (fl_A j103a0_16_a))
                    refine lv_iload_n hx hb dX8_newName_103 rfl (lv_at hl 2 rfl) ?_
                    refine lv_aload_n hx hb dX8_newName_104 rfl (lv_at hl 0 rfl) ?_
                    refine va_get (D := (dC, dI)) (ci := 8) (v := .int a0_8) (C := RX8) (T := TX8) (N := 40) hx hb hts zi_X8_newName_8 hown hK hP 0 rfl rfl 8 (by decide) (hts (.fieldLink RX8 81 "WaxTurnsModel" "nameSize" "I") (zm_X8_newName_r1 (List.mem_of_getElem? (i := 3) rfl))) (fun _ h9 => h9) rfl dX8_newName_105 ?_
                    refine lv_icmp_ge (tgt := 137) hx hb dX8_newName_108 (by decide) (fun c108 => ?_) (fun c108 => ?_)
                    · have gc108 := ai_le c108
                      have u108t_a0_8 : a0_8.toInt ≤ (8 : Int) := u16z_a0_8
                      have l108t_j103l2 : (0 : Int) ≤ j103l2.toInt := bj103l2_l
                      have hF1 := hF1.trans (if_pos (show a0_8.toInt ≤ j103l2.toInt from gc108))
                      have hF0 := hF0.trans (fl_wh_r (hSX103.trans hF1))
                      refine lv_aload_n hx hb dX8_newName_137 rfl (lv_at hl 0 rfl) ?_
                      refine va_get (D := (dC, dI)) (ci := 8) (v := .ref a0_16) (C := RX8) (T := TX8) (N := 40) hx hb hts zi_X8_newName_8 hown hK hP 0 rfl rfl 16 (by decide) (hts (.fieldLink RX8 23 "WaxTurnsModel" "fresh" "[I") (zm_X8_newName_r1 (List.mem_of_getElem? (i := 4) rfl))) (fun _ h9 => h9) rfl dX8_newName_138 ?_
                      refine lv_bipush (v := 48) hx hb dX8_newName_141 zk_bipush_48 ?_
                      refine lv_iload_n hx hb dX8_newName_143 rfl (lv_at hl 1 rfl) ?_
                      refine lv_iadd hx hb dX8_newName_144 ?_
                      refine lv_topi (fun x144 ex144 => ?_)
                      have qx144 : x144.toInt = (48 : Int32).toInt + a1.toInt := ai_add ex144 ⟨zq142, zq141⟩ ⟨ba1_l, ba1_u⟩ (by decide) (by decide)
                      have bx144 : (48 : Int) ≤ x144.toInt ∧ x144.toInt ≤ 59 := ⟨by rw [qx144]; exact Int.add_le_add zq142 ba1_l, by rw [qx144]; exact Int.add_le_add zq141 ba1_u⟩
                      have wx144 : x144.toInt = 48 + a1.toInt := qx144
                      have hF0 := hF0.trans (fl_lt_eq (show x144.toInt = 48 + a1.toInt from qx144))
                      refine lv_aload_n hx hb dX8_newName_145 rfl (lv_at hl 0 rfl) ?_
                      refine va_get (D := (dC, dI)) (ci := 8) (v := .int a0_8) (C := RX8) (T := TX8) (N := 40) hx hb hts zi_X8_newName_8 hown hK hP 0 rfl rfl 8 (by decide) (hts (.fieldLink RX8 81 "WaxTurnsModel" "nameSize" "I") (zm_X8_newName_r1 (List.mem_of_getElem? (i := 3) rfl))) (fun _ h9 => h9) rfl dX8_newName_146 ?_
                      refine va_iast hx hb hK hP hD hS 2 1 rfl rfl (ai_in bx144.1 bx144.2 (by decide) (by decide)) dX8_newName_149 (fun H locs hP hD hS => ?_)
                      obtain ⟨f149, ef149⟩ : ∃ g9 : Nat → Int32, g9 = upd j103a0_16_a (x144 : Int32).toNatClampNeg a0_8 := ⟨_, rfl⟩
                      refine zs_2 (y := (a0_16, .inl (ka0_16, 156, .inl (f149)))) hP hD (by rw [ef149]) (fun hP hD => ?_)
                      have bf149 : ((∀ k : Nat, 0 ≤ k → k ≤ 0 → (0 : Int) ≤ (f149 k).toInt ∧ (f149 k).toInt ≤ 9) ∧ (∀ k : Nat, 1 ≤ k → k ≤ 1 → (0 : Int) ≤ (f149 k).toInt ∧ (f149 k).toInt ≤ 20) ∧ (∀ k : Nat, 2 ≤ k → k ≤ 2 → (0 : Int) ≤ (f149 k).toInt ∧ (f149 k).toInt ≤ 8) ∧ (∀ k : Nat, 3 ≤ k → k ≤ 3 → (0 : Int) ≤ (f149 k).toInt ∧ (f149 k).toInt ≤ 100) ∧ (∀ k : Nat, 4 ≤ k → k ≤ 4 → (0 : Int) ≤ (f149 k).toInt ∧ (f149 k).toInt ≤ 9) ∧ (∀ k : Nat, 5 ≤ k → k ≤ 5 → (0 : Int) ≤ (f149 k).toInt ∧ (f149 k).toInt ≤ 3) ∧ (∀ k : Nat, 6 ≤ k → k ≤ 6 → (0 : Int) ≤ (f149 k).toInt ∧ (f149 k).toInt ≤ 6) ∧ (∀ k : Nat, 7 ≤ k → k ≤ 9 → (0 : Int) ≤ (f149 k).toInt ∧ (f149 k).toInt ≤ 8) ∧ (∀ k : Nat, 10 ≤ k → k ≤ 11 → (0 : Int) ≤ (f149 k).toInt ∧ (f149 k).toInt ≤ 1) ∧ (∀ k : Nat, 12 ≤ k → k ≤ 29 → (0 : Int) ≤ (f149 k).toInt ∧ (f149 k).toInt ≤ 20) ∧ (∀ k : Nat, 30 ≤ k → k ≤ 35 → (0 : Int) ≤ (f149 k).toInt ∧ (f149 k).toInt ≤ 8) ∧ (∀ k : Nat, 36 ≤ k → k ≤ 47 → (0 : Int) ≤ (f149 k).toInt ∧ (f149 k).toInt ≤ 999) ∧ (∀ k : Nat, 48 ≤ k → k ≤ 59 → (0 : Int) ≤ (f149 k).toInt ∧ (f149 k).toInt ≤ 8) ∧ ((1 : Int) ≤ (f149 11).toInt → (2 : Int) ≤ (f149 0).toInt ∧ (1 : Int) ≤ (f149 1).toInt) ∧ (∀ (j i0 i : Int32), (0 : Int) ≤ j.toInt → j.toInt ≤ 8 → i0.toInt = 12 + 2 * j.toInt → i.toInt = 13 + 2 * j.toInt → (f149 i0.toNatClampNeg).toInt = (1 : Int32).toInt → (1 : Int) ≤ (f149 i.toNatClampNeg).toInt)) := by rw [ef149]; exact ⟨ai_updO bj103a0_16_a.1 _ (Or.inr (ai_ngt_of bx144.1 (by decide) (by decide))), ai_updO bj103a0_16_a.2.1 _ (Or.inr (ai_ngt_of bx144.1 (by decide) (by decide))), ai_updO bj103a0_16_a.2.2.1 _ (Or.inr (ai_ngt_of bx144.1 (by decide) (by decide))), ai_updO bj103a0_16_a.2.2.2.1 _ (Or.inr (ai_ngt_of bx144.1 (by decide) (by decide))), ai_updO bj103a0_16_a.2.2.2.2.1 _ (Or.inr (ai_ngt_of bx144.1 (by decide) (by decide))), ai_updO bj103a0_16_a.2.2.2.2.2.1 _ (Or.inr (ai_ngt_of bx144.1 (by decide) (by decide))), ai_updO bj103a0_16_a.2.2.2.2.2.2.1 _ (Or.inr (ai_ngt_of bx144.1 (by decide) (by decide))), ai_updO bj103a0_16_a.2.2.2.2.2.2.2.1 _ (Or.inr (ai_ngt_of bx144.1 (by decide) (by decide))), ai_updO bj103a0_16_a.2.2.2.2.2.2.2.2.1 _ (Or.inr (ai_ngt_of bx144.1 (by decide) (by decide))), ai_updO bj103a0_16_a.2.2.2.2.2.2.2.2.2.1 _ (Or.inr (ai_ngt_of bx144.1 (by decide) (by decide))), ai_updO bj103a0_16_a.2.2.2.2.2.2.2.2.2.2.1 _ (Or.inr (ai_ngt_of bx144.1 (by decide) (by decide))), ai_updO bj103a0_16_a.2.2.2.2.2.2.2.2.2.2.2.1 _ (Or.inr (ai_ngt_of bx144.1 (by decide) (by decide))), ai_updS bj103a0_16_a.2.2.2.2.2.2.2.2.2.2.2.2.1 _ ⟨ba0_8_l, u108t_a0_8⟩, fg_o bj103a0_16_a.2.2.2.2.2.2.2.2.2.2.2.2.2.1 (by have h1 := ai_natge (n := 48) bx144.1 (by decide); have h2 := ai_natle (n := 59) bx144.2 (by decide); omega), fg_ko bj103a0_16_a.2.2.2.2.2.2.2.2.2.2.2.2.2.2 (by have h1 := ai_natge (n := 48) bx144.1 (by decide); have h2 := ai_natle (n := 59) bx144.2 (by decide); omega)⟩
                      have fqf149 := fl_up_eq ef149
                      have hF0 := hF0.trans (fl_lt_eq (show (fl_A f149) = fl_up (fl_A j103a0_16_a) (x144.toInt.toNat) a0_8.toInt from fqf149))
                      refine lv_aload_n hx hb dX8_newName_150 rfl (lv_at hl 0 rfl) ?_
                      refine zc_cutc (wc := [(a0, .inr (8, [a0g_0, Value.ref a0_1, a0g_2, Value.int a0_3, Value.int a0_4, Value.int a0_5, Value.int a0_6, Value.int a0_7, Value.int a0_8, Value.int a0_9, Value.int a0_10, a0g_11, Value.ref a0_12, Value.int 0, a0g_14, a0g_15, Value.ref a0_16, a0g_17, a0g_18, a0g_19, a0g_20, a0g_21, a0g_22, a0g_23, a0g_24, a0g_25, a0g_26, a0g_27, a0g_28, a0g_29, a0g_30, a0g_31, a0g_32, a0g_33, a0g_34, a0g_35, a0g_36, a0g_37, a0g_38, a0g_39])), (a0_1, .inl (ka0_1, 900, .inl (fa0_1))), (a0_12, .inl (ka0_12, 8, .inl (fa0_12)))]) hP hD hS hA [0, 3, 1] (by decide +kernel) rfl (fun hPc hDc hFc hCc => ?_)
                      have hKc := hK.sub (tys' := [(ka0_1, .int), (ka0_12, .int)]) [2, 0] rfl
                      refine va_callv (va_runV (As := []) (rest := []) ⟨hx, hb, hml, hown, hts⟩ (f_X8_next l dC dI H.size a0 a0g_0 a0g_2 (Value.int a0_9) (Value.int a0_10) a0g_11 (Value.int 0) a0g_14 a0g_15 (Value.ref a0_16) a0g_17 a0g_18 a0g_19 a0g_20 a0g_21 a0g_22 a0g_23 a0g_24 a0g_25 a0g_26 a0g_27 a0g_28 a0g_29 a0g_30 a0g_31 a0g_32 a0g_33 a0g_34 a0g_35 a0g_36 a0g_37 a0g_38 a0g_39 a0_1 a0_3 a0_4 a0_5 a0_6 a0_7 a0_8 a0_12 ka0_1 fa0_1 ka0_12 fa0_12 ba0_3_l ba0_3_u ba0_5_l ba0_5_u ba0_8_l (Int.le_trans u108t_a0_8 zq233)) (cwV 0 hts gX8_newName_X8_next rfl rfl rfl zd_X8_next ⟨Nat.le_of_ble_eq_true rfl, Nat.le_of_ble_eq_true rfl⟩) ⟨ax_blind (fun _ _ _ _ _ => trivial), zr_8 hKc hPc (q0 := 0) rfl, ax_pre hPc hKc hDc (fun _ _ => trivial)⟩ rfl rfl hl.1 rfl (lv_room (Nat.le_of_ble_eq_true rfl)) dX8_newName_151 ⟨Nat.le_of_ble_eq_true rfl, Nat.le_of_ble_eq_true rfl⟩) hS (fun q _ h => hFc q h) hFc (fun u t H locs ht hvm hw => zx_6 (fun v151na0_4 v151na0_5 v151na0_6 v151na0_7 v151na0_8 v151nfa0_12 => zy_5 (fun bv151na0_5 bv151na0_8 hraw151_0 hraw151_1 hraw151_2 hB hz1 hk1 hS1 => zo hB ht hS1 (fun hP1 hK1 hD1 hS => ?_))))
                      refine zc_backc (w := [(a0, .inr (8, [a0g_0, Value.ref a0_1, a0g_2, Value.int a0_3, Value.int v151na0_4, Value.int v151na0_5, Value.int v151na0_6, Value.int v151na0_7, Value.int v151na0_8, Value.int a0_9, Value.int a0_10, a0g_11, Value.ref a0_12, Value.int 0, a0g_14, a0g_15, Value.ref a0_16, a0g_17, a0g_18, a0g_19, a0g_20, a0g_21, a0g_22, a0g_23, a0g_24, a0g_25, a0g_26, a0g_27, a0g_28, a0g_29, a0g_30, a0g_31, a0g_32, a0g_33, a0g_34, a0g_35, a0g_36, a0g_37, a0g_38, a0g_39])), (a0_12, .inl (ka0_12, 8, .inl (v151nfa0_12))), (a0_16, .inl (ka0_16, 156, .inl (f149))), (a0_1, .inl (ka0_1, 900, .inl (fa0_1)))]) hP hD hCc hk1 hFc hP1 hD1 [.inr 0, .inr 2, .inl 2, .inr 1] (by decide +kernel) rfl (fun hP hD => ?_)
                      have hc151 : Ff_X8_next a0_3.toInt a0_5.toInt (fl_A fa0_1) (fl_A fa0_12) = (v151na0_4.toInt, v151na0_5.toInt, v151na0_6.toInt, v151na0_7.toInt, v151na0_8.toInt, (fl_A v151nfa0_12)) := hraw151_2
                      have hF0 := hF0.trans (fl_c6_eq hc151)
                      have hFe : FX = (v151na0_4.toInt, v151na0_5.toInt, v151na0_6.toInt, v151na0_7.toInt, v151na0_8.toInt, a0_9.toInt, a0_10.toInt, 0, (fl_A v151nfa0_12), (fl_A f149)) := hF0
                      exact W.vret hx hb hr (fun t ht hW => ⟨⟨(), rfl, trivial, v151na0_4, v151na0_5, v151na0_6, v151na0_7, v151na0_8, a0_9, a0_10, 0, v151nfa0_12, f149, ⟨bv151na0_5.1, bv151na0_5.2⟩, ⟨bv151na0_8.1, bv151na0_8.2⟩, ⟨zq5, Int.le_trans zq6 (by decide)⟩, bf149, (Or.inr rfl), (em_n hraw151_1), (fz_s fz103 ef149 (by omega)), hFe, by rw [ht]; exact hP, va_K.moved hW.alike hK, hD⟩, hS.F ht⟩) hS.2.2 dX8_newName_154
                    · have gc108 := ai_nle c108
                      have u108f_j103l2 : j103l2.toInt ≤ (7 : Int) := ai_lthi gc108 u16z_a0_8
                      have l108f_a0_8 : (1 : Int) ≤ a0_8.toInt := ai_ltlo gc108 bj103l2_l
                      have hF1 := hF1.trans (if_neg (show ¬ (a0_8.toInt ≤ j103l2.toInt) from Int.not_le.mpr gc108))
                      refine lv_aload_n hx hb dX8_newName_111 rfl (lv_at hl 0 rfl) ?_
                      refine va_get (D := (dC, dI)) (ci := 8) (v := .ref a0_16) (C := RX8) (T := TX8) (N := 40) hx hb hts zi_X8_newName_8 hown hK hP 0 rfl rfl 16 (by decide) (hts (.fieldLink RX8 23 "WaxTurnsModel" "fresh" "[I") (zm_X8_newName_r1 (List.mem_of_getElem? (i := 4) rfl))) (fun _ h9 => h9) rfl dX8_newName_112 ?_
                      refine lv_bipush (v := 60) hx hb dX8_newName_115 zk_bipush_60 ?_
                      refine lv_bipush (v := 8) hx hb dX8_newName_117 zk_bipush_8 ?_
                      refine lv_iload_n hx hb dX8_newName_119 rfl (lv_at hl 1 rfl) ?_
                      refine lv_imul hx hb dX8_newName_120 ?_
                      refine lv_topi (fun x120 ex120 => ?_)
                      have qx120 : x120.toInt = (8 : Int32).toInt * a1.toInt ∧ (0 : Int) ≤ x120.toInt ∧ x120.toInt ≤ 88 := ai_mul ex120 ⟨zq116, zq28⟩ ⟨ba1_l, ba1_u⟩ (by decide) (by decide) zq232
                      have wx120 : x120.toInt = 8 * a1.toInt := qx120.1
                      have hF1 := hF1.trans (fl_lt_eq (show x120.toInt = 8 * a1.toInt from qx120.1))
                      refine lv_iadd hx hb dX8_newName_121 ?_
                      refine lv_topi (fun x121 ex121 => ?_)
                      have qx121 : x121.toInt = (60 : Int32).toInt + x120.toInt := ai_add ex121 ⟨zq51, zq46⟩ ⟨qx120.2.1, qx120.2.2⟩ (by decide) (by decide)
                      have bx121 : (60 : Int) ≤ x121.toInt ∧ x121.toInt ≤ 148 := ⟨by rw [qx121]; exact Int.add_le_add zq51 qx120.2.1, by rw [qx121]; exact Int.add_le_add zq46 qx120.2.2⟩
                      have wx121 : x121.toInt = 60 + x120.toInt := qx121
                      have hF1 := hF1.trans (fl_lt_eq (show x121.toInt = 60 + x120.toInt from qx121))
                      refine lv_iload_n hx hb dX8_newName_122 rfl (lv_at hl 2 rfl) ?_
                      refine lv_iadd hx hb dX8_newName_123 ?_
                      refine lv_topi (fun x123 ex123 => ?_)
                      have qx123 : x123.toInt = x121.toInt + j103l2.toInt := ai_add ex123 ⟨bx121.1, bx121.2⟩ ⟨bj103l2_l, u108f_j103l2⟩ (by decide) (by decide)
                      have bx123 : (60 : Int) ≤ x123.toInt ∧ x123.toInt ≤ 155 := ⟨by rw [qx123]; exact Int.add_le_add bx121.1 bj103l2_l, by rw [qx123]; exact Int.add_le_add bx121.2 u108f_j103l2⟩
                      have hF1 := hF1.trans (fl_lt_eq (show x123.toInt = x121.toInt + j103l2.toInt from qx123))
                      refine lv_aload_n hx hb dX8_newName_124 rfl (lv_at hl 0 rfl) ?_
                      refine va_get (D := (dC, dI)) (ci := 8) (v := .ref a0_12) (C := RX8) (T := TX8) (N := 40) hx hb hts zi_X8_newName_8 hown hK hP 0 rfl rfl 12 (by decide) (hts (.fieldLink RX8 17 "WaxTurnsModel" "letters" "[I") (zm_X8_newName_r1 (List.mem_of_getElem? (i := 5) rfl))) (fun _ h9 => h9) rfl dX8_newName_125 ?_
                      refine lv_iload_n hx hb dX8_newName_128 rfl (lv_at hl 2 rfl) ?_
                      refine va_iald hx hb hK hP 1 0 rfl rfl (ai_in bj103l2_l u108f_j103l2 (by decide) (by decide)) dX8_newName_129 ?_
                      refine lv_topi (fun x129 ex129 => ?_)
                      have fqx129 := congrArg Int32.toInt ex129
                      have hF1 := hF1.trans (fl_lt_eq (show x129.toInt = (fl_A fa0_12) (j103l2.toInt.toNat) from fqx129))
                      refine va_iast hx hb hK hP hD hS 2 1 rfl rfl (ai_in bx123.1 bx123.2 (by decide) (by decide)) dX8_newName_130 (fun H locs hP hD hS => ?_)
                      obtain ⟨f130, ef130⟩ : ∃ g9 : Nat → Int32, g9 = upd j103a0_16_a (x123 : Int32).toNatClampNeg x129 := ⟨_, rfl⟩
                      refine zs_2 (y := (a0_16, .inl (ka0_16, 156, .inl (f130)))) hP hD (by rw [ef130]) (fun hP hD => ?_)
                      have bf130 : ((∀ k : Nat, 0 ≤ k → k ≤ 0 → (0 : Int) ≤ (f130 k).toInt ∧ (f130 k).toInt ≤ 9) ∧ (∀ k : Nat, 1 ≤ k → k ≤ 1 → (0 : Int) ≤ (f130 k).toInt ∧ (f130 k).toInt ≤ 20) ∧ (∀ k : Nat, 2 ≤ k → k ≤ 2 → (0 : Int) ≤ (f130 k).toInt ∧ (f130 k).toInt ≤ 8) ∧ (∀ k : Nat, 3 ≤ k → k ≤ 3 → (0 : Int) ≤ (f130 k).toInt ∧ (f130 k).toInt ≤ 100) ∧ (∀ k : Nat, 4 ≤ k → k ≤ 4 → (0 : Int) ≤ (f130 k).toInt ∧ (f130 k).toInt ≤ 9) ∧ (∀ k : Nat, 5 ≤ k → k ≤ 5 → (0 : Int) ≤ (f130 k).toInt ∧ (f130 k).toInt ≤ 3) ∧ (∀ k : Nat, 6 ≤ k → k ≤ 6 → (0 : Int) ≤ (f130 k).toInt ∧ (f130 k).toInt ≤ 6) ∧ (∀ k : Nat, 7 ≤ k → k ≤ 9 → (0 : Int) ≤ (f130 k).toInt ∧ (f130 k).toInt ≤ 8) ∧ (∀ k : Nat, 10 ≤ k → k ≤ 11 → (0 : Int) ≤ (f130 k).toInt ∧ (f130 k).toInt ≤ 1) ∧ (∀ k : Nat, 12 ≤ k → k ≤ 29 → (0 : Int) ≤ (f130 k).toInt ∧ (f130 k).toInt ≤ 20) ∧ (∀ k : Nat, 30 ≤ k → k ≤ 35 → (0 : Int) ≤ (f130 k).toInt ∧ (f130 k).toInt ≤ 8) ∧ (∀ k : Nat, 36 ≤ k → k ≤ 47 → (0 : Int) ≤ (f130 k).toInt ∧ (f130 k).toInt ≤ 999) ∧ (∀ k : Nat, 48 ≤ k → k ≤ 59 → (0 : Int) ≤ (f130 k).toInt ∧ (f130 k).toInt ≤ 8) ∧ ((1 : Int) ≤ (f130 11).toInt → (2 : Int) ≤ (f130 0).toInt ∧ (1 : Int) ≤ (f130 1).toInt) ∧ (∀ (j i0 i : Int32), (0 : Int) ≤ j.toInt → j.toInt ≤ 8 → i0.toInt = 12 + 2 * j.toInt → i.toInt = 13 + 2 * j.toInt → (f130 i0.toNatClampNeg).toInt = (1 : Int32).toInt → (1 : Int) ≤ (f130 i.toNatClampNeg).toInt)) := by rw [ef130]; exact ⟨ai_updO bj103a0_16_a.1 _ (Or.inr (ai_ngt_of bx123.1 (by decide) (by decide))), ai_updO bj103a0_16_a.2.1 _ (Or.inr (ai_ngt_of bx123.1 (by decide) (by decide))), ai_updO bj103a0_16_a.2.2.1 _ (Or.inr (ai_ngt_of bx123.1 (by decide) (by decide))), ai_updO bj103a0_16_a.2.2.2.1 _ (Or.inr (ai_ngt_of bx123.1 (by decide) (by decide))), ai_updO bj103a0_16_a.2.2.2.2.1 _ (Or.inr (ai_ngt_of bx123.1 (by decide) (by decide))), ai_updO bj103a0_16_a.2.2.2.2.2.1 _ (Or.inr (ai_ngt_of bx123.1 (by decide) (by decide))), ai_updO bj103a0_16_a.2.2.2.2.2.2.1 _ (Or.inr (ai_ngt_of bx123.1 (by decide) (by decide))), ai_updO bj103a0_16_a.2.2.2.2.2.2.2.1 _ (Or.inr (ai_ngt_of bx123.1 (by decide) (by decide))), ai_updO bj103a0_16_a.2.2.2.2.2.2.2.2.1 _ (Or.inr (ai_ngt_of bx123.1 (by decide) (by decide))), ai_updO bj103a0_16_a.2.2.2.2.2.2.2.2.2.1 _ (Or.inr (ai_ngt_of bx123.1 (by decide) (by decide))), ai_updO bj103a0_16_a.2.2.2.2.2.2.2.2.2.2.1 _ (Or.inr (ai_ngt_of bx123.1 (by decide) (by decide))), ai_updO bj103a0_16_a.2.2.2.2.2.2.2.2.2.2.2.1 _ (Or.inr (ai_ngt_of bx123.1 (by decide) (by decide))), ai_updO bj103a0_16_a.2.2.2.2.2.2.2.2.2.2.2.2.1 _ (Or.inr (ai_ngt_of bx123.1 (by decide) (by decide))), fg_o bj103a0_16_a.2.2.2.2.2.2.2.2.2.2.2.2.2.1 (by have h1 := ai_natge (n := 60) bx123.1 (by decide); have h2 := ai_natle (n := 155) bx123.2 (by decide); omega), fg_ko bj103a0_16_a.2.2.2.2.2.2.2.2.2.2.2.2.2.2 (by have h1 := ai_natge (n := 60) bx123.1 (by decide); have h2 := ai_natle (n := 155) bx123.2 (by decide); omega)⟩
                      have fqf130 := fl_up_eq ef130
                      have hF1 := hF1.trans (fl_lt_eq (show (fl_A f130) = fl_up (fl_A j103a0_16_a) (x123.toInt.toNat) x129.toInt from fqf130))
                      obtain ⟨x131, ex131⟩ : ∃ y : Int32, y = j103l2 + Int32.ofInt 1 := ⟨_, rfl⟩
                      have qx131 : x131.toInt = j103l2.toInt + 1 := ai_inc ex131 (by decide) (by decide) u108f_j103l2 (by decide)
                      have bx131 : (1 : Int) ≤ x131.toInt ∧ x131.toInt ≤ 8 := ⟨by rw [qx131]; exact Int.add_le_add bj103l2_l (Int.le_refl _), by rw [qx131]; exact Int.add_le_add u108f_j103l2 (Int.le_refl _)⟩
                      refine lv_iinc (v := x131) (lv' := [(2, .int x131), (0, .ref a0), (1, .int a1)]) hx hb dX8_newName_131 hl (k := 2) rfl ex131.symm (by decide) rfl (fun ls hl => ?_)
                      have hF1 := hF1.trans (fl_lt_eq (show x131.toInt = j103l2.toInt + 1 from qx131))
                      refine lv_goto (tgt := 103) hx hb dX8_newName_134 (by decide) ?_
                      exact (hK0 _ _ _).mp (ih103 x131 f130 _ _ _ (by first | exact zg_s hm103 qx131 | (have h0 := qx131; omega)) (Int.le_trans zq4 bx131.1) bx131.2 bf130 (fz_s fz103 ef130 (by omega)) (hF0.trans (fl_wh_l (hSX103.trans hF1))) hP hD hS (lv_sub hl [1, 2, 0] rfl))
                exact (hK0 _ _ _).mp (J103 9 0 fa0_16 _ _ _ (by first | decide +kernel | (have h1 : (0 : Int) ≤ (0 : Int32).toInt := zq5; have h2 : (0 : Int32).toInt ≤ (0 : Int) := zq6; omega)) zq5 (Int.le_trans zq6 zq20) bfa0_16 (fun _ _ => rfl) (by rw [show (0 : Int32).toInt = 0 from by decide]; exact hF0) hP hD hS (lv_sub hl [1, 2, 0] rfl))
            · have gc58 := ai_ne c58
              have l58f_r55 : (1 : Int) ≤ r55.toInt := (by first | exact zg_l h55_0 gc58 (by decide) (by decide) | (have h1 := h55_0; have h2 : (0 : Int32).toInt = 0 := (by decide); rw [h2] at gc58; omega))
              have hF0 := hF0.trans (if_neg (show ¬ (r55.toInt = 0) from  gc58))
              refine lv_aload_n hx hb dX8_newName_61 rfl (lv_at hl 0 rfl) ?_
              refine lv_iconst (v := 1) hx hb dX8_newName_62 zk_iconst_1 ?_
              refine lv_aload_n hx hb dX8_newName_63 rfl (lv_at hl 0 rfl) ?_
              refine va_get (D := (dC, dI)) (ci := 8) (v := .int a0_4) (C := RX8) (T := TX8) (N := 40) hx hb hts zi_X8_newName_8 hown hK hP 0 rfl rfl 4 (by decide) (hts (.fieldLink RX8 78 "WaxTurnsModel" "at" "I") (zm_X8_newName_r1 (List.mem_of_getElem? (i := 2) rfl))) (fun _ h9 => h9) rfl dX8_newName_64 ?_
              refine va_callv (va_runV (As := [.int 1, .int a0_4]) (rest := []) ⟨hx, hb, hml, hown, hts⟩ (fG_X8_wrong l dC dI H.size a0 1 a0_4 a0g_0 (Value.ref a0_1) a0g_2 (Value.int a0_3) (Value.int a0_4) (Value.int a0_5) (Value.int a0_6) (Value.int a0_7) (Value.int a0_8) a0g_11 (Value.ref a0_12) a0g_14 a0g_15 (Value.ref a0_16) a0g_17 a0g_18 a0g_19 a0g_20 a0g_21 a0g_22 a0g_23 a0g_24 a0g_25 a0g_26 a0g_27 a0g_28 a0g_29 a0g_30 a0g_31 a0g_32 a0g_33 a0g_34 a0g_35 a0g_36 a0g_37 a0g_38 a0g_39 a0_9 a0_10 ) (cwV 2 hts gX8_newName_X8_wrong rfl rfl rfl zd_X8_wrong ⟨Nat.le_of_ble_eq_true rfl, Nat.le_of_ble_eq_true rfl⟩) ⟨ax_blind (fun _ _ _ _ _ => trivial), zr_8 (zp_K hK) (zp_P1 hP) (q0 := 0) rfl, ax_pre (zp_P1 hP) (zp_K hK) (zp_D1 hD) (fun _ _ => trivial)⟩ rfl rfl hl.1 rfl (lv_room (Nat.le_of_ble_eq_true rfl)) dX8_newName_67 ⟨Nat.le_of_ble_eq_true rfl, Nat.le_of_ble_eq_true rfl⟩) hS (fun q _ h => zp_F1 hD hS hA q h) (zp_F1 hD hS hA) (fun u t H locs ht hvm hw => zx_2 (fun v67na0_9 v67na0_10 => zy_1 (fun hraw67_0 hB hz1 hk1 hS1 => zo1 hB ht hP hD hk1 (zp_F1 hD hS hA) hS1 (fun hP hK1 hD hS => ?_))))
              rw [show (1 : Int32).toInt = 1 from by decide] at hraw67_0
              have hc67 : FfG_X8_wrong 1 a0_4.toInt = (v67na0_9.toInt, v67na0_10.toInt) := hraw67_0
              have hF0 := hF0.trans (fl_c2_eq hc67)
              refine lv_aload_n hx hb dX8_newName_70 rfl (lv_at hl 0 rfl) ?_
              refine va_get (D := (dC, dI)) (ci := 8) (v := .int 1) (C := RX8) (T := TX8) (N := 40) hx hb hts zi_X8_newName_8 hown hK hP 0 rfl rfl 13 (by decide) (hts (.fieldLink RX8 97 "WaxTurnsModel" "failed" "Z") (zm_X8_newName_r1 (List.mem_of_getElem? (i := 0) rfl))) (fun _ h9 => h9) rfl dX8_newName_71 ?_
              refine lv_if_ne (tgt := 93) hx hb dX8_newName_74 (by decide) (fun _ => ?_) (fun c74 => absurd c74 (by decide +kernel))
              refine lv_aload_n hx hb dX8_newName_93 rfl (lv_at hl 0 rfl) ?_
              refine va_get (D := (dC, dI)) (ci := 8) (v := .int 1) (C := RX8) (T := TX8) (N := 40) hx hb hts zi_X8_newName_8 hown hK hP 0 rfl rfl 13 (by decide) (hts (.fieldLink RX8 97 "WaxTurnsModel" "failed" "Z") (zm_X8_newName_r1 (List.mem_of_getElem? (i := 0) rfl))) (fun _ h9 => h9) rfl dX8_newName_94 ?_
              refine lv_if_eq (tgt := 101) hx hb dX8_newName_97 (by decide) (fun c97 => absurd c97 (by decide +kernel)) (fun _ => ?_)
              have hFe : FX = (a0_4.toInt, a0_5.toInt, a0_6.toInt, a0_7.toInt, a0_8.toInt, v67na0_9.toInt, v67na0_10.toInt, 1, (fl_A fa0_12), (fl_A fa0_16)) := hF0
              exact W.vret hx hb hr (fun t ht hW => ⟨⟨(), rfl, trivial, a0_4, a0_5, a0_6, a0_7, a0_8, v67na0_9, v67na0_10, 1, fa0_12, fa0_16, ⟨ba0_5_l, ba0_5_u⟩, ⟨ba0_8_l, Int.le_trans u16z_a0_8 (by decide)⟩, ⟨Int.le_trans (by decide) zq1, zq0⟩, bfa0_16, (Or.inl rfl), (em_r _ _), (fun _ _ => rfl), hFe, by rw [ht]; exact hP, va_K.moved hW.alike hK, hD⟩, hS.F ht⟩) hS.2.2 dX8_newName_100
end P312_02_f
section P312_03_f
set_option maxHeartbeats 4000000 in
set_option maxRecDepth 100000 in
theorem fF_X8_numberHere (l : Launch) (dC : Nat → ClassId) (dI : Nat → Nat → Nat) (sz : Nat) (a0 : Nat) (a1 : Int32) (a2 : Int32) (a0g_0 a0g_1 a0g_2 a0g_3 a0g_4 a0g_5 a0g_6 a0g_7 a0g_8 a0g_9 a0g_10 a0g_11 a0g_12 a0g_14 a0g_15 a0g_16 a0g_17 a0g_18 a0g_19 a0g_20 a0g_21 a0g_22 a0g_23 a0g_24 a0g_25 a0g_26 a0g_27 a0g_28 a0g_29 a0g_30 a0g_31 a0g_32 a0g_33 a0g_34 a0g_35 a0g_36 a0g_37 a0g_38 a0g_39 : Value)  : zm l yX8_numberHere wsX8_numberHere ({ frames := 0, cells := 0, slots := 0, locals := 0 }) [.ref a0, .int a1, .int a2] dC dI sz [(a0, .inr (8, [a0g_0, a0g_1, a0g_2, a0g_3, a0g_4, a0g_5, a0g_6, a0g_7, a0g_8, a0g_9, a0g_10, a0g_11, a0g_12, Value.int 1, a0g_14, a0g_15, a0g_16, a0g_17, a0g_18, a0g_19, a0g_20, a0g_21, a0g_22, a0g_23, a0g_24, a0g_25, a0g_26, a0g_27, a0g_28, a0g_29, a0g_30, a0g_31, a0g_32, a0g_33, a0g_34, a0g_35, a0g_36, a0g_37, a0g_38, a0g_39]))] [] (fun A _ => True) (fun A => va_Qi (fun (r : Int32) (_ : Unit) => (r = a1) ∧ r.toInt = FfF_X8_numberHere a1.toInt) (fun (_ : Unit) (t : State) => ax_B dC dI A [(a0, .inr (8, [a0g_0, a0g_1, a0g_2, a0g_3, a0g_4, a0g_5, a0g_6, a0g_7, a0g_8, a0g_9, a0g_10, a0g_11, a0g_12, Value.int 1, a0g_14, a0g_15, a0g_16, a0g_17, a0g_18, a0g_19, a0g_20, a0g_21, a0g_22, a0g_23, a0g_24, a0g_25, a0g_26, a0g_27, a0g_28, a0g_29, a0g_30, a0g_31, a0g_32, a0g_33, a0g_34, a0g_35, a0g_36, a0g_37, a0g_38, a0g_39]))] [] t) A) := by
  refine zh (cc := cX8_numberHere) (maxL := 3) (ret := (some .int)) zn_RX8 rfl (Nat.le_of_ble_eq_true rfl) (fun p e s m below meth c A ls hx hb hml hr hts (hown : s.vm.findClass RX8 = some m.cls) hlocks hA hS hP hK hD hE (hl : lv_has ls 3 [(0, .ref a0), (1, .int a1), (2, .int a2)]) => ?_)
  generalize hFX : FfF_X8_numberHere a1.toInt = FX at ⊢
  have hF0 := hFX.symm.trans (FfF_X8_numberHere.eq_1 a1.toInt)
  refine lv_aload_n hx hb dX8_numberHere_0 rfl (lv_at hl 0 rfl) ?_
  refine va_get (D := (dC, dI)) (ci := 8) (v := .int 1) (C := RX8) (T := TX8) (N := 40) hx hb hts zi_X8_numberHere_8 hown hK hP 0 rfl rfl 13 (by decide) (hts (.fieldLink RX8 97 "WaxTurnsModel" "failed" "Z") (List.mem_cons_of_mem _ (List.mem_append_left _ (List.mem_of_getElem? (i := 0) rfl)))) (fun _ h9 => h9) rfl dX8_numberHere_1 ?_
  refine lv_if_eq (tgt := 9) hx hb dX8_numberHere_4 (by decide) (fun c4 => absurd c4 (by decide +kernel)) (fun _ => ?_)
  refine lv_iload_n hx hb dX8_numberHere_7 rfl (lv_at hl 1 rfl) ?_
  have hFe : FX = a1.toInt := hF0
  exact W.iret (v := a1) hx hb hr (fun t ht hW => ⟨⟨a1, (), rfl, ⟨rfl, hFe.symm⟩, by rw [ht]; exact hP, va_K.moved hW.alike hK, hD⟩, hS.F ht⟩) hS.2.2 dX8_numberHere_8

set_option maxHeartbeats 4000000 in
set_option maxRecDepth 100000 in
theorem fG_X8_numberHere (l : Launch) (dC : Nat → ClassId) (dI : Nat → Nat → Nat) (sz : Nat) (a0 : Nat) (a1 : Int32) (a2 : Int32) (a0g_0 a0g_1 a0g_2 a0g_3 a0g_5 a0g_8 a0g_11 a0g_12 a0g_14 a0g_15 a0g_16 a0g_17 a0g_18 a0g_19 a0g_20 a0g_21 a0g_22 a0g_23 a0g_24 a0g_25 a0g_26 a0g_27 a0g_28 a0g_29 a0g_30 a0g_31 a0g_32 a0g_33 a0g_34 a0g_35 a0g_36 a0g_37 a0g_38 a0g_39 : Value) (a0_4 : Int32) (a0_6 : Int32) (a0_7 : Int32) (a0_9 : Int32) (a0_10 : Int32)  : zm l yX8_numberHere wsX8_numberHere ({ frames := 1, cells := 0, slots := 0, locals := 22 }) [.ref a0, .int a1, .int a2] dC dI sz [(a0, .inr (8, [a0g_0, a0g_1, a0g_2, a0g_3, Value.int a0_4, a0g_5, Value.int a0_6, Value.int a0_7, a0g_8, Value.int a0_9, Value.int a0_10, a0g_11, a0g_12, Value.int 0, a0g_14, a0g_15, a0g_16, a0g_17, a0g_18, a0g_19, a0g_20, a0g_21, a0g_22, a0g_23, a0g_24, a0g_25, a0g_26, a0g_27, a0g_28, a0g_29, a0g_30, a0g_31, a0g_32, a0g_33, a0g_34, a0g_35, a0g_36, a0g_37, a0g_38, a0g_39]))] [] (fun A _ => True) (fun A => va_Qi (fun (r : Int32) (na0_13 : Int32) => ((na0_13 = 1 ∧ r = a1) ∨ (na0_13 = 0 ∧ a1.toInt ≤ r.toInt ∧ r.toInt ≤ a2.toInt)) ∧ r.toInt = (FfG_X8_numberHere a1.toInt a2.toInt a0_4.toInt a0_6.toInt a0_7.toInt a0_9.toInt a0_10.toInt).1) (fun (na0_13 : Int32) (t : State) => ∃ na0_9 : Int32, ∃ na0_10 : Int32, ((0 : Int) ≤ na0_13.toInt ∧ na0_13.toInt ≤ 1) ∧ ((FfG_X8_numberHere a1.toInt a2.toInt a0_4.toInt a0_6.toInt a0_7.toInt a0_9.toInt a0_10.toInt).2 = (na0_9.toInt, na0_10.toInt, na0_13.toInt)) ∧ ax_B dC dI A [(a0, .inr (8, [a0g_0, a0g_1, a0g_2, a0g_3, Value.int a0_4, a0g_5, Value.int a0_6, Value.int a0_7, a0g_8, Value.int na0_9, Value.int na0_10, a0g_11, a0g_12, Value.int na0_13, a0g_14, a0g_15, a0g_16, a0g_17, a0g_18, a0g_19, a0g_20, a0g_21, a0g_22, a0g_23, a0g_24, a0g_25, a0g_26, a0g_27, a0g_28, a0g_29, a0g_30, a0g_31, a0g_32, a0g_33, a0g_34, a0g_35, a0g_36, a0g_37, a0g_38, a0g_39]))] [] t) A) := by
  refine zh (cc := cX8_numberHere) (maxL := 3) (ret := (some .int)) zn_RX8 rfl (Nat.le_of_ble_eq_true rfl) (fun p e s m below meth c A ls hx hb hml hr hts (hown : s.vm.findClass RX8 = some m.cls) hlocks hA hS hP hK hD hE (hl : lv_has ls 3 [(0, .ref a0), (1, .int a1), (2, .int a2)]) => ?_)
  generalize hFX : FfG_X8_numberHere a1.toInt a2.toInt a0_4.toInt a0_6.toInt a0_7.toInt a0_9.toInt a0_10.toInt = FX at ⊢
  have hF0 := hFX.symm.trans (FfG_X8_numberHere.eq_1 a1.toInt a2.toInt a0_4.toInt a0_6.toInt a0_7.toInt a0_9.toInt a0_10.toInt)
  refine lv_aload_n hx hb dX8_numberHere_0 rfl (lv_at hl 0 rfl) ?_
  refine va_get (D := (dC, dI)) (ci := 8) (v := .int 0) (C := RX8) (T := TX8) (N := 40) hx hb hts zi_X8_numberHere_8 hown hK hP 0 rfl rfl 13 (by decide) (hts (.fieldLink RX8 97 "WaxTurnsModel" "failed" "Z") (List.mem_cons_of_mem _ (List.mem_append_left _ (List.mem_of_getElem? (i := 0) rfl)))) (fun _ h9 => h9) rfl dX8_numberHere_1 ?_
  refine lv_if_eq (tgt := 9) hx hb dX8_numberHere_4 (by decide) (fun _ => ?_) (fun c4 => absurd (by decide +kernel) c4)
  refine lv_aload_n hx hb dX8_numberHere_9 rfl (lv_at hl 0 rfl) ?_
  refine va_get (D := (dC, dI)) (ci := 8) (v := .int a0_6) (C := RX8) (T := TX8) (N := 40) hx hb hts zi_X8_numberHere_8 hown hK hP 0 rfl rfl 6 (by decide) (hts (.fieldLink RX8 87 "WaxTurnsModel" "token" "I") (List.mem_cons_of_mem _ (List.mem_append_left _ (List.mem_of_getElem? (i := 1) rfl)))) (fun _ h9 => h9) rfl dX8_numberHere_10 ?_
  refine lv_iconst (v := 3) hx hb dX8_numberHere_13 zk_iconst_3 ?_
  refine lv_icmp_eq (tgt := 29) hx hb dX8_numberHere_14 (by decide) (fun c14 => ?_) (fun c14 => ?_)
  · have gc14 := ai_eq c14
    have u14t_a0_6 : a0_6.toInt ≤ (3 : Int) := Int.le_trans (Int.le_of_eq gc14) zq9
    have l14t_a0_6 : (3 : Int) ≤ a0_6.toInt := Int.le_trans zq8 (Int.le_of_eq gc14.symm)
    have hF0 := hF0.trans (if_pos (show a0_6.toInt = 3 from gc14))
    refine lv_aload_n hx hb dX8_numberHere_29 rfl (lv_at hl 0 rfl) ?_
    refine va_get (D := (dC, dI)) (ci := 8) (v := .int a0_7) (C := RX8) (T := TX8) (N := 40) hx hb hts zi_X8_numberHere_8 hown hK hP 0 rfl rfl 7 (by decide) (hts (.fieldLink RX8 84 "WaxTurnsModel" "whole" "I") (List.mem_cons_of_mem _ (List.mem_append_left _ (List.mem_of_getElem? (i := 3) rfl)))) (fun _ h9 => h9) rfl dX8_numberHere_30 ?_
    refine lv_iload_n hx hb dX8_numberHere_33 rfl (lv_at hl 1 rfl) ?_
    refine lv_iload_n hx hb dX8_numberHere_34 rfl (lv_at hl 2 rfl) ?_
    refine va_calli (va_runS (As := [.int a0_7, .int a1, .int a2]) (rest := []) ⟨hx, hb, hml, hown, hts⟩ (f_X8_in l dC dI s.heap.size a0_7 a1 a2 ) (va_cwS 3 hts gX8_numberHere_X8_in rfl rfl rfl zd_X8_in.2 ⟨Nat.le_of_ble_eq_true rfl, Nat.le_of_ble_eq_true rfl⟩) ⟨ax_blind (fun _ _ _ _ _ => trivial), ax_pre (zp_P0 hP) (zp_K hK) (zp_D0 hD) (fun _ _ => trivial)⟩ rfl rfl hl.1 rfl (lv_room (Nat.le_of_ble_eq_true rfl)) dX8_numberHere_35 ⟨Nat.le_of_ble_eq_true rfl, Nat.le_of_ble_eq_true rfl⟩) hS (fun q _ h => zp_F0 hD hS hA q h) (zp_F0 hD hS hA) (fun r35 u t H locs ht hvm hw hB hz1 hk1 hS1 => zo0 hB ht hP hD hk1 (zp_F0 hD hS hA) hS1 (fun hP hK1 hD hS => ?_))
    obtain ⟨hw, hfr35⟩ := hw
    have hc35 : Ff_X8_in a0_7.toInt a1.toInt a2.toInt = r35.toInt := hfr35.symm
    have hF0 := hF0.trans (fl_lt_eq hc35.symm)
    rcases hw with hw | hw
    · obtain ⟨hw, h35⟩ := hw
      subst hw
      have hF0 := hF0.trans (if_pos (by decide))
      refine lv_if_ne (tgt := 50) hx hb dX8_numberHere_38 (by decide) (fun _ => ?_) (fun c38 => absurd c38 (by decide +kernel))
      refine lv_aload_n hx hb dX8_numberHere_50 rfl (lv_at hl 0 rfl) ?_
      refine va_get (D := (dC, dI)) (ci := 8) (v := .int 0) (C := RX8) (T := TX8) (N := 40) hx hb hts zi_X8_numberHere_8 hown hK hP 0 rfl rfl 13 (by decide) (hts (.fieldLink RX8 97 "WaxTurnsModel" "failed" "Z") (List.mem_cons_of_mem _ (List.mem_append_left _ (List.mem_of_getElem? (i := 0) rfl)))) (fun _ h9 => h9) rfl dX8_numberHere_51 ?_
      refine lv_if_eq (tgt := 61) hx hb dX8_numberHere_54 (by decide) (fun _ => ?_) (fun c54 => absurd (by decide +kernel) c54)
      refine lv_aload_n hx hb dX8_numberHere_61 rfl (lv_at hl 0 rfl) ?_
      refine va_get (D := (dC, dI)) (ci := 8) (v := .int a0_7) (C := RX8) (T := TX8) (N := 40) hx hb hts zi_X8_numberHere_8 hown hK hP 0 rfl rfl 7 (by decide) (hts (.fieldLink RX8 84 "WaxTurnsModel" "whole" "I") (List.mem_cons_of_mem _ (List.mem_append_left _ (List.mem_of_getElem? (i := 3) rfl)))) (fun _ h9 => h9) rfl dX8_numberHere_62 ?_
      have hFe : FX = (a0_7.toInt, a0_9.toInt, a0_10.toInt, 0) := hF0
      exact W.iret (v := a0_7) hx hb hr (fun t ht hW => ⟨⟨a0_7, 0, rfl, ⟨(Or.inr ⟨rfl, by omega, by omega⟩), (congrArg Prod.fst hFe).symm⟩, a0_9, a0_10, ⟨zq5, Int.le_trans zq6 (by decide)⟩, (congrArg Prod.snd hFe), by rw [ht]; exact hP, va_K.moved hW.alike hK, hD⟩, hS.F ht⟩) hS.2.2 dX8_numberHere_65
    · obtain ⟨hw, h35⟩ := hw
      subst hw
      have hF0 := hF0.trans (if_neg (by decide))
      refine lv_if_ne (tgt := 50) hx hb dX8_numberHere_38 (by decide) (fun c38 => absurd (by decide +kernel) c38) (fun _ => ?_)
      refine lv_aload_n hx hb dX8_numberHere_41 rfl (lv_at hl 0 rfl) ?_
      refine lv_iconst (v := 4) hx hb dX8_numberHere_42 zk_iconst_4 ?_
      refine lv_aload_n hx hb dX8_numberHere_43 rfl (lv_at hl 0 rfl) ?_
      refine va_get (D := (dC, dI)) (ci := 8) (v := .int a0_4) (C := RX8) (T := TX8) (N := 40) hx hb hts zi_X8_numberHere_8 hown hK hP 0 rfl rfl 4 (by decide) (hts (.fieldLink RX8 78 "WaxTurnsModel" "at" "I") (List.mem_cons_of_mem _ (List.mem_append_left _ (List.mem_of_getElem? (i := 2) rfl)))) (fun _ h9 => h9) rfl dX8_numberHere_44 ?_
      refine va_callv (va_runV (As := [.int 4, .int a0_4]) (rest := []) ⟨hx, hb, hml, hown, hts⟩ (fG_X8_wrong l dC dI H.size a0 4 a0_4 a0g_0 a0g_1 a0g_2 a0g_3 (Value.int a0_4) a0g_5 (Value.int a0_6) (Value.int a0_7) a0g_8 a0g_11 a0g_12 a0g_14 a0g_15 a0g_16 a0g_17 a0g_18 a0g_19 a0g_20 a0g_21 a0g_22 a0g_23 a0g_24 a0g_25 a0g_26 a0g_27 a0g_28 a0g_29 a0g_30 a0g_31 a0g_32 a0g_33 a0g_34 a0g_35 a0g_36 a0g_37 a0g_38 a0g_39 a0_9 a0_10 ) (cwV 2 hts gX8_numberHere_X8_wrong rfl rfl rfl zd_X8_wrong ⟨Nat.le_of_ble_eq_true rfl, Nat.le_of_ble_eq_true rfl⟩) ⟨ax_blind (fun _ _ _ _ _ => trivial), zr_8 (zp_K hK) (zp_P1 hP) (q0 := 0) rfl, ax_pre (zp_P1 hP) (zp_K hK) (zp_D1 hD) (fun _ _ => trivial)⟩ rfl rfl hl.1 rfl (lv_room (Nat.le_of_ble_eq_true rfl)) dX8_numberHere_47 ⟨Nat.le_of_ble_eq_true rfl, Nat.le_of_ble_eq_true rfl⟩) hS (fun q _ h => zp_F1 hD hS hA q h) (zp_F1 hD hS hA) (fun u t H locs ht hvm hw => zx_2 (fun v47na0_9 v47na0_10 => zy_1 (fun hraw47_0 hB hz1 hk1 hS1 => zo1 hB ht hP hD hk1 (zp_F1 hD hS hA) hS1 (fun hP hK1 hD hS => ?_))))
      rw [show (4 : Int32).toInt = 4 from by decide] at hraw47_0
      have hc47 : FfG_X8_wrong 4 a0_4.toInt = (v47na0_9.toInt, v47na0_10.toInt) := hraw47_0
      have hF0 := hF0.trans (fl_c2_eq hc47)
      refine lv_aload_n hx hb dX8_numberHere_50 rfl (lv_at hl 0 rfl) ?_
      refine va_get (D := (dC, dI)) (ci := 8) (v := .int 1) (C := RX8) (T := TX8) (N := 40) hx hb hts zi_X8_numberHere_8 hown hK hP 0 rfl rfl 13 (by decide) (hts (.fieldLink RX8 97 "WaxTurnsModel" "failed" "Z") (List.mem_cons_of_mem _ (List.mem_append_left _ (List.mem_of_getElem? (i := 0) rfl)))) (fun _ h9 => h9) rfl dX8_numberHere_51 ?_
      refine lv_if_eq (tgt := 61) hx hb dX8_numberHere_54 (by decide) (fun c54 => absurd c54 (by decide +kernel)) (fun _ => ?_)
      refine lv_iload_n hx hb dX8_numberHere_57 rfl (lv_at hl 1 rfl) ?_
      refine lv_goto (tgt := 65) hx hb dX8_numberHere_58 (by decide) ?_
      have hFe : FX = (a1.toInt, v47na0_9.toInt, v47na0_10.toInt, 1) := hF0
      exact W.iret (v := a1) hx hb hr (fun t ht hW => ⟨⟨a1, 1, rfl, ⟨(Or.inl ⟨rfl, rfl⟩), (congrArg Prod.fst hFe).symm⟩, v47na0_9, v47na0_10, ⟨Int.le_trans (by decide) zq1, zq0⟩, (congrArg Prod.snd hFe), by rw [ht]; exact hP, va_K.moved hW.alike hK, hD⟩, hS.F ht⟩) hS.2.2 dX8_numberHere_65
  · have gc14 := ai_ne c14
    have hF0 := hF0.trans (if_neg (show ¬ (a0_6.toInt = 3) from  gc14))
    refine lv_aload_n hx hb dX8_numberHere_17 rfl (lv_at hl 0 rfl) ?_
    refine lv_iconst (v := 1) hx hb dX8_numberHere_18 zk_iconst_1 ?_
    refine lv_aload_n hx hb dX8_numberHere_19 rfl (lv_at hl 0 rfl) ?_
    refine va_get (D := (dC, dI)) (ci := 8) (v := .int a0_4) (C := RX8) (T := TX8) (N := 40) hx hb hts zi_X8_numberHere_8 hown hK hP 0 rfl rfl 4 (by decide) (hts (.fieldLink RX8 78 "WaxTurnsModel" "at" "I") (List.mem_cons_of_mem _ (List.mem_append_left _ (List.mem_of_getElem? (i := 2) rfl)))) (fun _ h9 => h9) rfl dX8_numberHere_20 ?_
    refine va_callv (va_runV (As := [.int 1, .int a0_4]) (rest := []) ⟨hx, hb, hml, hown, hts⟩ (fG_X8_wrong l dC dI s.heap.size a0 1 a0_4 a0g_0 a0g_1 a0g_2 a0g_3 (Value.int a0_4) a0g_5 (Value.int a0_6) (Value.int a0_7) a0g_8 a0g_11 a0g_12 a0g_14 a0g_15 a0g_16 a0g_17 a0g_18 a0g_19 a0g_20 a0g_21 a0g_22 a0g_23 a0g_24 a0g_25 a0g_26 a0g_27 a0g_28 a0g_29 a0g_30 a0g_31 a0g_32 a0g_33 a0g_34 a0g_35 a0g_36 a0g_37 a0g_38 a0g_39 a0_9 a0_10 ) (cwV 2 hts gX8_numberHere_X8_wrong rfl rfl rfl zd_X8_wrong ⟨Nat.le_of_ble_eq_true rfl, Nat.le_of_ble_eq_true rfl⟩) ⟨ax_blind (fun _ _ _ _ _ => trivial), zr_8 (zp_K hK) (zp_P1 hP) (q0 := 0) rfl, ax_pre (zp_P1 hP) (zp_K hK) (zp_D1 hD) (fun _ _ => trivial)⟩ rfl rfl hl.1 rfl (lv_room (Nat.le_of_ble_eq_true rfl)) dX8_numberHere_23 ⟨Nat.le_of_ble_eq_true rfl, Nat.le_of_ble_eq_true rfl⟩) hS (fun q _ h => zp_F1 hD hS hA q h) (zp_F1 hD hS hA) (fun u t H locs ht hvm hw => zx_2 (fun v23na0_9 v23na0_10 => zy_1 (fun hraw23_0 hB hz1 hk1 hS1 => zo1 hB ht hP hD hk1 (zp_F1 hD hS hA) hS1 (fun hP hK1 hD hS => ?_))))
    rw [show (1 : Int32).toInt = 1 from by decide] at hraw23_0
    have hc23 : FfG_X8_wrong 1 a0_4.toInt = (v23na0_9.toInt, v23na0_10.toInt) := hraw23_0
    have hF0 := hF0.trans (fl_c2_eq hc23)
    refine lv_goto (tgt := 50) hx hb dX8_numberHere_26 (by decide) ?_
    refine lv_aload_n hx hb dX8_numberHere_50 rfl (lv_at hl 0 rfl) ?_
    refine va_get (D := (dC, dI)) (ci := 8) (v := .int 1) (C := RX8) (T := TX8) (N := 40) hx hb hts zi_X8_numberHere_8 hown hK hP 0 rfl rfl 13 (by decide) (hts (.fieldLink RX8 97 "WaxTurnsModel" "failed" "Z") (List.mem_cons_of_mem _ (List.mem_append_left _ (List.mem_of_getElem? (i := 0) rfl)))) (fun _ h9 => h9) rfl dX8_numberHere_51 ?_
    refine lv_if_eq (tgt := 61) hx hb dX8_numberHere_54 (by decide) (fun c54 => absurd c54 (by decide +kernel)) (fun _ => ?_)
    refine lv_iload_n hx hb dX8_numberHere_57 rfl (lv_at hl 1 rfl) ?_
    refine lv_goto (tgt := 65) hx hb dX8_numberHere_58 (by decide) ?_
    have hFe : FX = (a1.toInt, v23na0_9.toInt, v23na0_10.toInt, 1) := hF0
    exact W.iret (v := a1) hx hb hr (fun t ht hW => ⟨⟨a1, 1, rfl, ⟨(Or.inl ⟨rfl, rfl⟩), (congrArg Prod.fst hFe).symm⟩, v23na0_9, v23na0_10, ⟨Int.le_trans (by decide) zq1, zq0⟩, (congrArg Prod.snd hFe), by rw [ht]; exact hP, va_K.moved hW.alike hK, hD⟩, hS.F ht⟩) hS.2.2 dX8_numberHere_65

set_option maxHeartbeats 4000000 in
set_option maxRecDepth 100000 in
theorem fF_X8_number (l : Launch) (dC : Nat → ClassId) (dI : Nat → Nat → Nat) (sz : Nat) (a0 : Nat) (a1 : Int32) (a2 : Int32) (a0g_0 a0g_1 a0g_2 a0g_3 a0g_4 a0g_5 a0g_6 a0g_7 a0g_8 a0g_9 a0g_10 a0g_11 a0g_12 a0g_14 a0g_15 a0g_16 a0g_17 a0g_18 a0g_19 a0g_20 a0g_21 a0g_22 a0g_23 a0g_24 a0g_25 a0g_26 a0g_27 a0g_28 a0g_29 a0g_30 a0g_31 a0g_32 a0g_33 a0g_34 a0g_35 a0g_36 a0g_37 a0g_38 a0g_39 : Value)  : zm l yX8_number wsX8_number ({ frames := 1, cells := 0, slots := 0, locals := 22 }) [.ref a0, .int a1, .int a2] dC dI sz [(a0, .inr (8, [a0g_0, a0g_1, a0g_2, a0g_3, a0g_4, a0g_5, a0g_6, a0g_7, a0g_8, a0g_9, a0g_10, a0g_11, a0g_12, Value.int 1, a0g_14, a0g_15, a0g_16, a0g_17, a0g_18, a0g_19, a0g_20, a0g_21, a0g_22, a0g_23, a0g_24, a0g_25, a0g_26, a0g_27, a0g_28, a0g_29, a0g_30, a0g_31, a0g_32, a0g_33, a0g_34, a0g_35, a0g_36, a0g_37, a0g_38, a0g_39]))] [] (fun A _ => True) (fun A => va_Qi (fun (r : Int32) (_ : Unit) => (r = a1) ∧ r.toInt = FfF_X8_number a1.toInt) (fun (_ : Unit) (t : State) => ax_B dC dI A [(a0, .inr (8, [a0g_0, a0g_1, a0g_2, a0g_3, a0g_4, a0g_5, a0g_6, a0g_7, a0g_8, a0g_9, a0g_10, a0g_11, a0g_12, Value.int 1, a0g_14, a0g_15, a0g_16, a0g_17, a0g_18, a0g_19, a0g_20, a0g_21, a0g_22, a0g_23, a0g_24, a0g_25, a0g_26, a0g_27, a0g_28, a0g_29, a0g_30, a0g_31, a0g_32, a0g_33, a0g_34, a0g_35, a0g_36, a0g_37, a0g_38, a0g_39]))] [] t) A) := by
  refine zh (cc := cX8_number) (maxL := 4) (ret := (some .int)) zn_RX8 rfl (Nat.le_of_ble_eq_true rfl) (fun p e s m below meth c A ls hx hb hml hr hts (hown : s.vm.findClass RX8 = some m.cls) hlocks hA hS hP hK hD hE (hl : lv_has ls 4 [(0, .ref a0), (1, .int a1), (2, .int a2)]) => ?_)
  generalize hFX : FfF_X8_number a1.toInt = FX at ⊢
  have hF0 := hFX.symm.trans (FfF_X8_number.eq_1 a1.toInt)
  refine lv_aload_n hx hb dX8_number_0 rfl (lv_at hl 0 rfl) ?_
  refine lv_iload_n hx hb dX8_number_1 rfl (lv_at hl 1 rfl) ?_
  refine lv_iload_n hx hb dX8_number_2 rfl (lv_at hl 2 rfl) ?_
  refine va_calli (va_runV (As := [.int a1, .int a2]) (rest := []) ⟨hx, hb, hml, hown, hts⟩ (fF_X8_numberHere l dC dI s.heap.size a0 a1 a2 a0g_0 a0g_1 a0g_2 a0g_3 a0g_4 a0g_5 a0g_6 a0g_7 a0g_8 a0g_9 a0g_10 a0g_11 a0g_12 a0g_14 a0g_15 a0g_16 a0g_17 a0g_18 a0g_19 a0g_20 a0g_21 a0g_22 a0g_23 a0g_24 a0g_25 a0g_26 a0g_27 a0g_28 a0g_29 a0g_30 a0g_31 a0g_32 a0g_33 a0g_34 a0g_35 a0g_36 a0g_37 a0g_38 a0g_39 ) (cwV 2 hts gX8_number_X8_numberHere rfl rfl rfl zd_X8_numberHere ⟨Nat.le_of_ble_eq_true rfl, Nat.le_of_ble_eq_true rfl⟩) ⟨ax_blind (fun _ _ _ _ _ => trivial), zr_8 (zp_K hK) (zp_P1 hP) (q0 := 0) rfl, ax_pre (zp_P1 hP) (zp_K hK) (zp_D1 hD) (fun _ _ => trivial)⟩ rfl rfl hl.1 rfl (lv_room (Nat.le_of_ble_eq_true rfl)) dX8_number_3 ⟨Nat.le_of_ble_eq_true rfl, Nat.le_of_ble_eq_true rfl⟩) hS (fun q _ h => zp_F1 hD hS hA q h) (zp_F1 hD hS hA) (fun r3 u t H locs ht hvm hw hB hz1 hk1 hS1 => zo1 hB ht hP hD hk1 (zp_F1 hD hS hA) hS1 (fun hP hK1 hD hS => ?_))
  obtain ⟨hw, hfr3⟩ := hw
  have hc3 : FfF_X8_numberHere a1.toInt = r3.toInt := hfr3.symm
  have hF0 := hF0.trans (fl_lt_eq hc3.symm)
  have hw : r3 = a1 := hw
  have hw := hw.symm
  subst hw
  refine lv_istore_n (lv' := [(3, .int a1), (0, .ref a0), (1, .int a1), (2, .int a2)]) hx hb dX8_number_6 rfl hl (by decide) rfl (fun ls hl => ?_)
  refine lv_aload_n hx hb dX8_number_7 rfl (lv_at hl 1 rfl) ?_
  refine va_callv (va_runV (As := []) (rest := []) ⟨hx, hb, hml, hown, hts⟩ (fF_X8_pass l dC dI H.size a0 a0g_0 a0g_1 a0g_2 a0g_3 a0g_4 a0g_5 a0g_6 a0g_7 a0g_8 a0g_9 a0g_10 a0g_11 a0g_12 a0g_14 a0g_15 a0g_16 a0g_17 a0g_18 a0g_19 a0g_20 a0g_21 a0g_22 a0g_23 a0g_24 a0g_25 a0g_26 a0g_27 a0g_28 a0g_29 a0g_30 a0g_31 a0g_32 a0g_33 a0g_34 a0g_35 a0g_36 a0g_37 a0g_38 a0g_39 ) (cwV 0 hts gX8_number_X8_pass rfl rfl rfl zd_X8_pass ⟨Nat.le_of_ble_eq_true rfl, Nat.le_of_ble_eq_true rfl⟩) ⟨ax_blind (fun _ _ _ _ _ => trivial), zr_8 (zp_K hK) (zp_P1 hP) (q0 := 0) rfl, ax_pre (zp_P1 hP) (zp_K hK) (zp_D1 hD) (fun _ _ => trivial)⟩ rfl rfl hl.1 rfl (lv_room (Nat.le_of_ble_eq_true rfl)) dX8_number_8 ⟨Nat.le_of_ble_eq_true rfl, Nat.le_of_ble_eq_true rfl⟩) hS (fun q _ h => zp_F1 hD hS hA q h) (zp_F1 hD hS hA) (fun u t H locs ht hvm hw hB hz1 hk1 hS1 => zo1 hB ht hP hD hk1 (zp_F1 hD hS hA) hS1 (fun hP hK1 hD hS => ?_))
  refine lv_iload_n hx hb dX8_number_11 rfl (lv_at hl 0 rfl) ?_
  have hFe : FX = a1.toInt := hF0
  exact W.iret (v := a1) hx hb hr (fun t ht hW => ⟨⟨a1, (), rfl, ⟨rfl, hFe.symm⟩, by rw [ht]; exact hP, va_K.moved hW.alike hK, hD⟩, hS.F ht⟩) hS.2.2 dX8_number_12

set_option maxHeartbeats 4000000 in
set_option maxRecDepth 100000 in
theorem fG_X8_number (l : Launch) (dC : Nat → ClassId) (dI : Nat → Nat → Nat) (sz : Nat) (a0 : Nat) (a1 : Int32) (a2 : Int32) (a0g_0 a0g_2 a0g_11 a0g_14 a0g_15 a0g_16 a0g_17 a0g_18 a0g_19 a0g_20 a0g_21 a0g_22 a0g_23 a0g_24 a0g_25 a0g_26 a0g_27 a0g_28 a0g_29 a0g_30 a0g_31 a0g_32 a0g_33 a0g_34 a0g_35 a0g_36 a0g_37 a0g_38 a0g_39 : Value) (a0_1 : Nat) (a0_3 : Int32) (a0_4 : Int32) (a0_5 : Int32) (a0_6 : Int32) (a0_7 : Int32) (a0_8 : Int32) (a0_9 : Int32) (a0_10 : Int32) (a0_12 : Nat) (ka0_1 : ClassId) (fa0_1 : Nat → Int32) (ka0_12 : ClassId) (fa0_12 : Nat → Int32) (ba0_3_l : (0 : Int) ≤ a0_3.toInt) (ba0_3_u : a0_3.toInt ≤ (900 : Int)) (ba0_5_l : (0 : Int) ≤ a0_5.toInt) (ba0_5_u : a0_5.toInt ≤ (900 : Int)) (ba0_8_l : (0 : Int) ≤ a0_8.toInt) (ba0_8_u : a0_8.toInt ≤ (900 : Int)) : zm l yX8_number wsX8_number ({ frames := 3, cells := 0, slots := 0, locals := 64 }) [.ref a0, .int a1, .int a2] dC dI sz [(a0, .inr (8, [a0g_0, Value.ref a0_1, a0g_2, Value.int a0_3, Value.int a0_4, Value.int a0_5, Value.int a0_6, Value.int a0_7, Value.int a0_8, Value.int a0_9, Value.int a0_10, a0g_11, Value.ref a0_12, Value.int 0, a0g_14, a0g_15, a0g_16, a0g_17, a0g_18, a0g_19, a0g_20, a0g_21, a0g_22, a0g_23, a0g_24, a0g_25, a0g_26, a0g_27, a0g_28, a0g_29, a0g_30, a0g_31, a0g_32, a0g_33, a0g_34, a0g_35, a0g_36, a0g_37, a0g_38, a0g_39])), (a0_1, .inl (ka0_1, 900, .inl (fa0_1))), (a0_12, .inl (ka0_12, 8, .inl (fa0_12)))] [(ka0_1, .int), (ka0_12, .int)] (fun A _ => True) (fun A => va_Qi (fun (r : Int32) (na0_13 : Int32) => ((na0_13 = 1 ∧ r = a1) ∨ (na0_13 = 0 ∧ a1.toInt ≤ r.toInt ∧ r.toInt ≤ a2.toInt)) ∧ r.toInt = (FfG_X8_number a1.toInt a2.toInt a0_3.toInt a0_4.toInt a0_5.toInt a0_6.toInt a0_7.toInt a0_8.toInt a0_9.toInt a0_10.toInt (fl_A fa0_1) (fl_A fa0_12)).1) (fun (na0_13 : Int32) (t : State) => ∃ na0_4 : Int32, ∃ na0_5 : Int32, ∃ na0_6 : Int32, ∃ na0_7 : Int32, ∃ na0_8 : Int32, ∃ na0_9 : Int32, ∃ na0_10 : Int32, ∃ nfa0_12 : Nat → Int32, ((0 : Int) ≤ na0_5.toInt ∧ na0_5.toInt ≤ 900) ∧ ((0 : Int) ≤ na0_8.toInt ∧ na0_8.toInt ≤ 900) ∧ ((0 : Int) ≤ na0_13.toInt ∧ na0_13.toInt ≤ 1) ∧ (a0_5.toInt ≤ na0_5.toInt ∧ ((na0_5.toInt = a0_5.toInt ∧ na0_6.toInt = a0_6.toInt) ∨ na0_6.toInt ≠ 59 ∨ a0_5.toInt < na0_5.toInt)) ∧ ((FfG_X8_number a1.toInt a2.toInt a0_3.toInt a0_4.toInt a0_5.toInt a0_6.toInt a0_7.toInt a0_8.toInt a0_9.toInt a0_10.toInt (fl_A fa0_1) (fl_A fa0_12)).2 = (na0_4.toInt, na0_5.toInt, na0_6.toInt, na0_7.toInt, na0_8.toInt, na0_9.toInt, na0_10.toInt, na0_13.toInt, (fl_A nfa0_12))) ∧ ax_B dC dI A [(a0, .inr (8, [a0g_0, Value.ref a0_1, a0g_2, Value.int a0_3, Value.int na0_4, Value.int na0_5, Value.int na0_6, Value.int na0_7, Value.int na0_8, Value.int na0_9, Value.int na0_10, a0g_11, Value.ref a0_12, Value.int na0_13, a0g_14, a0g_15, a0g_16, a0g_17, a0g_18, a0g_19, a0g_20, a0g_21, a0g_22, a0g_23, a0g_24, a0g_25, a0g_26, a0g_27, a0g_28, a0g_29, a0g_30, a0g_31, a0g_32, a0g_33, a0g_34, a0g_35, a0g_36, a0g_37, a0g_38, a0g_39])), (a0_1, .inl (ka0_1, 900, .inl (fa0_1))), (a0_12, .inl (ka0_12, 8, .inl (nfa0_12)))] [(ka0_1, .int), (ka0_12, .int)] t) A) := by
  refine zh (cc := cX8_number) (maxL := 4) (ret := (some .int)) zn_RX8 rfl (Nat.le_of_ble_eq_true rfl) (fun p e s m below meth c A ls hx hb hml hr hts (hown : s.vm.findClass RX8 = some m.cls) hlocks hA hS hP hK hD hE (hl : lv_has ls 4 [(0, .ref a0), (1, .int a1), (2, .int a2)]) => ?_)
  generalize hFX : FfG_X8_number a1.toInt a2.toInt a0_3.toInt a0_4.toInt a0_5.toInt a0_6.toInt a0_7.toInt a0_8.toInt a0_9.toInt a0_10.toInt (fl_A fa0_1) (fl_A fa0_12) = FX at ⊢
  have hF0 := hFX.symm.trans (FfG_X8_number.eq_1 a1.toInt a2.toInt a0_3.toInt a0_4.toInt a0_5.toInt a0_6.toInt a0_7.toInt a0_8.toInt a0_9.toInt a0_10.toInt (fl_A fa0_1) (fl_A fa0_12))
  refine lv_aload_n hx hb dX8_number_0 rfl (lv_at hl 0 rfl) ?_
  refine lv_iload_n hx hb dX8_number_1 rfl (lv_at hl 1 rfl) ?_
  refine lv_iload_n hx hb dX8_number_2 rfl (lv_at hl 2 rfl) ?_
  refine va_calli (va_runV (As := [.int a1, .int a2]) (rest := []) ⟨hx, hb, hml, hown, hts⟩ (fG_X8_numberHere l dC dI s.heap.size a0 a1 a2 a0g_0 (Value.ref a0_1) a0g_2 (Value.int a0_3) (Value.int a0_5) (Value.int a0_8) a0g_11 (Value.ref a0_12) a0g_14 a0g_15 a0g_16 a0g_17 a0g_18 a0g_19 a0g_20 a0g_21 a0g_22 a0g_23 a0g_24 a0g_25 a0g_26 a0g_27 a0g_28 a0g_29 a0g_30 a0g_31 a0g_32 a0g_33 a0g_34 a0g_35 a0g_36 a0g_37 a0g_38 a0g_39 a0_4 a0_6 a0_7 a0_9 a0_10 ) (cwV 2 hts gX8_number_X8_numberHere rfl rfl rfl zd_X8_numberHere ⟨Nat.le_of_ble_eq_true rfl, Nat.le_of_ble_eq_true rfl⟩) ⟨ax_blind (fun _ _ _ _ _ => trivial), zr_8 (zp_K hK) (zp_P1 hP) (q0 := 0) rfl, ax_pre (zp_P1 hP) (zp_K hK) (zp_D1 hD) (fun _ _ => trivial)⟩ rfl rfl hl.1 rfl (lv_room (Nat.le_of_ble_eq_true rfl)) dX8_number_3 ⟨Nat.le_of_ble_eq_true rfl, Nat.le_of_ble_eq_true rfl⟩) hS (fun q _ h => zp_F1 hD hS hA q h) (zp_F1 hD hS hA) (fun r3 v3na0_13 t H1 locs ht hvm hw => zx_2 (fun v3na0_9 v3na0_10 => zy_2 (fun bv3na0_13 hraw3_0 hB hz1 hk1 hS1 => zo1 hB ht hP hD hk1 (zp_F1 hD hS hA) hS1 (fun hP hK1 hD hS => ?_))))
  generalize H1 = H at hP hS ⊢
  obtain ⟨hw, hfr3⟩ := hw
  have hc3 : FfG_X8_numberHere a1.toInt a2.toInt a0_4.toInt a0_6.toInt a0_7.toInt a0_9.toInt a0_10.toInt = (r3.toInt, v3na0_9.toInt, v3na0_10.toInt, v3na0_13.toInt) := Prod.ext hfr3.symm hraw3_0
  have hF0 := hF0.trans (fl_c4_eq hc3)
  rcases hw with hw | hw
  · obtain ⟨hw, h3⟩ := hw
    subst hw
    have hF0 := hF0.trans (if_pos (by decide))
    refine lv_istore_n (lv' := [(3, .int r3), (0, .ref a0), (1, .int a1), (2, .int a2)]) hx hb dX8_number_6 rfl hl (by decide) rfl (fun ls hl => ?_)
    refine lv_aload_n hx hb dX8_number_7 rfl (lv_at hl 1 rfl) ?_
    refine va_callv (va_runV (As := []) (rest := []) ⟨hx, hb, hml, hown, hts⟩ (fF_X8_pass l dC dI H.size a0 a0g_0 (Value.ref a0_1) a0g_2 (Value.int a0_3) (Value.int a0_4) (Value.int a0_5) (Value.int a0_6) (Value.int a0_7) (Value.int a0_8) (Value.int v3na0_9) (Value.int v3na0_10) a0g_11 (Value.ref a0_12) a0g_14 a0g_15 a0g_16 a0g_17 a0g_18 a0g_19 a0g_20 a0g_21 a0g_22 a0g_23 a0g_24 a0g_25 a0g_26 a0g_27 a0g_28 a0g_29 a0g_30 a0g_31 a0g_32 a0g_33 a0g_34 a0g_35 a0g_36 a0g_37 a0g_38 a0g_39 ) (cwV 0 hts gX8_number_X8_pass rfl rfl rfl zd_X8_pass ⟨Nat.le_of_ble_eq_true rfl, Nat.le_of_ble_eq_true rfl⟩) ⟨ax_blind (fun _ _ _ _ _ => trivial), zr_8 (zp_K hK) (zp_P1 hP) (q0 := 0) rfl, ax_pre (zp_P1 hP) (zp_K hK) (zp_D1 hD) (fun _ _ => trivial)⟩ rfl rfl hl.1 rfl (lv_room (Nat.le_of_ble_eq_true rfl)) dX8_number_8 ⟨Nat.le_of_ble_eq_true rfl, Nat.le_of_ble_eq_true rfl⟩) hS (fun q _ h => zp_F1 hD hS hA q h) (zp_F1 hD hS hA) (fun u t H locs ht hvm hw hB hz1 hk1 hS1 => zo1 hB ht hP hD hk1 (zp_F1 hD hS hA) hS1 (fun hP hK1 hD hS => ?_))
    refine lv_iload_n hx hb dX8_number_11 rfl (lv_at hl 0 rfl) ?_
    have hFe : FX = (r3.toInt, a0_4.toInt, a0_5.toInt, a0_6.toInt, a0_7.toInt, a0_8.toInt, v3na0_9.toInt, v3na0_10.toInt, 1, (fl_A fa0_12)) := hF0
    exact W.iret (v := r3) hx hb hr (fun t ht hW => ⟨⟨r3, 1, rfl, ⟨(Or.inl ⟨rfl, by first | rfl | assumption⟩), (congrArg Prod.fst hFe).symm⟩, a0_4, a0_5, a0_6, a0_7, a0_8, v3na0_9, v3na0_10, fa0_12, ⟨ba0_5_l, ba0_5_u⟩, ⟨ba0_8_l, ba0_8_u⟩, ⟨Int.le_trans (by decide) zq1, zq0⟩, (em_r _ _), (congrArg Prod.snd hFe), by rw [ht]; exact hP, va_K.moved hW.alike hK, hD⟩, hS.F ht⟩) hS.2.2 dX8_number_12
  · obtain ⟨hw, h3⟩ := hw
    subst hw
    have hF0 := hF0.trans (if_neg (by decide))
    refine lv_istore_n (lv' := [(3, .int r3), (0, .ref a0), (1, .int a1), (2, .int a2)]) hx hb dX8_number_6 rfl hl (by decide) rfl (fun ls hl => ?_)
    refine lv_aload_n hx hb dX8_number_7 rfl (lv_at hl 1 rfl) ?_
    have hKc := hK.sub (tys' := [(ka0_1, .int), (ka0_12, .int)]) [0, 1] rfl
    refine va_callv (va_runV (As := []) (rest := []) ⟨hx, hb, hml, hown, hts⟩ (fG_X8_pass l dC dI H.size a0 a0g_0 a0g_2 (Value.int v3na0_9) (Value.int v3na0_10) a0g_11 a0g_14 a0g_15 a0g_16 a0g_17 a0g_18 a0g_19 a0g_20 a0g_21 a0g_22 a0g_23 a0g_24 a0g_25 a0g_26 a0g_27 a0g_28 a0g_29 a0g_30 a0g_31 a0g_32 a0g_33 a0g_34 a0g_35 a0g_36 a0g_37 a0g_38 a0g_39 a0_1 a0_3 a0_4 a0_5 a0_6 a0_7 a0_8 a0_12 ka0_1 fa0_1 ka0_12 fa0_12 ba0_3_l ba0_3_u ba0_5_l ba0_5_u ba0_8_l ba0_8_u) (cwV 0 hts gX8_number_X8_pass rfl rfl rfl zd_X8_pass ⟨Nat.le_of_ble_eq_true rfl, Nat.le_of_ble_eq_true rfl⟩) ⟨ax_blind (fun _ _ _ _ _ => trivial), zr_8 hKc (zp_P3 hP) (q0 := 0) rfl, ax_pre (zp_P3 hP) hKc (zp_D3 hD) (fun _ _ => trivial)⟩ rfl rfl hl.1 rfl (lv_room (Nat.le_of_ble_eq_true rfl)) dX8_number_8 ⟨Nat.le_of_ble_eq_true rfl, Nat.le_of_ble_eq_true rfl⟩) hS (fun q _ h => zp_F3 hD hS hA q h) (zp_F3 hD hS hA) (fun u t H locs ht hvm hw => zx_6 (fun v8na0_4 v8na0_5 v8na0_6 v8na0_7 v8na0_8 v8nfa0_12 => zy_5 (fun bv8na0_5 bv8na0_8 hraw8_0 hraw8_1 hraw8_2 hB hz1 hk1 hS1 => zo3 hB ht hP hD hk1 (zp_F3 hD hS hA) hS1 (fun hP hK1 hD hS => ?_))))
    have hc8 : FfG_X8_pass a0_3.toInt a0_5.toInt (fl_A fa0_1) (fl_A fa0_12) = (v8na0_4.toInt, v8na0_5.toInt, v8na0_6.toInt, v8na0_7.toInt, v8na0_8.toInt, (fl_A v8nfa0_12)) := hraw8_2
    have hF0 := hF0.trans (fl_c6_eq hc8)
    refine lv_iload_n hx hb dX8_number_11 rfl (lv_at hl 0 rfl) ?_
    have hFe : FX = (r3.toInt, v8na0_4.toInt, v8na0_5.toInt, v8na0_6.toInt, v8na0_7.toInt, v8na0_8.toInt, v3na0_9.toInt, v3na0_10.toInt, 0, (fl_A v8nfa0_12)) := hF0
    exact W.iret (v := r3) hx hb hr (fun t ht hW => ⟨⟨r3, 0, rfl, ⟨(Or.inr ⟨rfl, by omega, by omega⟩), (congrArg Prod.fst hFe).symm⟩, v8na0_4, v8na0_5, v8na0_6, v8na0_7, v8na0_8, v3na0_9, v3na0_10, v8nfa0_12, ⟨bv8na0_5.1, bv8na0_5.2⟩, ⟨bv8na0_8.1, bv8na0_8.2⟩, ⟨zq5, Int.le_trans zq6 (by decide)⟩, hraw8_1, (congrArg Prod.snd hFe), by rw [ht]; exact hP, va_K.moved hW.alike hK, hD⟩, hS.F ht⟩) hS.2.2 dX8_number_12

set_option maxHeartbeats 4000000 in
set_option maxRecDepth 100000 in
theorem fF_X8_after (l : Launch) (dC : Nat → ClassId) (dI : Nat → Nat → Nat) (sz : Nat) (a0 : Nat) (a1 : Nat) (a2 : Int32) (a3 : Int32) (a0g_0 a0g_1 a0g_2 a0g_3 a0g_4 a0g_5 a0g_6 a0g_7 a0g_8 a0g_9 a0g_10 a0g_11 a0g_12 a0g_14 a0g_15 a0g_16 a0g_17 a0g_18 a0g_19 a0g_20 a0g_21 a0g_22 a0g_23 a0g_24 a0g_25 a0g_26 a0g_27 a0g_28 a0g_29 a0g_30 a0g_31 a0g_32 a0g_33 a0g_34 a0g_35 a0g_36 a0g_37 a0g_38 a0g_39 : Value) (na1 : Nat) (ca1 : Nat → Int32)  : zm l yX8_after wsX8_after ({ frames := 2, cells := 0, slots := 0, locals := 45 }) [.ref a0, .ref a1, .int a2, .int a3] dC dI sz [(a0, .inr (8, [a0g_0, a0g_1, a0g_2, a0g_3, a0g_4, a0g_5, a0g_6, a0g_7, a0g_8, a0g_9, a0g_10, a0g_11, a0g_12, Value.int 1, a0g_14, a0g_15, a0g_16, a0g_17, a0g_18, a0g_19, a0g_20, a0g_21, a0g_22, a0g_23, a0g_24, a0g_25, a0g_26, a0g_27, a0g_28, a0g_29, a0g_30, a0g_31, a0g_32, a0g_33, a0g_34, a0g_35, a0g_36, a0g_37, a0g_38, a0g_39]))] [] (fun A U => sxc_W a1 na1 ca1 A U) (fun A => va_Qi (fun (r : Int32) (_ : Unit) => (r = a2) ∧ r.toInt = FfF_X8_after a2.toInt) (fun (_ : Unit) (t : State) => ax_B dC dI A [(a0, .inr (8, [a0g_0, a0g_1, a0g_2, a0g_3, a0g_4, a0g_5, a0g_6, a0g_7, a0g_8, a0g_9, a0g_10, a0g_11, a0g_12, Value.int 1, a0g_14, a0g_15, a0g_16, a0g_17, a0g_18, a0g_19, a0g_20, a0g_21, a0g_22, a0g_23, a0g_24, a0g_25, a0g_26, a0g_27, a0g_28, a0g_29, a0g_30, a0g_31, a0g_32, a0g_33, a0g_34, a0g_35, a0g_36, a0g_37, a0g_38, a0g_39]))] [] t) A) := by
  refine zh (cc := cX8_after) (maxL := 4) (ret := (some .int)) zn_RX8 rfl (Nat.le_of_ble_eq_true rfl) (fun p e s m below meth c A ls hx hb hml hr hts (hown : s.vm.findClass RX8 = some m.cls) hlocks hA hS hP hK hD hE (hl : lv_has ls 4 [(0, .ref a0), (1, .ref a1), (2, .int a2), (3, .int a3)]) => ?_)
  have hE0 := hE
  generalize hFX : FfF_X8_after a2.toInt = FX at ⊢
  have hF0 := hFX.symm.trans (FfF_X8_after.eq_1 a2.toInt)
  refine lv_aload_n hx hb dX8_after_0 rfl (lv_at hl 0 rfl) ?_
  refine lv_aload_n hx hb dX8_after_1 rfl (lv_at hl 1 rfl) ?_
  refine va_callv (va_runV (As := [.ref a1]) (rest := []) ⟨hx, hb, hml, hown, hts⟩ (fF_X8_must l dC dI s.heap.size a0 a1 a0g_0 a0g_1 a0g_2 a0g_3 a0g_4 a0g_5 a0g_6 a0g_7 a0g_8 a0g_9 a0g_10 a0g_11 a0g_12 a0g_14 a0g_15 a0g_16 a0g_17 a0g_18 a0g_19 a0g_20 a0g_21 a0g_22 a0g_23 a0g_24 a0g_25 a0g_26 a0g_27 a0g_28 a0g_29 a0g_30 a0g_31 a0g_32 a0g_33 a0g_34 a0g_35 a0g_36 a0g_37 a0g_38 a0g_39 na1 ca1 ) (cwV 1 hts gX8_after_X8_must rfl rfl rfl zd_X8_must ⟨Nat.le_of_ble_eq_true rfl, Nat.le_of_ble_eq_true rfl⟩) ⟨ax_blind (fun _ _ _ _ hq => sxc_W_same _ _ _ _ (hq)), zr_8 (zp_K hK) (zp_P1 hP) (q0 := 0) rfl, ax_preE (zp_P1 hP) (zp_K hK) (zp_D1 hD) (fun U hU hW => sxc_W_to hE0 hS.2.1 (zp_F1 hD hS hA) hU hW)⟩ rfl rfl hl.1 rfl (lv_room (Nat.le_of_ble_eq_true rfl)) dX8_after_2 ⟨Nat.le_of_ble_eq_true rfl, Nat.le_of_ble_eq_true rfl⟩) hS (fun q _ h => zp_F1 hD hS hA q h) (zp_F1 hD hS hA) (fun u t H locs ht hvm hw hB hz1 hk1 hS1 => zo1 hB ht hP hD hk1 (zp_F1 hD hS hA) hS1 (fun hP hK1 hD hS => ?_))
  refine lv_aload_n hx hb dX8_after_5 rfl (lv_at hl 0 rfl) ?_
  refine lv_iload_n hx hb dX8_after_6 rfl (lv_at hl 2 rfl) ?_
  refine lv_iload_n hx hb dX8_after_7 rfl (lv_at hl 3 rfl) ?_
  refine va_calli (va_runV (As := [.int a2, .int a3]) (rest := []) ⟨hx, hb, hml, hown, hts⟩ (fF_X8_number l dC dI H.size a0 a2 a3 a0g_0 a0g_1 a0g_2 a0g_3 a0g_4 a0g_5 a0g_6 a0g_7 a0g_8 a0g_9 a0g_10 a0g_11 a0g_12 a0g_14 a0g_15 a0g_16 a0g_17 a0g_18 a0g_19 a0g_20 a0g_21 a0g_22 a0g_23 a0g_24 a0g_25 a0g_26 a0g_27 a0g_28 a0g_29 a0g_30 a0g_31 a0g_32 a0g_33 a0g_34 a0g_35 a0g_36 a0g_37 a0g_38 a0g_39 ) (cwV 2 hts gX8_after_X8_number rfl rfl rfl zd_X8_number ⟨Nat.le_of_ble_eq_true rfl, Nat.le_of_ble_eq_true rfl⟩) ⟨ax_blind (fun _ _ _ _ _ => trivial), zr_8 (zp_K hK) (zp_P1 hP) (q0 := 0) rfl, ax_pre (zp_P1 hP) (zp_K hK) (zp_D1 hD) (fun _ _ => trivial)⟩ rfl rfl hl.1 rfl (lv_room (Nat.le_of_ble_eq_true rfl)) dX8_after_8 ⟨Nat.le_of_ble_eq_true rfl, Nat.le_of_ble_eq_true rfl⟩) hS (fun q _ h => zp_F1 hD hS hA q h) (zp_F1 hD hS hA) (fun r8 u t H locs ht hvm hw hB hz1 hk1 hS1 => zo1 hB ht hP hD hk1 (zp_F1 hD hS hA) hS1 (fun hP hK1 hD hS => ?_))
  obtain ⟨hw, hfr8⟩ := hw
  have hc8 : FfF_X8_number a2.toInt = r8.toInt := hfr8.symm
  have hF0 := hF0.trans (fl_lt_eq hc8.symm)
  have hw : r8 = a2 := hw
  have hw := hw.symm
  subst hw
  have hFe : FX = a2.toInt := hF0
  exact W.iret (v := a2) hx hb hr (fun t ht hW => ⟨⟨a2, (), rfl, ⟨rfl, hFe.symm⟩, by rw [ht]; exact hP, va_K.moved hW.alike hK, hD⟩, hS.F ht⟩) hS.2.2 dX8_after_11

set_option maxHeartbeats 4000000 in
set_option maxRecDepth 100000 in
theorem fG_X8_after (l : Launch) (dC : Nat → ClassId) (dI : Nat → Nat → Nat) (sz : Nat) (a0 : Nat) (a1 : Nat) (a2 : Int32) (a3 : Int32) (a0g_0 a0g_2 a0g_11 a0g_14 a0g_15 a0g_16 a0g_17 a0g_18 a0g_19 a0g_20 a0g_21 a0g_22 a0g_23 a0g_24 a0g_25 a0g_26 a0g_27 a0g_28 a0g_29 a0g_30 a0g_31 a0g_32 a0g_33 a0g_34 a0g_35 a0g_36 a0g_37 a0g_38 a0g_39 : Value) (a0_1 : Nat) (a0_3 : Int32) (a0_4 : Int32) (a0_5 : Int32) (a0_6 : Int32) (a0_7 : Int32) (a0_8 : Int32) (a0_9 : Int32) (a0_10 : Int32) (a0_12 : Nat) (ka0_12 : ClassId) (fa0_12 : Nat → Int32) (ka0_1 : ClassId) (fa0_1 : Nat → Int32) (na1 : Nat) (ca1 : Nat → Int32) (ba0_3_l : (0 : Int) ≤ a0_3.toInt) (ba0_3_u : a0_3.toInt ≤ (900 : Int)) (ba0_5_l : (0 : Int) ≤ a0_5.toInt) (ba0_5_u : a0_5.toInt ≤ (900 : Int)) (ba0_8_l : (0 : Int) ≤ a0_8.toInt) (ba0_8_u : a0_8.toInt ≤ (900 : Int)) : zm l yX8_after wsX8_after ({ frames := 7, cells := 0, slots := 0, locals := 150 }) [.ref a0, .ref a1, .int a2, .int a3] dC dI sz [(a0, .inr (8, [a0g_0, Value.ref a0_1, a0g_2, Value.int a0_3, Value.int a0_4, Value.int a0_5, Value.int a0_6, Value.int a0_7, Value.int a0_8, Value.int a0_9, Value.int a0_10, a0g_11, Value.ref a0_12, Value.int 0, a0g_14, a0g_15, a0g_16, a0g_17, a0g_18, a0g_19, a0g_20, a0g_21, a0g_22, a0g_23, a0g_24, a0g_25, a0g_26, a0g_27, a0g_28, a0g_29, a0g_30, a0g_31, a0g_32, a0g_33, a0g_34, a0g_35, a0g_36, a0g_37, a0g_38, a0g_39])), (a0_12, .inl (ka0_12, 8, .inl (fa0_12))), (a0_1, .inl (ka0_1, 900, .inl (fa0_1)))] [(ka0_12, .int), (ka0_1, .int)] (fun A U => sxc_W a1 na1 ca1 A U) (fun A => va_Qi (fun (r : Int32) (na0_13 : Int32) => ((na0_13 = 1 ∧ r = a2) ∨ (na0_13 = 0 ∧ a2.toInt ≤ r.toInt ∧ r.toInt ≤ a3.toInt)) ∧ r.toInt = (FfG_X8_after a2.toInt a3.toInt a0_3.toInt a0_4.toInt a0_5.toInt a0_6.toInt a0_7.toInt a0_8.toInt a0_9.toInt a0_10.toInt (fl_A fa0_12) (fl_A fa0_1) (na1 : Int) (fl_A ca1)).1) (fun (na0_13 : Int32) (t : State) => ∃ na0_4 : Int32, ∃ na0_5 : Int32, ∃ na0_6 : Int32, ∃ na0_7 : Int32, ∃ na0_8 : Int32, ∃ na0_9 : Int32, ∃ na0_10 : Int32, ∃ nfa0_12 : Nat → Int32, ((0 : Int) ≤ na0_5.toInt ∧ na0_5.toInt ≤ 900) ∧ ((0 : Int) ≤ na0_8.toInt ∧ na0_8.toInt ≤ 900) ∧ ((0 : Int) ≤ na0_13.toInt ∧ na0_13.toInt ≤ 1) ∧ (a0_5.toInt ≤ na0_5.toInt ∧ ((na0_5.toInt = a0_5.toInt ∧ na0_6.toInt = a0_6.toInt) ∨ na0_6.toInt ≠ 59 ∨ a0_5.toInt < na0_5.toInt)) ∧ ((FfG_X8_after a2.toInt a3.toInt a0_3.toInt a0_4.toInt a0_5.toInt a0_6.toInt a0_7.toInt a0_8.toInt a0_9.toInt a0_10.toInt (fl_A fa0_12) (fl_A fa0_1) (na1 : Int) (fl_A ca1)).2 = (na0_4.toInt, na0_5.toInt, na0_6.toInt, na0_7.toInt, na0_8.toInt, na0_9.toInt, na0_10.toInt, na0_13.toInt, (fl_A nfa0_12))) ∧ ax_B dC dI A [(a0, .inr (8, [a0g_0, Value.ref a0_1, a0g_2, Value.int a0_3, Value.int na0_4, Value.int na0_5, Value.int na0_6, Value.int na0_7, Value.int na0_8, Value.int na0_9, Value.int na0_10, a0g_11, Value.ref a0_12, Value.int na0_13, a0g_14, a0g_15, a0g_16, a0g_17, a0g_18, a0g_19, a0g_20, a0g_21, a0g_22, a0g_23, a0g_24, a0g_25, a0g_26, a0g_27, a0g_28, a0g_29, a0g_30, a0g_31, a0g_32, a0g_33, a0g_34, a0g_35, a0g_36, a0g_37, a0g_38, a0g_39])), (a0_12, .inl (ka0_12, 8, .inl (nfa0_12))), (a0_1, .inl (ka0_1, 900, .inl (fa0_1)))] [(ka0_12, .int), (ka0_1, .int)] t) A) := by
  refine zh (cc := cX8_after) (maxL := 4) (ret := (some .int)) zn_RX8 rfl (Nat.le_of_ble_eq_true rfl) (fun p e s m below meth c A ls hx hb hml hr hts (hown : s.vm.findClass RX8 = some m.cls) hlocks hA hS hP hK hD hE (hl : lv_has ls 4 [(0, .ref a0), (1, .ref a1), (2, .int a2), (3, .int a3)]) => ?_)
  have hE0 := hE
  generalize hFX : FfG_X8_after a2.toInt a3.toInt a0_3.toInt a0_4.toInt a0_5.toInt a0_6.toInt a0_7.toInt a0_8.toInt a0_9.toInt a0_10.toInt (fl_A fa0_12) (fl_A fa0_1) (na1 : Int) (fl_A ca1) = FX at ⊢
  have hF0 := hFX.symm.trans (FfG_X8_after.eq_1 a2.toInt a3.toInt a0_3.toInt a0_4.toInt a0_5.toInt a0_6.toInt a0_7.toInt a0_8.toInt a0_9.toInt a0_10.toInt (fl_A fa0_12) (fl_A fa0_1) (na1 : Int) (fl_A ca1))
  refine lv_aload_n hx hb dX8_after_0 rfl (lv_at hl 0 rfl) ?_
  refine lv_aload_n hx hb dX8_after_1 rfl (lv_at hl 1 rfl) ?_
  have hKc := hK.sub (tys' := [(ka0_12, .int), (ka0_1, .int)]) [0, 1] rfl
  refine va_callv (va_runV (As := [.ref a1]) (rest := []) ⟨hx, hb, hml, hown, hts⟩ (fG_X8_must l dC dI s.heap.size a0 a1 a0g_0 a0g_2 a0g_11 a0g_14 a0g_15 a0g_16 a0g_17 a0g_18 a0g_19 a0g_20 a0g_21 a0g_22 a0g_23 a0g_24 a0g_25 a0g_26 a0g_27 a0g_28 a0g_29 a0g_30 a0g_31 a0g_32 a0g_33 a0g_34 a0g_35 a0g_36 a0g_37 a0g_38 a0g_39 a0_1 a0_3 a0_4 a0_5 a0_6 a0_7 a0_8 a0_9 a0_10 a0_12 ka0_12 fa0_12 ka0_1 fa0_1 na1 ca1 ba0_3_l ba0_3_u ba0_5_l ba0_5_u ba0_8_l ba0_8_u) (cwV 1 hts gX8_after_X8_must rfl rfl rfl zd_X8_must ⟨Nat.le_of_ble_eq_true rfl, Nat.le_of_ble_eq_true rfl⟩) ⟨ax_blind (fun _ _ _ _ hq => sxc_W_same _ _ _ _ (hq)), zr_8 hKc (zp_P3 hP) (q0 := 0) rfl, ax_preE (zp_P3 hP) hKc (zp_D3 hD) (fun U hU hW => sxc_W_to hE0 hS.2.1 (zp_F3 hD hS hA) hU hW)⟩ rfl rfl hl.1 rfl (lv_room (Nat.le_of_ble_eq_true rfl)) dX8_after_2 ⟨Nat.le_of_ble_eq_true rfl, Nat.le_of_ble_eq_true rfl⟩) hS (fun q _ h => zp_F3 hD hS hA q h) (zp_F3 hD hS hA) (fun u t H locs ht hvm hw => zx_9 (fun v2na0_4 v2na0_5 v2na0_6 v2na0_7 v2na0_8 v2na0_9 v2na0_10 v2na0_13 v2nfa0_12 => zy_6 (fun bv2na0_5 bv2na0_8 bv2na0_13 hraw2_0 hraw2_1 hraw2_2 hB hz1 hk1 hS1 => zo3 hB ht hP hD hk1 (zp_F3 hD hS hA) hS1 (fun hP hK1 hD hS => ?_))))
  have hc2 : FfG_X8_must a0_3.toInt a0_4.toInt a0_5.toInt a0_6.toInt a0_7.toInt a0_8.toInt a0_9.toInt a0_10.toInt (fl_A fa0_12) (fl_A fa0_1) (na1 : Int) (fl_A ca1) = (v2na0_4.toInt, v2na0_5.toInt, v2na0_6.toInt, v2na0_7.toInt, v2na0_8.toInt, v2na0_9.toInt, v2na0_10.toInt, v2na0_13.toInt, (fl_A v2nfa0_12)) := hraw2_2
  have hF0 := hF0.trans (fl_c9_eq hc2)
  rcases hraw2_0 with hf2 | hf2
  · subst hf2
    have hF0 := hF0.trans (if_pos (by decide))
    refine lv_aload_n hx hb dX8_after_5 rfl (lv_at hl 0 rfl) ?_
    refine lv_iload_n hx hb dX8_after_6 rfl (lv_at hl 2 rfl) ?_
    refine lv_iload_n hx hb dX8_after_7 rfl (lv_at hl 3 rfl) ?_
    refine va_calli (va_runV (As := [.int a2, .int a3]) (rest := []) ⟨hx, hb, hml, hown, hts⟩ (fF_X8_number l dC dI H.size a0 a2 a3 a0g_0 (Value.ref a0_1) a0g_2 (Value.int a0_3) (Value.int v2na0_4) (Value.int v2na0_5) (Value.int v2na0_6) (Value.int v2na0_7) (Value.int v2na0_8) (Value.int v2na0_9) (Value.int v2na0_10) a0g_11 (Value.ref a0_12) a0g_14 a0g_15 a0g_16 a0g_17 a0g_18 a0g_19 a0g_20 a0g_21 a0g_22 a0g_23 a0g_24 a0g_25 a0g_26 a0g_27 a0g_28 a0g_29 a0g_30 a0g_31 a0g_32 a0g_33 a0g_34 a0g_35 a0g_36 a0g_37 a0g_38 a0g_39 ) (cwV 2 hts gX8_after_X8_number rfl rfl rfl zd_X8_number ⟨Nat.le_of_ble_eq_true rfl, Nat.le_of_ble_eq_true rfl⟩) ⟨ax_blind (fun _ _ _ _ _ => trivial), zr_8 (zp_K hK) (zp_P1 hP) (q0 := 0) rfl, ax_pre (zp_P1 hP) (zp_K hK) (zp_D1 hD) (fun _ _ => trivial)⟩ rfl rfl hl.1 rfl (lv_room (Nat.le_of_ble_eq_true rfl)) dX8_after_8 ⟨Nat.le_of_ble_eq_true rfl, Nat.le_of_ble_eq_true rfl⟩) hS (fun q _ h => zp_F1 hD hS hA q h) (zp_F1 hD hS hA) (fun r8 u t H locs ht hvm hw hB hz1 hk1 hS1 => zo1 hB ht hP hD hk1 (zp_F1 hD hS hA) hS1 (fun hP hK1 hD hS => ?_))
    obtain ⟨hw, hfr8⟩ := hw
    have hc8 : FfF_X8_number a2.toInt = r8.toInt := hfr8.symm
    have hF0 := hF0.trans (fl_lt_eq hc8.symm)
    have hw : r8 = a2 := hw
    have hw := hw.symm
    subst hw
    have hFe : FX = (a2.toInt, v2na0_4.toInt, v2na0_5.toInt, v2na0_6.toInt, v2na0_7.toInt, v2na0_8.toInt, v2na0_9.toInt, v2na0_10.toInt, 1, (fl_A v2nfa0_12)) := hF0
    exact W.iret (v := a2) hx hb hr (fun t ht hW => ⟨⟨a2, 1, rfl, ⟨(Or.inl ⟨rfl, rfl⟩), (congrArg Prod.fst hFe).symm⟩, v2na0_4, v2na0_5, v2na0_6, v2na0_7, v2na0_8, v2na0_9, v2na0_10, v2nfa0_12, ⟨bv2na0_5.1, bv2na0_5.2⟩, ⟨bv2na0_8.1, bv2na0_8.2⟩, ⟨Int.le_trans (by decide) zq1, zq0⟩, hraw2_1, (congrArg Prod.snd hFe), by rw [ht]; exact hP, va_K.moved hW.alike hK, hD⟩, hS.F ht⟩) hS.2.2 dX8_after_11
  · subst hf2
    have hF0 := hF0.trans (if_neg (by decide))
    refine lv_aload_n hx hb dX8_after_5 rfl (lv_at hl 0 rfl) ?_
    refine lv_iload_n hx hb dX8_after_6 rfl (lv_at hl 2 rfl) ?_
    refine lv_iload_n hx hb dX8_after_7 rfl (lv_at hl 3 rfl) ?_
    refine zc_cutc (wc := [(a0, .inr (8, [a0g_0, Value.ref a0_1, a0g_2, Value.int a0_3, Value.int v2na0_4, Value.int v2na0_5, Value.int v2na0_6, Value.int v2na0_7, Value.int v2na0_8, Value.int v2na0_9, Value.int v2na0_10, a0g_11, Value.ref a0_12, Value.int 0, a0g_14, a0g_15, a0g_16, a0g_17, a0g_18, a0g_19, a0g_20, a0g_21, a0g_22, a0g_23, a0g_24, a0g_25, a0g_26, a0g_27, a0g_28, a0g_29, a0g_30, a0g_31, a0g_32, a0g_33, a0g_34, a0g_35, a0g_36, a0g_37, a0g_38, a0g_39])), (a0_1, .inl (ka0_1, 900, .inl (fa0_1))), (a0_12, .inl (ka0_12, 8, .inl (v2nfa0_12)))]) hP hD hS hA [0, 2, 1] (by decide +kernel) rfl (fun hPc hDc hFc hCc => ?_)
    have hKc := hK.sub (tys' := [(ka0_1, .int), (ka0_12, .int)]) [1, 0] rfl
    refine va_calli (va_runV (As := [.int a2, .int a3]) (rest := []) ⟨hx, hb, hml, hown, hts⟩ (fG_X8_number l dC dI H.size a0 a2 a3 a0g_0 a0g_2 a0g_11 a0g_14 a0g_15 a0g_16 a0g_17 a0g_18 a0g_19 a0g_20 a0g_21 a0g_22 a0g_23 a0g_24 a0g_25 a0g_26 a0g_27 a0g_28 a0g_29 a0g_30 a0g_31 a0g_32 a0g_33 a0g_34 a0g_35 a0g_36 a0g_37 a0g_38 a0g_39 a0_1 a0_3 v2na0_4 v2na0_5 v2na0_6 v2na0_7 v2na0_8 v2na0_9 v2na0_10 a0_12 ka0_1 fa0_1 ka0_12 v2nfa0_12 ba0_3_l ba0_3_u bv2na0_5.1 bv2na0_5.2 bv2na0_8.1 bv2na0_8.2) (cwV 2 hts gX8_after_X8_number rfl rfl rfl zd_X8_number ⟨Nat.le_of_ble_eq_true rfl, Nat.le_of_ble_eq_true rfl⟩) ⟨ax_blind (fun _ _ _ _ _ => trivial), zr_8 hKc hPc (q0 := 0) rfl, ax_pre hPc hKc hDc (fun _ _ => trivial)⟩ rfl rfl hl.1 rfl (lv_room (Nat.le_of_ble_eq_true rfl)) dX8_after_8 ⟨Nat.le_of_ble_eq_true rfl, Nat.le_of_ble_eq_true rfl⟩) hS (fun q _ h => hFc q h) hFc (fun r8 v8na0_13 t H1 locs ht hvm hw => zx_8 (fun v8na0_4 v8na0_5 v8na0_6 v8na0_7 v8na0_8 v8na0_9 v8na0_10 v8nfa0_12 => zy_5 (fun bv8na0_5 bv8na0_8 bv8na0_13 hraw8_0 hraw8_1 hB hz1 hk1 hS1 => zo hB ht hS1 (fun hP1 hK1 hD1 hS => ?_))))
    refine zc_backc (w := [(a0, .inr (8, [a0g_0, Value.ref a0_1, a0g_2, Value.int a0_3, Value.int v8na0_4, Value.int v8na0_5, Value.int v8na0_6, Value.int v8na0_7, Value.int v8na0_8, Value.int v8na0_9, Value.int v8na0_10, a0g_11, Value.ref a0_12, Value.int v8na0_13, a0g_14, a0g_15, a0g_16, a0g_17, a0g_18, a0g_19, a0g_20, a0g_21, a0g_22, a0g_23, a0g_24, a0g_25, a0g_26, a0g_27, a0g_28, a0g_29, a0g_30, a0g_31, a0g_32, a0g_33, a0g_34, a0g_35, a0g_36, a0g_37, a0g_38, a0g_39])), (a0_12, .inl (ka0_12, 8, .inl (v8nfa0_12))), (a0_1, .inl (ka0_1, 900, .inl (fa0_1)))]) hP hD hCc hk1 hFc hP1 hD1 [.inr 0, .inr 2, .inr 1] (by decide +kernel) rfl (fun hP hD => ?_)
    generalize H1 = H at hP hS ⊢
    obtain ⟨hw, hfr8⟩ := hw
    have hc8 : FfG_X8_number a2.toInt a3.toInt a0_3.toInt v2na0_4.toInt v2na0_5.toInt v2na0_6.toInt v2na0_7.toInt v2na0_8.toInt v2na0_9.toInt v2na0_10.toInt (fl_A fa0_1) (fl_A v2nfa0_12) = (r8.toInt, v8na0_4.toInt, v8na0_5.toInt, v8na0_6.toInt, v8na0_7.toInt, v8na0_8.toInt, v8na0_9.toInt, v8na0_10.toInt, v8na0_13.toInt, (fl_A v8nfa0_12)) := Prod.ext hfr8.symm hraw8_1
    have hF0 := hF0.trans (fl_c10_eq hc8)
    rcases hw with hw | hw
    · obtain ⟨hw, h8⟩ := hw
      subst hw
      have hF0 := hF0.trans (if_pos (by decide))
      have hFe : FX = (r8.toInt, v8na0_4.toInt, v8na0_5.toInt, v8na0_6.toInt, v8na0_7.toInt, v8na0_8.toInt, v8na0_9.toInt, v8na0_10.toInt, 1, (fl_A v8nfa0_12)) := hF0
      exact W.iret (v := r8) hx hb hr (fun t ht hW => ⟨⟨r8, 1, rfl, ⟨(Or.inl ⟨rfl, by first | rfl | assumption⟩), (congrArg Prod.fst hFe).symm⟩, v8na0_4, v8na0_5, v8na0_6, v8na0_7, v8na0_8, v8na0_9, v8na0_10, v8nfa0_12, ⟨bv8na0_5.1, bv8na0_5.2⟩, ⟨bv8na0_8.1, bv8na0_8.2⟩, ⟨Int.le_trans (by decide) zq1, zq0⟩, (em_t hraw2_1 hraw8_0), (congrArg Prod.snd hFe), by rw [ht]; exact hP, va_K.moved hW.alike hK, hD⟩, hS.F ht⟩) hS.2.2 dX8_after_11
    · obtain ⟨hw, h8⟩ := hw
      subst hw
      have hF0 := hF0.trans (if_neg (by decide))
      have hFe : FX = (r8.toInt, v8na0_4.toInt, v8na0_5.toInt, v8na0_6.toInt, v8na0_7.toInt, v8na0_8.toInt, v8na0_9.toInt, v8na0_10.toInt, 0, (fl_A v8nfa0_12)) := hF0
      exact W.iret (v := r8) hx hb hr (fun t ht hW => ⟨⟨r8, 0, rfl, ⟨(Or.inr ⟨rfl, by omega, by omega⟩), (congrArg Prod.fst hFe).symm⟩, v8na0_4, v8na0_5, v8na0_6, v8na0_7, v8na0_8, v8na0_9, v8na0_10, v8nfa0_12, ⟨bv8na0_5.1, bv8na0_5.2⟩, ⟨bv8na0_8.1, bv8na0_8.2⟩, ⟨zq5, Int.le_trans zq6 (by decide)⟩, (em_t hraw2_1 hraw8_0), (congrArg Prod.snd hFe), by rw [ht]; exact hP, va_K.moved hW.alike hK, hD⟩, hS.F ht⟩) hS.2.2 dX8_after_11

set_option maxHeartbeats 4000000 in
set_option maxRecDepth 100000 in
theorem fG_X8_begins (l : Launch) (dC : Nat → ClassId) (dI : Nat → Nat → Nat) (sz : Nat) (a0 : Nat) (a1 : Nat) (a2 : Int32) (a0g_0 a0g_2 a0g_11 a0g_14 a0g_15 a0g_17 a0g_18 a0g_19 a0g_20 a0g_21 a0g_22 a0g_23 a0g_24 a0g_25 a0g_26 a0g_27 a0g_28 a0g_29 a0g_30 a0g_31 a0g_32 a0g_33 a0g_34 a0g_35 a0g_36 a0g_37 a0g_38 a0g_39 : Value) (a0_1 : Nat) (a0_3 : Int32) (a0_4 : Int32) (a0_5 : Int32) (a0_6 : Int32) (a0_7 : Int32) (a0_8 : Int32) (a0_9 : Int32) (a0_10 : Int32) (a0_12 : Nat) (a0_16 : Nat) (ka0_12 : ClassId) (fa0_12 : Nat → Int32) (ka0_16 : ClassId) (fa0_16 : Nat → Int32) (ka0_1 : ClassId) (fa0_1 : Nat → Int32) (na1 : Nat) (ca1 : Nat → Int32) (ba2_l : (0 : Int) ≤ a2.toInt) (ba2_u : a2.toInt ≤ (1 : Int)) (ba0_3_l : (0 : Int) ≤ a0_3.toInt) (ba0_3_u : a0_3.toInt ≤ (900 : Int)) (ba0_5_l : (0 : Int) ≤ a0_5.toInt) (ba0_5_u : a0_5.toInt ≤ (900 : Int)) (ba0_8_l : (0 : Int) ≤ a0_8.toInt) (ba0_8_u : a0_8.toInt ≤ (900 : Int)) (bfa0_16 : ((∀ k : Nat, 0 ≤ k → k ≤ 0 → (0 : Int) ≤ (fa0_16 k).toInt ∧ (fa0_16 k).toInt ≤ 9) ∧ (∀ k : Nat, 1 ≤ k → k ≤ 1 → (0 : Int) ≤ (fa0_16 k).toInt ∧ (fa0_16 k).toInt ≤ 20) ∧ (∀ k : Nat, 2 ≤ k → k ≤ 2 → (0 : Int) ≤ (fa0_16 k).toInt ∧ (fa0_16 k).toInt ≤ 8) ∧ (∀ k : Nat, 3 ≤ k → k ≤ 3 → (0 : Int) ≤ (fa0_16 k).toInt ∧ (fa0_16 k).toInt ≤ 100) ∧ (∀ k : Nat, 4 ≤ k → k ≤ 4 → (0 : Int) ≤ (fa0_16 k).toInt ∧ (fa0_16 k).toInt ≤ 9) ∧ (∀ k : Nat, 5 ≤ k → k ≤ 5 → (0 : Int) ≤ (fa0_16 k).toInt ∧ (fa0_16 k).toInt ≤ 3) ∧ (∀ k : Nat, 6 ≤ k → k ≤ 6 → (0 : Int) ≤ (fa0_16 k).toInt ∧ (fa0_16 k).toInt ≤ 6) ∧ (∀ k : Nat, 7 ≤ k → k ≤ 9 → (0 : Int) ≤ (fa0_16 k).toInt ∧ (fa0_16 k).toInt ≤ 8) ∧ (∀ k : Nat, 10 ≤ k → k ≤ 11 → (0 : Int) ≤ (fa0_16 k).toInt ∧ (fa0_16 k).toInt ≤ 1) ∧ (∀ k : Nat, 12 ≤ k → k ≤ 29 → (0 : Int) ≤ (fa0_16 k).toInt ∧ (fa0_16 k).toInt ≤ 20) ∧ (∀ k : Nat, 30 ≤ k → k ≤ 35 → (0 : Int) ≤ (fa0_16 k).toInt ∧ (fa0_16 k).toInt ≤ 8) ∧ (∀ k : Nat, 36 ≤ k → k ≤ 47 → (0 : Int) ≤ (fa0_16 k).toInt ∧ (fa0_16 k).toInt ≤ 999) ∧ (∀ k : Nat, 48 ≤ k → k ≤ 59 → (0 : Int) ≤ (fa0_16 k).toInt ∧ (fa0_16 k).toInt ≤ 8) ∧ ((1 : Int) ≤ (fa0_16 11).toInt → (2 : Int) ≤ (fa0_16 0).toInt ∧ (1 : Int) ≤ (fa0_16 1).toInt) ∧ (∀ (j i0 i : Int32), (0 : Int) ≤ j.toInt → j.toInt ≤ 8 → i0.toInt = 12 + 2 * j.toInt → i.toInt = 13 + 2 * j.toInt → (fa0_16 i0.toNatClampNeg).toInt = (1 : Int32).toInt → (1 : Int) ≤ (fa0_16 i.toNatClampNeg).toInt))) (hR1 : (a0_6.toInt = 2 → a0_8.toInt ≤ 8)) : zm l yX8_begins wsX8_begins ({ frames := 5, cells := 0, slots := 0, locals := 108 }) [.ref a0, .ref a1, .int a2] dC dI sz [(a0, .inr (8, [a0g_0, Value.ref a0_1, a0g_2, Value.int a0_3, Value.int a0_4, Value.int a0_5, Value.int a0_6, Value.int a0_7, Value.int a0_8, Value.int a0_9, Value.int a0_10, a0g_11, Value.ref a0_12, Value.int 0, a0g_14, a0g_15, Value.ref a0_16, a0g_17, a0g_18, a0g_19, a0g_20, a0g_21, a0g_22, a0g_23, a0g_24, a0g_25, a0g_26, a0g_27, a0g_28, a0g_29, a0g_30, a0g_31, a0g_32, a0g_33, a0g_34, a0g_35, a0g_36, a0g_37, a0g_38, a0g_39])), (a0_12, .inl (ka0_12, 8, .inl (fa0_12))), (a0_16, .inl (ka0_16, 156, .inl (fa0_16))), (a0_1, .inl (ka0_1, 900, .inl (fa0_1)))] [(ka0_12, .int), (ka0_16, .int), (ka0_1, .int)] (fun A U => sxc_W a1 na1 ca1 A U) (fun A => va_Qi (fun (r : Int32) (na0_13 : Int32) => ((r = 0 ∧ na0_13 = 0) ∨ (r = 1 ∧ na0_13 = 1) ∨ (r = 1 ∧ na0_13 = 0 ∧ (1 : Int) ≤ a2.toInt ∧ (1 : Int) ≤ (fa0_16 11).toInt)) ∧ r.toInt = (FfG_X8_begins a2.toInt a0_3.toInt a0_4.toInt a0_5.toInt a0_6.toInt a0_7.toInt a0_8.toInt a0_9.toInt a0_10.toInt (fl_A fa0_12) (fl_A fa0_16) (fl_A fa0_1) (na1 : Int) (fl_A ca1)).1) (fun (na0_13 : Int32) (t : State) => ∃ na0_4 : Int32, ∃ na0_5 : Int32, ∃ na0_6 : Int32, ∃ na0_7 : Int32, ∃ na0_8 : Int32, ∃ na0_9 : Int32, ∃ na0_10 : Int32, ∃ nfa0_12 : Nat → Int32, ((0 : Int) ≤ na0_5.toInt ∧ na0_5.toInt ≤ 900) ∧ ((0 : Int) ≤ na0_8.toInt ∧ na0_8.toInt ≤ 900) ∧ ((0 : Int) ≤ na0_13.toInt ∧ na0_13.toInt ≤ 1) ∧ (na0_6.toInt = 2 → na0_8.toInt ≤ 8) ∧ (a0_5.toInt ≤ na0_5.toInt ∧ ((na0_5.toInt = a0_5.toInt ∧ na0_6.toInt = a0_6.toInt) ∨ na0_6.toInt ≠ 59 ∨ a0_5.toInt < na0_5.toInt)) ∧ ((FfG_X8_begins a2.toInt a0_3.toInt a0_4.toInt a0_5.toInt a0_6.toInt a0_7.toInt a0_8.toInt a0_9.toInt a0_10.toInt (fl_A fa0_12) (fl_A fa0_16) (fl_A fa0_1) (na1 : Int) (fl_A ca1)).2 = (na0_4.toInt, na0_5.toInt, na0_6.toInt, na0_7.toInt, na0_8.toInt, na0_9.toInt, na0_10.toInt, na0_13.toInt, (fl_A nfa0_12))) ∧ ax_B dC dI A [(a0, .inr (8, [a0g_0, Value.ref a0_1, a0g_2, Value.int a0_3, Value.int na0_4, Value.int na0_5, Value.int na0_6, Value.int na0_7, Value.int na0_8, Value.int na0_9, Value.int na0_10, a0g_11, Value.ref a0_12, Value.int na0_13, a0g_14, a0g_15, Value.ref a0_16, a0g_17, a0g_18, a0g_19, a0g_20, a0g_21, a0g_22, a0g_23, a0g_24, a0g_25, a0g_26, a0g_27, a0g_28, a0g_29, a0g_30, a0g_31, a0g_32, a0g_33, a0g_34, a0g_35, a0g_36, a0g_37, a0g_38, a0g_39])), (a0_12, .inl (ka0_12, 8, .inl (nfa0_12))), (a0_16, .inl (ka0_16, 156, .inl (fa0_16))), (a0_1, .inl (ka0_1, 900, .inl (fa0_1)))] [(ka0_12, .int), (ka0_16, .int), (ka0_1, .int)] t) A) := by
  refine zh (cc := cX8_begins) (maxL := 3) (ret := (some .boolean)) zn_RX8 rfl (Nat.le_of_ble_eq_true rfl) (fun p e s m below meth c A ls hx hb hml hr hts (hown : s.vm.findClass RX8 = some m.cls) hlocks hA hS hP hK hD hE (hl : lv_has ls 3 [(0, .ref a0), (1, .ref a1), (2, .int a2)]) => ?_)
  have hE0 := hE
  generalize hFX : FfG_X8_begins a2.toInt a0_3.toInt a0_4.toInt a0_5.toInt a0_6.toInt a0_7.toInt a0_8.toInt a0_9.toInt a0_10.toInt (fl_A fa0_12) (fl_A fa0_16) (fl_A fa0_1) (na1 : Int) (fl_A ca1) = FX at ⊢
  have hF0 := hFX.symm.trans (FfG_X8_begins.eq_1 a2.toInt a0_3.toInt a0_4.toInt a0_5.toInt a0_6.toInt a0_7.toInt a0_8.toInt a0_9.toInt a0_10.toInt (fl_A fa0_12) (fl_A fa0_16) (fl_A fa0_1) (na1 : Int) (fl_A ca1))
  refine lv_aload_n hx hb dX8_begins_0 rfl (lv_at hl 0 rfl) ?_
  refine lv_aload_n hx hb dX8_begins_1 rfl (lv_at hl 1 rfl) ?_
  have hKc := hK.sub (tys' := [(ka0_12, .int)]) [0] rfl
  refine va_calli (va_runV (As := [.ref a1]) (rest := []) ⟨hx, hb, hml, hown, hts⟩ (fG_X8_isWord l dC dI s.heap.size a0 a1 a0g_0 (Value.ref a0_1) a0g_2 (Value.int a0_3) (Value.int a0_4) (Value.int a0_5) (Value.int a0_7) (Value.int a0_9) (Value.int a0_10) a0g_11 a0g_14 a0g_15 (Value.ref a0_16) a0g_17 a0g_18 a0g_19 a0g_20 a0g_21 a0g_22 a0g_23 a0g_24 a0g_25 a0g_26 a0g_27 a0g_28 a0g_29 a0g_30 a0g_31 a0g_32 a0g_33 a0g_34 a0g_35 a0g_36 a0g_37 a0g_38 a0g_39 a0_6 a0_8 a0_12 ka0_12 fa0_12 na1 ca1 ba0_8_l ba0_8_u) (cwV 1 hts gX8_begins_X8_isWord rfl rfl rfl zd_X8_isWord ⟨Nat.le_of_ble_eq_true rfl, Nat.le_of_ble_eq_true rfl⟩) ⟨ax_blind (fun _ _ _ _ hq => sxc_W_same _ _ _ _ (hq)), zr_8 hKc (zp_P2 hP) (q0 := 0) rfl, ax_preE (zp_P2 hP) hKc (zp_D2 hD) (fun U hU hW => sxc_W_to hE0 hS.2.1 (zp_F2 hD hS hA) hU hW)⟩ rfl rfl hl.1 rfl (lv_room (Nat.le_of_ble_eq_true rfl)) dX8_begins_2 ⟨Nat.le_of_ble_eq_true rfl, Nat.le_of_ble_eq_true rfl⟩) hS (fun q _ h => zp_F2 hD hS hA q h) (zp_F2 hD hS hA) (fun r2 u t H locs ht hvm hw hB hz1 hk1 hS1 => zo2 hB ht hP hD hk1 (zp_F2 hD hS hA) hS1 (fun hP hK1 hD hS => ?_))
  obtain ⟨hw, hfr2⟩ := hw
  have hc2 : FfG_X8_isWord a0_6.toInt a0_8.toInt (fl_A fa0_12) (na1 : Int) (fl_A ca1) = r2.toInt := hfr2.symm
  have hF0 := hF0.trans (fl_lt_eq hc2.symm)
  have hw : (0 : Int) ≤ r2.toInt ∧ r2.toInt ≤ (1 : Int) := hw
  obtain ⟨h2_0, h2_1⟩ := hw
  refine lv_if_ne (tgt := 10) hx hb dX8_begins_5 (by decide) (fun c5 => ?_) (fun c5 => ?_)
  · have gc5 := ai_ne c5
    have l5t_r2 : (1 : Int) ≤ r2.toInt := (by first | exact zg_l h2_0 gc5 (by decide) (by decide) | (have h1 := h2_0; have h2 : (0 : Int32).toInt = 0 := (by decide); rw [h2] at gc5; omega))
    have hF0 := hF0.trans (if_neg (show ¬ (r2.toInt = 0) from  gc5))
    refine lv_iload_n hx hb dX8_begins_10 rfl (lv_at hl 2 rfl) ?_
    refine lv_if_ne (tgt := 23) hx hb dX8_begins_11 (by decide) (fun c11 => ?_) (fun c11 => ?_)
    · have gc11 := ai_ne c11
      have l11t_a2 : (1 : Int) ≤ a2.toInt := (by first | exact zg_l ba2_l gc11 (by decide) (by decide) | (have h1 := ba2_l; have h2 : (0 : Int32).toInt = 0 := (by decide); rw [h2] at gc11; omega))
      have hF0 := hF0.trans (if_neg (show ¬ (a2.toInt = 0) from  gc11))
      refine lv_aload_n hx hb dX8_begins_23 rfl (lv_at hl 0 rfl) ?_
      refine va_get (D := (dC, dI)) (ci := 8) (v := .ref a0_16) (C := RX8) (T := TX8) (N := 40) hx hb hts zi_X8_begins_8 hown hK hP 0 rfl rfl 16 (by decide) (hts (.fieldLink RX8 23 "WaxTurnsModel" "fresh" "[I") (zm_X8_begins_r1 (List.mem_of_getElem? (i := 1) rfl))) (fun _ h9 => h9) rfl dX8_begins_24 ?_
      refine lv_bipush (v := 11) hx hb dX8_begins_27 zk_bipush_11 ?_
      refine va_iald hx hb hK hP 2 1 rfl rfl (by unfold vp_in; decide +kernel) dX8_begins_29 ?_
      refine lv_topi (fun x29 ex29 => ?_)
      have bx29 : (0 : Int) ≤ x29.toInt ∧ x29.toInt ≤ 1 := by rw [ex29]; exact ai_rd bfa0_16.2.2.2.2.2.2.2.2.1 zq117 zq118 (by decide) (by decide) (by decide)
      have fqx29 := congrArg Int32.toInt ex29
      have hF0 := hF0.trans (fl_lt_eq (show x29.toInt = (fl_A fa0_16) (11) from fqx29))
      refine lv_if_ne (tgt := 43) hx hb dX8_begins_30 (by decide) (fun c30 => ?_) (fun c30 => ?_)
      · have gc30 := ai_ne c30
        have l30t_x29 : (1 : Int) ≤ x29.toInt := (by first | exact zg_l bx29.1 gc30 (by decide) (by decide) | (have h1 := bx29.1; have h2 : (0 : Int32).toInt = 0 := (by decide); rw [h2] at gc30; omega))
        have hF0 := hF0.trans (if_neg (show ¬ (x29.toInt = 0) from  gc30))
        refine lv_aload_n hx hb dX8_begins_43 rfl (lv_at hl 0 rfl) ?_
        refine zc_cutc (wc := [(a0, .inr (8, [a0g_0, Value.ref a0_1, a0g_2, Value.int a0_3, Value.int a0_4, Value.int a0_5, Value.int a0_6, Value.int a0_7, Value.int a0_8, Value.int a0_9, Value.int a0_10, a0g_11, Value.ref a0_12, Value.int 0, a0g_14, a0g_15, Value.ref a0_16, a0g_17, a0g_18, a0g_19, a0g_20, a0g_21, a0g_22, a0g_23, a0g_24, a0g_25, a0g_26, a0g_27, a0g_28, a0g_29, a0g_30, a0g_31, a0g_32, a0g_33, a0g_34, a0g_35, a0g_36, a0g_37, a0g_38, a0g_39])), (a0_1, .inl (ka0_1, 900, .inl (fa0_1))), (a0_12, .inl (ka0_12, 8, .inl (fa0_12)))]) hP hD hS hA [0, 3, 1] (by decide +kernel) rfl (fun hPc hDc hFc hCc => ?_)
        have hKc := hK.sub (tys' := [(ka0_1, .int), (ka0_12, .int)]) [2, 0] rfl
        refine va_callv (va_runV (As := []) (rest := []) ⟨hx, hb, hml, hown, hts⟩ (fG_X8_pass l dC dI H.size a0 a0g_0 a0g_2 (Value.int a0_9) (Value.int a0_10) a0g_11 a0g_14 a0g_15 (Value.ref a0_16) a0g_17 a0g_18 a0g_19 a0g_20 a0g_21 a0g_22 a0g_23 a0g_24 a0g_25 a0g_26 a0g_27 a0g_28 a0g_29 a0g_30 a0g_31 a0g_32 a0g_33 a0g_34 a0g_35 a0g_36 a0g_37 a0g_38 a0g_39 a0_1 a0_3 a0_4 a0_5 a0_6 a0_7 a0_8 a0_12 ka0_1 fa0_1 ka0_12 fa0_12 ba0_3_l ba0_3_u ba0_5_l ba0_5_u ba0_8_l ba0_8_u) (cwV 0 hts gX8_begins_X8_pass rfl rfl rfl zd_X8_pass ⟨Nat.le_of_ble_eq_true rfl, Nat.le_of_ble_eq_true rfl⟩) ⟨ax_blind (fun _ _ _ _ _ => trivial), zr_8 hKc hPc (q0 := 0) rfl, ax_pre hPc hKc hDc (fun _ _ => trivial)⟩ rfl rfl hl.1 rfl (lv_room (Nat.le_of_ble_eq_true rfl)) dX8_begins_44 ⟨Nat.le_of_ble_eq_true rfl, Nat.le_of_ble_eq_true rfl⟩) hS (fun q _ h => hFc q h) hFc (fun u t H locs ht hvm hw => zx_6 (fun v44na0_4 v44na0_5 v44na0_6 v44na0_7 v44na0_8 v44nfa0_12 => zy_5 (fun bv44na0_5 bv44na0_8 hraw44_0 hraw44_1 hraw44_2 hB hz1 hk1 hS1 => zo hB ht hS1 (fun hP1 hK1 hD1 hS => ?_))))
        refine zc_backc (w := [(a0, .inr (8, [a0g_0, Value.ref a0_1, a0g_2, Value.int a0_3, Value.int v44na0_4, Value.int v44na0_5, Value.int v44na0_6, Value.int v44na0_7, Value.int v44na0_8, Value.int a0_9, Value.int a0_10, a0g_11, Value.ref a0_12, Value.int 0, a0g_14, a0g_15, Value.ref a0_16, a0g_17, a0g_18, a0g_19, a0g_20, a0g_21, a0g_22, a0g_23, a0g_24, a0g_25, a0g_26, a0g_27, a0g_28, a0g_29, a0g_30, a0g_31, a0g_32, a0g_33, a0g_34, a0g_35, a0g_36, a0g_37, a0g_38, a0g_39])), (a0_12, .inl (ka0_12, 8, .inl (v44nfa0_12))), (a0_16, .inl (ka0_16, 156, .inl (fa0_16))), (a0_1, .inl (ka0_1, 900, .inl (fa0_1)))]) hP hD hCc hk1 hFc hP1 hD1 [.inr 0, .inr 2, .inl 2, .inr 1] (by decide +kernel) rfl (fun hP hD => ?_)
        have hc44 : FfG_X8_pass a0_3.toInt a0_5.toInt (fl_A fa0_1) (fl_A fa0_12) = (v44na0_4.toInt, v44na0_5.toInt, v44na0_6.toInt, v44na0_7.toInt, v44na0_8.toInt, (fl_A v44nfa0_12)) := hraw44_2
        have hF0 := hF0.trans (fl_c6_eq hc44)
        refine lv_iconst (v := 1) hx hb dX8_begins_47 zk_iconst_1 ?_
        have hFe : FX = (1, v44na0_4.toInt, v44na0_5.toInt, v44na0_6.toInt, v44na0_7.toInt, v44na0_8.toInt, a0_9.toInt, a0_10.toInt, 0, (fl_A v44nfa0_12)) := hF0
        exact W.zret (v := 1) hx hb hr rfl (fun t ht hW => ⟨⟨1, 0, rfl, ⟨(Or.inr (Or.inr ⟨rfl, rfl, l11t_a2, (by have h4 : x29.toInt = (fa0_16 11).toInt := (by rw [ex29]; rfl); omega)⟩)), (congrArg Prod.fst hFe).symm⟩, v44na0_4, v44na0_5, v44na0_6, v44na0_7, v44na0_8, a0_9, a0_10, v44nfa0_12, ⟨bv44na0_5.1, bv44na0_5.2⟩, ⟨bv44na0_8.1, bv44na0_8.2⟩, ⟨zq5, Int.le_trans zq6 (by decide)⟩, hraw44_0, hraw44_1, (congrArg Prod.snd hFe), by rw [ht]; exact hP, va_K.moved hW.alike hK, hD⟩, hS.F ht⟩) hS.2.2 dX8_begins_48
      · have gc30 := ai_eq c30
        have u30f_x29 : x29.toInt ≤ (0 : Int) := Int.le_trans (Int.le_of_eq gc30) zq6
        have l30f_x29 : (0 : Int) ≤ x29.toInt := bx29.1
        have hF0 := hF0.trans (if_pos (show x29.toInt = 0 from gc30))
        refine lv_aload_n hx hb dX8_begins_33 rfl (lv_at hl 0 rfl) ?_
        refine lv_bipush (v := 6) hx hb dX8_begins_34 zk_bipush_6 ?_
        refine lv_aload_n hx hb dX8_begins_36 rfl (lv_at hl 0 rfl) ?_
        refine va_get (D := (dC, dI)) (ci := 8) (v := .int a0_4) (C := RX8) (T := TX8) (N := 40) hx hb hts zi_X8_begins_8 hown hK hP 0 rfl rfl 4 (by decide) (hts (.fieldLink RX8 78 "WaxTurnsModel" "at" "I") (zm_X8_begins_r1 (List.mem_of_getElem? (i := 0) rfl))) (fun _ h9 => h9) rfl dX8_begins_37 ?_
        refine va_callv (va_runV (As := [.int 6, .int a0_4]) (rest := []) ⟨hx, hb, hml, hown, hts⟩ (fG_X8_wrong l dC dI H.size a0 6 a0_4 a0g_0 (Value.ref a0_1) a0g_2 (Value.int a0_3) (Value.int a0_4) (Value.int a0_5) (Value.int a0_6) (Value.int a0_7) (Value.int a0_8) a0g_11 (Value.ref a0_12) a0g_14 a0g_15 (Value.ref a0_16) a0g_17 a0g_18 a0g_19 a0g_20 a0g_21 a0g_22 a0g_23 a0g_24 a0g_25 a0g_26 a0g_27 a0g_28 a0g_29 a0g_30 a0g_31 a0g_32 a0g_33 a0g_34 a0g_35 a0g_36 a0g_37 a0g_38 a0g_39 a0_9 a0_10 ) (cwV 2 hts gX8_begins_X8_wrong rfl rfl rfl zd_X8_wrong ⟨Nat.le_of_ble_eq_true rfl, Nat.le_of_ble_eq_true rfl⟩) ⟨ax_blind (fun _ _ _ _ _ => trivial), zr_8 (zp_K hK) (zp_P1 hP) (q0 := 0) rfl, ax_pre (zp_P1 hP) (zp_K hK) (zp_D1 hD) (fun _ _ => trivial)⟩ rfl rfl hl.1 rfl (lv_room (Nat.le_of_ble_eq_true rfl)) dX8_begins_40 ⟨Nat.le_of_ble_eq_true rfl, Nat.le_of_ble_eq_true rfl⟩) hS (fun q _ h => zp_F1 hD hS hA q h) (zp_F1 hD hS hA) (fun u t H locs ht hvm hw => zx_2 (fun v40na0_9 v40na0_10 => zy_1 (fun hraw40_0 hB hz1 hk1 hS1 => zo1 hB ht hP hD hk1 (zp_F1 hD hS hA) hS1 (fun hP hK1 hD hS => ?_))))
        rw [show (6 : Int32).toInt = 6 from by decide] at hraw40_0
        have hc40 : FfG_X8_wrong 6 a0_4.toInt = (v40na0_9.toInt, v40na0_10.toInt) := hraw40_0
        have hF0 := hF0.trans (fl_c2_eq hc40)
        refine lv_aload_n hx hb dX8_begins_43 rfl (lv_at hl 0 rfl) ?_
        refine va_callv (va_runV (As := []) (rest := []) ⟨hx, hb, hml, hown, hts⟩ (fF_X8_pass l dC dI H.size a0 a0g_0 (Value.ref a0_1) a0g_2 (Value.int a0_3) (Value.int a0_4) (Value.int a0_5) (Value.int a0_6) (Value.int a0_7) (Value.int a0_8) (Value.int v40na0_9) (Value.int v40na0_10) a0g_11 (Value.ref a0_12) a0g_14 a0g_15 (Value.ref a0_16) a0g_17 a0g_18 a0g_19 a0g_20 a0g_21 a0g_22 a0g_23 a0g_24 a0g_25 a0g_26 a0g_27 a0g_28 a0g_29 a0g_30 a0g_31 a0g_32 a0g_33 a0g_34 a0g_35 a0g_36 a0g_37 a0g_38 a0g_39 ) (cwV 0 hts gX8_begins_X8_pass rfl rfl rfl zd_X8_pass ⟨Nat.le_of_ble_eq_true rfl, Nat.le_of_ble_eq_true rfl⟩) ⟨ax_blind (fun _ _ _ _ _ => trivial), zr_8 (zp_K hK) (zp_P1 hP) (q0 := 0) rfl, ax_pre (zp_P1 hP) (zp_K hK) (zp_D1 hD) (fun _ _ => trivial)⟩ rfl rfl hl.1 rfl (lv_room (Nat.le_of_ble_eq_true rfl)) dX8_begins_44 ⟨Nat.le_of_ble_eq_true rfl, Nat.le_of_ble_eq_true rfl⟩) hS (fun q _ h => zp_F1 hD hS hA q h) (zp_F1 hD hS hA) (fun u t H locs ht hvm hw hB hz1 hk1 hS1 => zo1 hB ht hP hD hk1 (zp_F1 hD hS hA) hS1 (fun hP hK1 hD hS => ?_))
        refine lv_iconst (v := 1) hx hb dX8_begins_47 zk_iconst_1 ?_
        have hFe : FX = (1, a0_4.toInt, a0_5.toInt, a0_6.toInt, a0_7.toInt, a0_8.toInt, v40na0_9.toInt, v40na0_10.toInt, 1, (fl_A fa0_12)) := hF0
        exact W.zret (v := 1) hx hb hr rfl (fun t ht hW => ⟨⟨1, 1, rfl, ⟨(Or.inr (Or.inl ⟨rfl, rfl⟩)), (congrArg Prod.fst hFe).symm⟩, a0_4, a0_5, a0_6, a0_7, a0_8, v40na0_9, v40na0_10, fa0_12, ⟨ba0_5_l, ba0_5_u⟩, ⟨ba0_8_l, ba0_8_u⟩, ⟨Int.le_trans (by decide) zq1, zq0⟩, hR1, (em_r _ _), (congrArg Prod.snd hFe), by rw [ht]; exact hP, va_K.moved hW.alike hK, hD⟩, hS.F ht⟩) hS.2.2 dX8_begins_48
    · have gc11 := ai_eq c11
      have u11f_a2 : a2.toInt ≤ (0 : Int) := Int.le_trans (Int.le_of_eq gc11) zq6
      have l11f_a2 : (0 : Int) ≤ a2.toInt := ba2_l
      have hF0 := hF0.trans (if_pos (show a2.toInt = 0 from gc11))
      refine lv_aload_n hx hb dX8_begins_14 rfl (lv_at hl 0 rfl) ?_
      refine lv_iconst (v := 5) hx hb dX8_begins_15 zk_iconst_5 ?_
      refine lv_aload_n hx hb dX8_begins_16 rfl (lv_at hl 0 rfl) ?_
      refine va_get (D := (dC, dI)) (ci := 8) (v := .int a0_4) (C := RX8) (T := TX8) (N := 40) hx hb hts zi_X8_begins_8 hown hK hP 0 rfl rfl 4 (by decide) (hts (.fieldLink RX8 78 "WaxTurnsModel" "at" "I") (zm_X8_begins_r1 (List.mem_of_getElem? (i := 0) rfl))) (fun _ h9 => h9) rfl dX8_begins_17 ?_
      refine va_callv (va_runV (As := [.int 5, .int a0_4]) (rest := []) ⟨hx, hb, hml, hown, hts⟩ (fG_X8_wrong l dC dI H.size a0 5 a0_4 a0g_0 (Value.ref a0_1) a0g_2 (Value.int a0_3) (Value.int a0_4) (Value.int a0_5) (Value.int a0_6) (Value.int a0_7) (Value.int a0_8) a0g_11 (Value.ref a0_12) a0g_14 a0g_15 (Value.ref a0_16) a0g_17 a0g_18 a0g_19 a0g_20 a0g_21 a0g_22 a0g_23 a0g_24 a0g_25 a0g_26 a0g_27 a0g_28 a0g_29 a0g_30 a0g_31 a0g_32 a0g_33 a0g_34 a0g_35 a0g_36 a0g_37 a0g_38 a0g_39 a0_9 a0_10 ) (cwV 2 hts gX8_begins_X8_wrong rfl rfl rfl zd_X8_wrong ⟨Nat.le_of_ble_eq_true rfl, Nat.le_of_ble_eq_true rfl⟩) ⟨ax_blind (fun _ _ _ _ _ => trivial), zr_8 (zp_K hK) (zp_P1 hP) (q0 := 0) rfl, ax_pre (zp_P1 hP) (zp_K hK) (zp_D1 hD) (fun _ _ => trivial)⟩ rfl rfl hl.1 rfl (lv_room (Nat.le_of_ble_eq_true rfl)) dX8_begins_20 ⟨Nat.le_of_ble_eq_true rfl, Nat.le_of_ble_eq_true rfl⟩) hS (fun q _ h => zp_F1 hD hS hA q h) (zp_F1 hD hS hA) (fun u t H locs ht hvm hw => zx_2 (fun v20na0_9 v20na0_10 => zy_1 (fun hraw20_0 hB hz1 hk1 hS1 => zo1 hB ht hP hD hk1 (zp_F1 hD hS hA) hS1 (fun hP hK1 hD hS => ?_))))
      rw [show (5 : Int32).toInt = 5 from by decide] at hraw20_0
      have hc20 : FfG_X8_wrong 5 a0_4.toInt = (v20na0_9.toInt, v20na0_10.toInt) := hraw20_0
      have hF0 := hF0.trans (fl_c2_eq hc20)
      refine lv_aload_n hx hb dX8_begins_23 rfl (lv_at hl 0 rfl) ?_
      refine va_get (D := (dC, dI)) (ci := 8) (v := .ref a0_16) (C := RX8) (T := TX8) (N := 40) hx hb hts zi_X8_begins_8 hown hK hP 0 rfl rfl 16 (by decide) (hts (.fieldLink RX8 23 "WaxTurnsModel" "fresh" "[I") (zm_X8_begins_r1 (List.mem_of_getElem? (i := 1) rfl))) (fun _ h9 => h9) rfl dX8_begins_24 ?_
      refine lv_bipush (v := 11) hx hb dX8_begins_27 zk_bipush_11 ?_
      refine va_iald hx hb hK hP 2 1 rfl rfl (by unfold vp_in; decide +kernel) dX8_begins_29 ?_
      refine lv_topi (fun x29 ex29 => ?_)
      have bx29 : (0 : Int) ≤ x29.toInt ∧ x29.toInt ≤ 1 := by rw [ex29]; exact ai_rd bfa0_16.2.2.2.2.2.2.2.2.1 zq117 zq118 (by decide) (by decide) (by decide)
      have fqx29 := congrArg Int32.toInt ex29
      have hF0 := hF0.trans (fl_lt_eq (show x29.toInt = (fl_A fa0_16) (11) from fqx29))
      refine lv_if_ne (tgt := 43) hx hb dX8_begins_30 (by decide) (fun c30 => ?_) (fun c30 => ?_)
      · have gc30 := ai_ne c30
        have l30t_x29 : (1 : Int) ≤ x29.toInt := (by first | exact zg_l bx29.1 gc30 (by decide) (by decide) | (have h1 := bx29.1; have h2 : (0 : Int32).toInt = 0 := (by decide); rw [h2] at gc30; omega))
        have hF0 := hF0.trans (if_neg (show ¬ (x29.toInt = 0) from  gc30))
        refine lv_aload_n hx hb dX8_begins_43 rfl (lv_at hl 0 rfl) ?_
        refine va_callv (va_runV (As := []) (rest := []) ⟨hx, hb, hml, hown, hts⟩ (fF_X8_pass l dC dI H.size a0 a0g_0 (Value.ref a0_1) a0g_2 (Value.int a0_3) (Value.int a0_4) (Value.int a0_5) (Value.int a0_6) (Value.int a0_7) (Value.int a0_8) (Value.int v20na0_9) (Value.int v20na0_10) a0g_11 (Value.ref a0_12) a0g_14 a0g_15 (Value.ref a0_16) a0g_17 a0g_18 a0g_19 a0g_20 a0g_21 a0g_22 a0g_23 a0g_24 a0g_25 a0g_26 a0g_27 a0g_28 a0g_29 a0g_30 a0g_31 a0g_32 a0g_33 a0g_34 a0g_35 a0g_36 a0g_37 a0g_38 a0g_39 ) (cwV 0 hts gX8_begins_X8_pass rfl rfl rfl zd_X8_pass ⟨Nat.le_of_ble_eq_true rfl, Nat.le_of_ble_eq_true rfl⟩) ⟨ax_blind (fun _ _ _ _ _ => trivial), zr_8 (zp_K hK) (zp_P1 hP) (q0 := 0) rfl, ax_pre (zp_P1 hP) (zp_K hK) (zp_D1 hD) (fun _ _ => trivial)⟩ rfl rfl hl.1 rfl (lv_room (Nat.le_of_ble_eq_true rfl)) dX8_begins_44 ⟨Nat.le_of_ble_eq_true rfl, Nat.le_of_ble_eq_true rfl⟩) hS (fun q _ h => zp_F1 hD hS hA q h) (zp_F1 hD hS hA) (fun u t H locs ht hvm hw hB hz1 hk1 hS1 => zo1 hB ht hP hD hk1 (zp_F1 hD hS hA) hS1 (fun hP hK1 hD hS => ?_))
        refine lv_iconst (v := 1) hx hb dX8_begins_47 zk_iconst_1 ?_
        have hFe : FX = (1, a0_4.toInt, a0_5.toInt, a0_6.toInt, a0_7.toInt, a0_8.toInt, v20na0_9.toInt, v20na0_10.toInt, 1, (fl_A fa0_12)) := hF0
        exact W.zret (v := 1) hx hb hr rfl (fun t ht hW => ⟨⟨1, 1, rfl, ⟨(Or.inr (Or.inl ⟨rfl, rfl⟩)), (congrArg Prod.fst hFe).symm⟩, a0_4, a0_5, a0_6, a0_7, a0_8, v20na0_9, v20na0_10, fa0_12, ⟨ba0_5_l, ba0_5_u⟩, ⟨ba0_8_l, ba0_8_u⟩, ⟨Int.le_trans (by decide) zq1, zq0⟩, hR1, (em_r _ _), (congrArg Prod.snd hFe), by rw [ht]; exact hP, va_K.moved hW.alike hK, hD⟩, hS.F ht⟩) hS.2.2 dX8_begins_48
      · have gc30 := ai_eq c30
        have u30f_x29 : x29.toInt ≤ (0 : Int) := Int.le_trans (Int.le_of_eq gc30) zq6
        have l30f_x29 : (0 : Int) ≤ x29.toInt := bx29.1
        have hF0 := hF0.trans (if_pos (show x29.toInt = 0 from gc30))
        refine lv_aload_n hx hb dX8_begins_33 rfl (lv_at hl 0 rfl) ?_
        refine lv_bipush (v := 6) hx hb dX8_begins_34 zk_bipush_6 ?_
        refine lv_aload_n hx hb dX8_begins_36 rfl (lv_at hl 0 rfl) ?_
        refine va_get (D := (dC, dI)) (ci := 8) (v := .int a0_4) (C := RX8) (T := TX8) (N := 40) hx hb hts zi_X8_begins_8 hown hK hP 0 rfl rfl 4 (by decide) (hts (.fieldLink RX8 78 "WaxTurnsModel" "at" "I") (zm_X8_begins_r1 (List.mem_of_getElem? (i := 0) rfl))) (fun _ h9 => h9) rfl dX8_begins_37 ?_
        refine va_callv (va_runV (As := [.int 6, .int a0_4]) (rest := []) ⟨hx, hb, hml, hown, hts⟩ (fF_X8_wrong l dC dI H.size a0 6 a0_4 a0g_0 (Value.ref a0_1) a0g_2 (Value.int a0_3) (Value.int a0_4) (Value.int a0_5) (Value.int a0_6) (Value.int a0_7) (Value.int a0_8) (Value.int v20na0_9) (Value.int v20na0_10) a0g_11 (Value.ref a0_12) a0g_14 a0g_15 (Value.ref a0_16) a0g_17 a0g_18 a0g_19 a0g_20 a0g_21 a0g_22 a0g_23 a0g_24 a0g_25 a0g_26 a0g_27 a0g_28 a0g_29 a0g_30 a0g_31 a0g_32 a0g_33 a0g_34 a0g_35 a0g_36 a0g_37 a0g_38 a0g_39 ) (cwV 2 hts gX8_begins_X8_wrong rfl rfl rfl zd_X8_wrong ⟨Nat.le_of_ble_eq_true rfl, Nat.le_of_ble_eq_true rfl⟩) ⟨ax_blind (fun _ _ _ _ _ => trivial), zr_8 (zp_K hK) (zp_P1 hP) (q0 := 0) rfl, ax_pre (zp_P1 hP) (zp_K hK) (zp_D1 hD) (fun _ _ => trivial)⟩ rfl rfl hl.1 rfl (lv_room (Nat.le_of_ble_eq_true rfl)) dX8_begins_40 ⟨Nat.le_of_ble_eq_true rfl, Nat.le_of_ble_eq_true rfl⟩) hS (fun q _ h => zp_F1 hD hS hA q h) (zp_F1 hD hS hA) (fun u t H locs ht hvm hw hB hz1 hk1 hS1 => zo1 hB ht hP hD hk1 (zp_F1 hD hS hA) hS1 (fun hP hK1 hD hS => ?_))
        refine lv_aload_n hx hb dX8_begins_43 rfl (lv_at hl 0 rfl) ?_
        refine va_callv (va_runV (As := []) (rest := []) ⟨hx, hb, hml, hown, hts⟩ (fF_X8_pass l dC dI H.size a0 a0g_0 (Value.ref a0_1) a0g_2 (Value.int a0_3) (Value.int a0_4) (Value.int a0_5) (Value.int a0_6) (Value.int a0_7) (Value.int a0_8) (Value.int v20na0_9) (Value.int v20na0_10) a0g_11 (Value.ref a0_12) a0g_14 a0g_15 (Value.ref a0_16) a0g_17 a0g_18 a0g_19 a0g_20 a0g_21 a0g_22 a0g_23 a0g_24 a0g_25 a0g_26 a0g_27 a0g_28 a0g_29 a0g_30 a0g_31 a0g_32 a0g_33 a0g_34 a0g_35 a0g_36 a0g_37 a0g_38 a0g_39 ) (cwV 0 hts gX8_begins_X8_pass rfl rfl rfl zd_X8_pass ⟨Nat.le_of_ble_eq_true rfl, Nat.le_of_ble_eq_true rfl⟩) ⟨ax_blind (fun _ _ _ _ _ => trivial), zr_8 (zp_K hK) (zp_P1 hP) (q0 := 0) rfl, ax_pre (zp_P1 hP) (zp_K hK) (zp_D1 hD) (fun _ _ => trivial)⟩ rfl rfl hl.1 rfl (lv_room (Nat.le_of_ble_eq_true rfl)) dX8_begins_44 ⟨Nat.le_of_ble_eq_true rfl, Nat.le_of_ble_eq_true rfl⟩) hS (fun q _ h => zp_F1 hD hS hA q h) (zp_F1 hD hS hA) (fun u t H locs ht hvm hw hB hz1 hk1 hS1 => zo1 hB ht hP hD hk1 (zp_F1 hD hS hA) hS1 (fun hP hK1 hD hS => ?_))
        refine lv_iconst (v := 1) hx hb dX8_begins_47 zk_iconst_1 ?_
        have hFe : FX = (1, a0_4.toInt, a0_5.toInt, a0_6.toInt, a0_7.toInt, a0_8.toInt, v20na0_9.toInt, v20na0_10.toInt, 1, (fl_A fa0_12)) := hF0
        exact W.zret (v := 1) hx hb hr rfl (fun t ht hW => ⟨⟨1, 1, rfl, ⟨(Or.inr (Or.inl ⟨rfl, rfl⟩)), (congrArg Prod.fst hFe).symm⟩, a0_4, a0_5, a0_6, a0_7, a0_8, v20na0_9, v20na0_10, fa0_12, ⟨ba0_5_l, ba0_5_u⟩, ⟨ba0_8_l, ba0_8_u⟩, ⟨Int.le_trans (by decide) zq1, zq0⟩, hR1, (em_r _ _), (congrArg Prod.snd hFe), by rw [ht]; exact hP, va_K.moved hW.alike hK, hD⟩, hS.F ht⟩) hS.2.2 dX8_begins_48
  · have gc5 := ai_eq c5
    have u5f_r2 : r2.toInt ≤ (0 : Int) := Int.le_trans (Int.le_of_eq gc5) zq6
    have l5f_r2 : (0 : Int) ≤ r2.toInt := h2_0
    have hF0 := hF0.trans (if_pos (show r2.toInt = 0 from gc5))
    refine lv_iconst (v := 0) hx hb dX8_begins_8 zk_iconst_0 ?_
    have hFe : FX = (0, a0_4.toInt, a0_5.toInt, a0_6.toInt, a0_7.toInt, a0_8.toInt, a0_9.toInt, a0_10.toInt, 0, (fl_A fa0_12)) := hF0
    exact W.zret (v := 0) hx hb hr rfl (fun t ht hW => ⟨⟨0, 0, rfl, ⟨(Or.inl ⟨rfl, rfl⟩), (congrArg Prod.fst hFe).symm⟩, a0_4, a0_5, a0_6, a0_7, a0_8, a0_9, a0_10, fa0_12, ⟨ba0_5_l, ba0_5_u⟩, ⟨ba0_8_l, ba0_8_u⟩, ⟨zq5, Int.le_trans zq6 (by decide)⟩, hR1, (em_r _ _), (congrArg Prod.snd hFe), by rw [ht]; exact hP, va_K.moved hW.alike hK, hD⟩, hS.F ht⟩) hS.2.2 dX8_begins_9
end P312_03_f
