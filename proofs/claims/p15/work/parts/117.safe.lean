section P117_safe
set_option maxHeartbeats 4000000 in
set_option maxRecDepth 100000 in
theorem c_X7_guard (l : Launch) (dC : Nat → ClassId) (dI : Nat → Nat → Nat) (sz : Nat) (a0 : Nat) (a1 : Int32) (a0g_0 a0g_4 a0g_5 a0g_6 a0g_9 a0g_10 : Value) (a0_1 : Nat) (a0_2 : Nat) (a0_3 : Nat) (a0_7 : Nat) (a0_8 : Int32) (a0_7_0 : Int32) (a0_7_1 : Int32) (a0_7_2 : Int32) (a0_7g_3 a0_7g_4 a0_7g_7 a0_7g_8 a0_7g_9 a0_7g_12 a0_7g_13 : Value) (a0_7_5 : Int32) (a0_7_6 : Int32) (a0_7_10 : Nat) (a0_7_11 : Nat) (a0_7_14 : Nat) (a0_3_0 : Int32) (a0_3_1 : Int32) (a0_3_2 : Nat) (a0_3_3 : Nat) (a0_7_14_0 : Int32) (a0_7_14_1 : Int32) (a0_7_14_2 : Nat) (a0_7_14_3 : Nat) (ka0_7_14_2 : ClassId) (fa0_7_14_2 : Nat → Int32) (ka0_3_2 : ClassId) (fa0_3_2 : Nat → Int32) (ka0_7_14_3 : ClassId) (fa0_7_14_3 : Nat → Int32) (ka0_3_3 : ClassId) (fa0_3_3 : Nat → Int32) (a0_2_0 : Int32) (a0_2_1 : Int32) (a0_2_2 : Int32) (a0_2_3 : Int32) (a0_2_4 : Int32) (a0_2_5 : Nat) (a0_2_6 : Nat) (a0_1_0 : Int32) (a0_1_1 : Int32) (a0_1_2 : Int32) (a0_1_3 : Int32) (a0_1_4 : Int32) (a0_1_5 : Nat) (a0_1_6 : Nat) (ka0_1_5 : ClassId) (fa0_1_5 : Nat → Int32) (ka0_2_5 : ClassId) (fa0_2_5 : Nat → Int32) (ka0_1_6 : ClassId) (fa0_1_6 : Nat → Int32) (ka0_2_6 : ClassId) (fa0_2_6 : Nat → Int32) (ka0_7_10 : ClassId) (fa0_7_10 : Nat → Int32) (ka0_7_11 : ClassId) (fa0_7_11 : Nat → Int32) (ba0_7_0_l : (0 : Int) ≤ a0_7_0.toInt) (ba0_7_0_u : a0_7_0.toInt ≤ (9 : Int)) (ba0_7_5_l : (0 : Int) ≤ a0_7_5.toInt) (ba0_7_5_u : a0_7_5.toInt ≤ (8 : Int)) (ba0_7_6_l : (0 : Int) ≤ a0_7_6.toInt) (ba0_7_6_u : a0_7_6.toInt ≤ (8 : Int)) (ba0_3_0_l : (0 : Int) ≤ a0_3_0.toInt) (ba0_3_0_u : a0_3_0.toInt ≤ (3 : Int)) (ba0_7_14_0_l : (0 : Int) ≤ a0_7_14_0.toInt) (ba0_7_14_0_u : a0_7_14_0.toInt ≤ (3 : Int)) (ba0_2_1_l : (0 : Int) ≤ a0_2_1.toInt) (ba0_2_1_u : a0_2_1.toInt ≤ (8 : Int)) (ba0_1_1_l : (0 : Int) ≤ a0_1_1.toInt) (ba0_1_1_u : a0_1_1.toInt ≤ (8 : Int)) (bfa0_7_14_2 : (∀ k, (0 : Int) ≤ (fa0_7_14_2 k).toInt ∧ (fa0_7_14_2 k).toInt ≤ 80)) (bfa0_3_2 : (∀ k, (0 : Int) ≤ (fa0_3_2 k).toInt ∧ (fa0_3_2 k).toInt ≤ 80)) (bfa0_7_14_3 : (∀ k, (0 : Int) ≤ (fa0_7_14_3 k).toInt ∧ (fa0_7_14_3 k).toInt ≤ 80)) (bfa0_3_3 : (∀ k, (0 : Int) ≤ (fa0_3_3 k).toInt ∧ (fa0_3_3 k).toInt ≤ 80)) : zm l yX7_guard wsX7_guard ({ frames := 6, cells := 0, slots := 0, locals := 144 }) [.ref a0, .int a1] dC dI sz [(a0, .inr (7, [a0g_0, .ref a0_1, .ref a0_2, .ref a0_3, a0g_4, a0g_5, a0g_6, .ref a0_7, .int a0_8, a0g_9, a0g_10])), (a0_7, .inr (0, [.int a0_7_0, .int a0_7_1, .int a0_7_2, a0_7g_3, a0_7g_4, .int a0_7_5, .int a0_7_6, a0_7g_7, a0_7g_8, a0_7g_9, .ref a0_7_10, .ref a0_7_11, a0_7g_12, a0_7g_13, .ref a0_7_14])), (a0_3, .inr (6, [.int a0_3_0, .int a0_3_1, .ref a0_3_2, .ref a0_3_3])), (a0_7_14, .inr (6, [.int a0_7_14_0, .int a0_7_14_1, .ref a0_7_14_2, .ref a0_7_14_3])), (a0_7_14_2, .inl (ka0_7_14_2, 3, .inl (fa0_7_14_2))), (a0_3_2, .inl (ka0_3_2, 3, .inl (fa0_3_2))), (a0_7_14_3, .inl (ka0_7_14_3, 3, .inl (fa0_7_14_3))), (a0_3_3, .inl (ka0_3_3, 3, .inl (fa0_3_3))), (a0_2, .inr (5, [.int a0_2_0, .int a0_2_1, .int a0_2_2, .int a0_2_3, .int a0_2_4, .ref a0_2_5, .ref a0_2_6])), (a0_1, .inr (5, [.int a0_1_0, .int a0_1_1, .int a0_1_2, .int a0_1_3, .int a0_1_4, .ref a0_1_5, .ref a0_1_6])), (a0_1_5, .inl (ka0_1_5, 9, .inl (fa0_1_5))), (a0_2_5, .inl (ka0_2_5, 9, .inl (fa0_2_5))), (a0_1_6, .inl (ka0_1_6, 9, .inl (fa0_1_6))), (a0_2_6, .inl (ka0_2_6, 9, .inl (fa0_2_6))), (a0_7_10, .inl (ka0_7_10, 9, .inl (fa0_7_10))), (a0_7_11, .inl (ka0_7_11, 9, .inl (fa0_7_11)))] [(ka0_7_14_2, .int), (ka0_3_2, .int), (ka0_7_14_3, .int), (ka0_3_3, .int), (ka0_1_5, .int), (ka0_2_5, .int), (ka0_1_6, .int), (ka0_2_6, .int), (ka0_7_10, .int), (ka0_7_11, .int)] (fun A U => va_Nw (.methodLinkNest RX0 118 yX7_within RX7) U ∧ va_Nw (.methodLinkNest RX5 38 yX7_hasBit RX7) U ∧ va_Nw (.methodLinkNest RX0 129 yX7_hasBit RX7) U) (fun A => va_Qi (fun (r : Int32) (_ : Unit) => True) (fun (_ : Unit) (t : State) => ∃ na0_8 : Int32, ∃ na0_3_0 : Int32, ∃ na0_3_1 : Int32, ∃ nfa0_3_2 : Nat → Int32, ∃ nfa0_3_3 : Nat → Int32, ∃ na0_2_0 : Int32, ∃ na0_2_1 : Int32, ∃ na0_2_2 : Int32, ∃ na0_2_3 : Int32, ∃ na0_2_4 : Int32, ∃ nfa0_2_5 : Nat → Int32, ∃ nfa0_2_6 : Nat → Int32, ((0 : Int) ≤ na0_3_0.toInt ∧ na0_3_0.toInt ≤ 3) ∧ ((0 : Int) ≤ na0_2_1.toInt ∧ na0_2_1.toInt ≤ 8) ∧ (∀ k, (0 : Int) ≤ (nfa0_3_2 k).toInt ∧ (nfa0_3_2 k).toInt ≤ 80) ∧ (∀ k, (0 : Int) ≤ (nfa0_3_3 k).toInt ∧ (nfa0_3_3 k).toInt ≤ 80) ∧ ax_B dC dI A [(a0, .inr (7, [a0g_0, .ref a0_1, .ref a0_2, .ref a0_3, a0g_4, a0g_5, a0g_6, .ref a0_7, .int na0_8, a0g_9, a0g_10])), (a0_7, .inr (0, [.int a0_7_0, .int a0_7_1, .int a0_7_2, a0_7g_3, a0_7g_4, .int a0_7_5, .int a0_7_6, a0_7g_7, a0_7g_8, a0_7g_9, .ref a0_7_10, .ref a0_7_11, a0_7g_12, a0_7g_13, .ref a0_7_14])), (a0_3, .inr (6, [.int na0_3_0, .int na0_3_1, .ref a0_3_2, .ref a0_3_3])), (a0_7_14, .inr (6, [.int a0_7_14_0, .int a0_7_14_1, .ref a0_7_14_2, .ref a0_7_14_3])), (a0_7_14_2, .inl (ka0_7_14_2, 3, .inl (fa0_7_14_2))), (a0_3_2, .inl (ka0_3_2, 3, .inl (nfa0_3_2))), (a0_7_14_3, .inl (ka0_7_14_3, 3, .inl (fa0_7_14_3))), (a0_3_3, .inl (ka0_3_3, 3, .inl (nfa0_3_3))), (a0_2, .inr (5, [.int na0_2_0, .int na0_2_1, .int na0_2_2, .int na0_2_3, .int na0_2_4, .ref a0_2_5, .ref a0_2_6])), (a0_1, .inr (5, [.int a0_1_0, .int a0_1_1, .int a0_1_2, .int a0_1_3, .int a0_1_4, .ref a0_1_5, .ref a0_1_6])), (a0_1_5, .inl (ka0_1_5, 9, .inl (fa0_1_5))), (a0_2_5, .inl (ka0_2_5, 9, .inl (nfa0_2_5))), (a0_1_6, .inl (ka0_1_6, 9, .inl (fa0_1_6))), (a0_2_6, .inl (ka0_2_6, 9, .inl (nfa0_2_6))), (a0_7_10, .inl (ka0_7_10, 9, .inl (fa0_7_10))), (a0_7_11, .inl (ka0_7_11, 9, .inl (fa0_7_11)))] [(ka0_7_14_2, .int), (ka0_3_2, .int), (ka0_7_14_3, .int), (ka0_3_3, .int), (ka0_1_5, .int), (ka0_2_5, .int), (ka0_1_6, .int), (ka0_2_6, .int), (ka0_7_10, .int), (ka0_7_11, .int)] t) A) := by
  refine zh (cc := cX7_guard) (maxL := 4) (ret := (some .int)) zn_RX7 rfl (Nat.le_of_ble_eq_true rfl) (fun p e s m below meth c A ls hx hb hml hr hts (hown : s.vm.findClass RX7 = some m.cls) hlocks hA hS hP hK hD hE (hl : lv_has ls 4 [(0, .ref a0), (1, .int a1)]) => ?_)
  obtain ⟨hE0, hE1, hE2⟩ := hE
  refine ai_open (fun K hK0 => ?_)
  refine (hK0 _ _ _).mpr ?_
  refine lv_aload_n hx hb dX7_guard_0 rfl (lv_at hl 0 rfl) ?_
  refine lv_iload_n hx hb dX7_guard_1 rfl (lv_at hl 1 rfl) ?_
  refine lv_iconst (v := 1) hx hb dX7_guard_2 zk_iconst_1 ?_
  refine lv_bipush (v := 60) hx hb dX7_guard_3 zk_bipush_60 ?_
  refine va_calli (va_runV (As := [.int a1, .int 1, .int 60]) (rest := []) ⟨hx, hb, hml, hown, hts⟩ (c_X7_troubleOfNumber l dC dI s.heap.size a0 a1 1 60 a0g_0 (.ref a0_1) (.ref a0_2) (.ref a0_3) a0g_4 a0g_5 a0g_6 (.int a0_8) a0g_9 a0g_10 a0_7 a0_7_0 (.int a0_7_1) (.int a0_7_2) a0_7g_3 a0_7g_4 (.int a0_7_5) (.int a0_7_6) a0_7g_7 a0_7g_8 a0_7g_9 (.ref a0_7_10) (.ref a0_7_11) a0_7g_12 a0_7g_13 (.ref a0_7_14) ba0_7_0_l ba0_7_0_u) (cwV 3 hts gX7_guard_X7_troubleOfNumber rfl rfl rfl zd_X7_troubleOfNumber ⟨Nat.le_of_ble_eq_true rfl, Nat.le_of_ble_eq_true rfl⟩) ⟨ax_blind (fun _ _ _ _ _ => trivial), zr_7 (zp_K hK) (zp_P2 hP) (q0 := 0) rfl, ax_pre (zp_P2 hP) (zp_K hK) (zp_D2 hD) (fun _ _ => trivial)⟩ rfl rfl hl.1 rfl (lv_room (Nat.le_of_ble_eq_true rfl)) dX7_guard_5 ⟨Nat.le_of_ble_eq_true rfl, Nat.le_of_ble_eq_true rfl⟩) hS (fun q _ h => zp_F2 hD hS hA q h) (zp_F2 hD hS hA) (fun r5 u t H locs ht hvm hw hB hz1 hk1 hS1 => zo2 hB ht hP hD hk1 (zp_F2 hD hS hA) hS1 (fun hP hK1 hD hS => ?_))
  rcases hw with hw | hw | hw
  · obtain ⟨hw, fh5, h5⟩ := hw
    subst hw
    have l5k0_a0_7_0 : (1 : Int) ≤ a0_7_0.toInt := fh5
    have l5k0_a1 : (1 : Int) ≤ a1.toInt := Int.le_trans zq1 h5.1
    have u5k0_a1 : a1.toInt ≤ (60 : Int) := Int.le_trans h5.2 zq46
    refine lv_istore_n (lv' := [(2, .int 0), (0, .ref a0), (1, .int a1)]) hx hb dX7_guard_8 rfl hl (by decide) rfl (fun ls hl => ?_)
    refine lv_iload_n hx hb dX7_guard_9 rfl (lv_at hl 0 rfl) ?_
    refine lv_if_eq (tgt := 19) hx hb dX7_guard_10 (by decide) (fun _ => ?_) (fun c10 => absurd (by decide +kernel) c10)
    refine lv_aload_n hx hb dX7_guard_19 rfl (lv_at hl 1 rfl) ?_
    refine va_get (D := (dC, dI)) (ci := 7) (v := .ref a0_3) (C := RX7) (T := TX7) (N := 11) hx hb hts zi_X7_guard_7 hown hK hP 0 rfl rfl 3 (by decide) (hts (.fieldLink RX7 29 "WaxTurns" "trial" "LWaxTurns$Watchers;") (zm_X7_guard_r1 (List.mem_of_getElem? (i := 0) rfl))) (fun _ h9 => h9) rfl dX7_guard_20 ?_
    refine lv_aload_n hx hb dX7_guard_23 rfl (lv_at hl 1 rfl) ?_
    refine va_get (D := (dC, dI)) (ci := 7) (v := .ref a0_7) (C := RX7) (T := TX7) (N := 11) hx hb hts zi_X7_guard_7 hown hK hP 0 rfl rfl 7 (by decide) (hts (.fieldLink RX7 57 "WaxTurns" "hall" "LWaxTurns$Hall;") (zm_X7_guard_r1 (List.mem_of_getElem? (i := 1) rfl))) (fun _ h9 => h9) rfl dX7_guard_24 ?_
    refine va_get (D := (dC, dI)) (ci := 0) (v := .ref a0_7_14) (C := RX0) (T := TX0) (N := 15) hx hb hts zi_X7_guard_0 hown hK hP 1 rfl rfl 14 (by decide) (hts (.fieldLink RX7 138 "WaxTurns$Hall" "watchers" "LWaxTurns$Watchers;") (zm_X7_guard_r1 (List.mem_of_getElem? (i := 2) rfl))) (fun _ h9 => h9) rfl dX7_guard_27 ?_
    refine zc_cutc (wc := [(a0_3, .inr (6, [.int a0_3_0, .int a0_3_1, .ref a0_3_2, .ref a0_3_3])), (a0_7_14, .inr (6, [.int a0_7_14_0, .int a0_7_14_1, .ref a0_7_14_2, .ref a0_7_14_3])), (a0_7_14_2, .inl (ka0_7_14_2, 3, .inl (fa0_7_14_2))), (a0_3_2, .inl (ka0_3_2, 3, .inl (fa0_3_2))), (a0_7_14_3, .inl (ka0_7_14_3, 3, .inl (fa0_7_14_3))), (a0_3_3, .inl (ka0_3_3, 3, .inl (fa0_3_3)))]) hP hD hS hA [2, 3, 4, 5, 6, 7] (by decide +kernel) rfl (fun hPc hDc hFc hCc => ?_)
    have hKc := hK.sub (tys' := [(ka0_7_14_2, .int), (ka0_3_2, .int), (ka0_7_14_3, .int), (ka0_3_3, .int)]) [0, 1, 2, 3] rfl
    refine va_callv (va_runV (As := [.ref a0_7_14]) (rest := []) ⟨hx, hb, hml, hown, hts⟩ (c_X6_copyFrom l dC dI H.size a0_3 a0_7_14 a0_3_0 a0_3_1 a0_3_2 a0_3_3 a0_7_14_0 a0_7_14_1 a0_7_14_2 a0_7_14_3 ka0_7_14_2 fa0_7_14_2 ka0_3_2 fa0_3_2 ka0_7_14_3 fa0_7_14_3 ka0_3_3 fa0_3_3 ba0_3_0_l ba0_3_0_u ba0_7_14_0_l ba0_7_14_0_u bfa0_7_14_2 bfa0_3_2 bfa0_7_14_3 bfa0_3_3) (cwV 1 hts gX7_guard_X6_copyFrom rfl rfl rfl zd_X6_copyFrom ⟨Nat.le_of_ble_eq_true rfl, Nat.le_of_ble_eq_true rfl⟩) ⟨ax_blind (fun _ _ _ _ _ => trivial), zr_6 hKc hPc (q0 := 0) rfl, ax_pre hPc hKc hDc (fun _ _ => trivial)⟩ rfl rfl hl.1 rfl (lv_room (Nat.le_of_ble_eq_true rfl)) dX7_guard_30 ⟨Nat.le_of_ble_eq_true rfl, Nat.le_of_ble_eq_true rfl⟩) hS (fun q _ h => hFc q h) hFc (fun u t H locs ht hvm hw hB hz1 hk1 hS => zx_4 hB (fun v30na0_0 v30na0_1 v30nfa0_2 v30nfa0_3 hB => zy_3 hB (fun bv30na0_0 bv30nfa0_2 bv30nfa0_3 hB => zo hB ht (fun hP1 hK1 hD1 => ?_))))
    refine zc_backc (w := [(a0, .inr (7, [a0g_0, .ref a0_1, .ref a0_2, .ref a0_3, a0g_4, a0g_5, a0g_6, .ref a0_7, .int a0_8, a0g_9, a0g_10])), (a0_7, .inr (0, [.int a0_7_0, .int a0_7_1, .int a0_7_2, a0_7g_3, a0_7g_4, .int a0_7_5, .int a0_7_6, a0_7g_7, a0_7g_8, a0_7g_9, .ref a0_7_10, .ref a0_7_11, a0_7g_12, a0_7g_13, .ref a0_7_14])), (a0_3, .inr (6, [.int v30na0_0, .int v30na0_1, .ref a0_3_2, .ref a0_3_3])), (a0_7_14, .inr (6, [.int a0_7_14_0, .int a0_7_14_1, .ref a0_7_14_2, .ref a0_7_14_3])), (a0_7_14_2, .inl (ka0_7_14_2, 3, .inl (fa0_7_14_2))), (a0_3_2, .inl (ka0_3_2, 3, .inl (v30nfa0_2))), (a0_7_14_3, .inl (ka0_7_14_3, 3, .inl (fa0_7_14_3))), (a0_3_3, .inl (ka0_3_3, 3, .inl (v30nfa0_3))), (a0_2, .inr (5, [.int a0_2_0, .int a0_2_1, .int a0_2_2, .int a0_2_3, .int a0_2_4, .ref a0_2_5, .ref a0_2_6])), (a0_1, .inr (5, [.int a0_1_0, .int a0_1_1, .int a0_1_2, .int a0_1_3, .int a0_1_4, .ref a0_1_5, .ref a0_1_6])), (a0_1_5, .inl (ka0_1_5, 9, .inl (fa0_1_5))), (a0_2_5, .inl (ka0_2_5, 9, .inl (fa0_2_5))), (a0_1_6, .inl (ka0_1_6, 9, .inl (fa0_1_6))), (a0_2_6, .inl (ka0_2_6, 9, .inl (fa0_2_6))), (a0_7_10, .inl (ka0_7_10, 9, .inl (fa0_7_10))), (a0_7_11, .inl (ka0_7_11, 9, .inl (fa0_7_11)))]) hP hD hCc hk1 hFc hP1 hD1 [.inl 0, .inl 1, .inr 0, .inr 1, .inr 2, .inr 3, .inr 4, .inr 5, .inl 8, .inl 9, .inl 10, .inl 11, .inl 12, .inl 13, .inl 14, .inl 15] (by decide +kernel) rfl (fun hP hD => ?_)
    refine lv_aload_n hx hb dX7_guard_33 rfl (lv_at hl 1 rfl) ?_
    refine lv_iconst (v := 0) hx hb dX7_guard_34 zk_iconst_0 ?_
    refine lv_iload_n hx hb dX7_guard_35 rfl (lv_at hl 2 rfl) ?_
    refine zc_cutc (wc := [(a0, .inr (7, [a0g_0, .ref a0_1, .ref a0_2, .ref a0_3, a0g_4, a0g_5, a0g_6, .ref a0_7, .int a0_8, a0g_9, a0g_10])), (a0_3, .inr (6, [.int v30na0_0, .int v30na0_1, .ref a0_3_2, .ref a0_3_3])), (a0_2, .inr (5, [.int a0_2_0, .int a0_2_1, .int a0_2_2, .int a0_2_3, .int a0_2_4, .ref a0_2_5, .ref a0_2_6])), (a0_1, .inr (5, [.int a0_1_0, .int a0_1_1, .int a0_1_2, .int a0_1_3, .int a0_1_4, .ref a0_1_5, .ref a0_1_6])), (a0_1_5, .inl (ka0_1_5, 9, .inl (fa0_1_5))), (a0_2_5, .inl (ka0_2_5, 9, .inl (fa0_2_5))), (a0_1_6, .inl (ka0_1_6, 9, .inl (fa0_1_6))), (a0_2_6, .inl (ka0_2_6, 9, .inl (fa0_2_6))), (a0_7, .inr (0, [.int a0_7_0, .int a0_7_1, .int a0_7_2, a0_7g_3, a0_7g_4, .int a0_7_5, .int a0_7_6, a0_7g_7, a0_7g_8, a0_7g_9, .ref a0_7_10, .ref a0_7_11, a0_7g_12, a0_7g_13, .ref a0_7_14])), (a0_7_10, .inl (ka0_7_10, 9, .inl (fa0_7_10))), (a0_7_11, .inl (ka0_7_11, 9, .inl (fa0_7_11))), (a0_3_3, .inl (ka0_3_3, 3, .inl (v30nfa0_3))), (a0_3_2, .inl (ka0_3_2, 3, .inl (v30nfa0_2)))]) hP hD hS hA [0, 2, 8, 9, 10, 11, 12, 13, 1, 14, 15, 7, 5] (by decide +kernel) rfl (fun hPc hDc hFc hCc => ?_)
    have hKc := hK.sub (tys' := [(ka0_1_5, .int), (ka0_2_5, .int), (ka0_1_6, .int), (ka0_2_6, .int), (ka0_7_10, .int), (ka0_7_11, .int), (ka0_3_3, .int), (ka0_3_2, .int)]) [4, 5, 6, 7, 8, 9, 3, 1] rfl
    refine va_calli (va_runV (As := [.int 0, .int a1]) (rest := []) ⟨hx, hb, hml, hown, hts⟩ (c_X7_postsHold l dC dI H.size a0 0 a1 a0g_0 a0g_4 a0g_5 a0g_6 (.int a0_8) a0g_9 a0g_10 a0_1 a0_2 a0_3 a0_7 v30na0_0 v30na0_1 a0_3_2 a0_3_3 a0_2_0 a0_2_1 a0_2_2 a0_2_3 a0_2_4 a0_2_5 a0_2_6 a0_1_0 a0_1_1 a0_1_2 a0_1_3 a0_1_4 a0_1_5 a0_1_6 ka0_1_5 fa0_1_5 ka0_2_5 fa0_2_5 ka0_1_6 fa0_1_6 ka0_2_6 fa0_2_6 a0_7_0 a0_7_1 a0_7_2 a0_7g_3 a0_7g_4 a0_7g_7 a0_7g_8 a0_7g_9 a0_7g_12 a0_7g_13 (.ref a0_7_14) a0_7_5 a0_7_6 a0_7_10 a0_7_11 ka0_7_10 fa0_7_10 ka0_7_11 fa0_7_11 ka0_3_3 v30nfa0_3 ka0_3_2 v30nfa0_2 (Int.le_trans zq4 l5k0_a1) u5k0_a1 bv30na0_0.1 bv30na0_0.2 ba0_2_1_l ba0_2_1_u ba0_1_1_l ba0_1_1_u (Int.le_trans zq4 l5k0_a0_7_0) ba0_7_0_u ba0_7_5_l ba0_7_5_u ba0_7_6_l ba0_7_6_u bv30nfa0_3 bv30nfa0_2) (cwV 2 hts gX7_guard_X7_postsHold rfl rfl rfl zd_X7_postsHold ⟨Nat.le_of_ble_eq_true rfl, Nat.le_of_ble_eq_true rfl⟩) ⟨ax_blind (fun _ _ _ _ hq => ⟨va_Nw.same rfl rfl (hq.1), va_Nw.same rfl rfl (hq.2.1), va_Nw.same rfl rfl (hq.2.2)⟩), zr_7 hKc hPc (q0 := 0) rfl, ax_pre hPc hKc hDc (fun _ hW => ⟨va_Nw.warmM hW hE0, va_Nw.warmM hW hE1, va_Nw.warmM hW hE2⟩)⟩ rfl rfl hl.1 rfl (lv_room (Nat.le_of_ble_eq_true rfl)) dX7_guard_36 ⟨Nat.le_of_ble_eq_true rfl, Nat.le_of_ble_eq_true rfl⟩) hS (fun q _ h => hFc q h) hFc (fun r36 u t H locs ht hvm hw hB hz1 hk1 hS => zx_8 hB (fun v36na0_3_1 v36na0_2_0 v36na0_2_1 v36na0_2_2 v36na0_2_3 v36na0_2_4 v36nfa0_2_5 v36nfa0_2_6 hB => zy_1 hB (fun bv36na0_2_1 hB => zo hB ht (fun hP1 hK1 hD1 => ?_))))
    refine zc_backc (w := [(a0, .inr (7, [a0g_0, .ref a0_1, .ref a0_2, .ref a0_3, a0g_4, a0g_5, a0g_6, .ref a0_7, .int a0_8, a0g_9, a0g_10])), (a0_7, .inr (0, [.int a0_7_0, .int a0_7_1, .int a0_7_2, a0_7g_3, a0_7g_4, .int a0_7_5, .int a0_7_6, a0_7g_7, a0_7g_8, a0_7g_9, .ref a0_7_10, .ref a0_7_11, a0_7g_12, a0_7g_13, .ref a0_7_14])), (a0_3, .inr (6, [.int v30na0_0, .int v36na0_3_1, .ref a0_3_2, .ref a0_3_3])), (a0_7_14, .inr (6, [.int a0_7_14_0, .int a0_7_14_1, .ref a0_7_14_2, .ref a0_7_14_3])), (a0_7_14_2, .inl (ka0_7_14_2, 3, .inl (fa0_7_14_2))), (a0_3_2, .inl (ka0_3_2, 3, .inl (v30nfa0_2))), (a0_7_14_3, .inl (ka0_7_14_3, 3, .inl (fa0_7_14_3))), (a0_3_3, .inl (ka0_3_3, 3, .inl (v30nfa0_3))), (a0_2, .inr (5, [.int v36na0_2_0, .int v36na0_2_1, .int v36na0_2_2, .int v36na0_2_3, .int v36na0_2_4, .ref a0_2_5, .ref a0_2_6])), (a0_1, .inr (5, [.int a0_1_0, .int a0_1_1, .int a0_1_2, .int a0_1_3, .int a0_1_4, .ref a0_1_5, .ref a0_1_6])), (a0_1_5, .inl (ka0_1_5, 9, .inl (fa0_1_5))), (a0_2_5, .inl (ka0_2_5, 9, .inl (v36nfa0_2_5))), (a0_1_6, .inl (ka0_1_6, 9, .inl (fa0_1_6))), (a0_2_6, .inl (ka0_2_6, 9, .inl (v36nfa0_2_6))), (a0_7_10, .inl (ka0_7_10, 9, .inl (fa0_7_10))), (a0_7_11, .inl (ka0_7_11, 9, .inl (fa0_7_11)))]) hP hD hCc hk1 hFc hP1 hD1 [.inr 0, .inr 8, .inr 1, .inl 3, .inl 4, .inr 12, .inl 6, .inr 11, .inr 2, .inr 3, .inr 4, .inr 5, .inr 6, .inr 7, .inr 9, .inr 10] (by decide +kernel) rfl (fun hP hD => ?_)
    rcases hw with hw | hw
    · subst hw
      refine lv_if_eq (tgt := 48) hx hb dX7_guard_39 (by decide) (fun c39 => absurd c39 (by decide +kernel)) (fun _ => ?_)
      refine lv_aload_n hx hb dX7_guard_42 rfl (lv_at hl 1 rfl) ?_
      refine lv_iconst (v := 0) hx hb dX7_guard_43 zk_iconst_0 ?_
      refine va_calli (va_runV (As := [.int 0]) (rest := []) ⟨hx, hb, hml, hown, hts⟩ (c_X7_answered l dC dI H.size a0 0 a0g_0 (.ref a0_1) (.ref a0_2) (.ref a0_3) a0g_4 a0g_5 a0g_6 (.ref a0_7) a0g_9 a0g_10 a0_8 ) (cwV 1 hts gX7_guard_X7_answered rfl rfl rfl zd_X7_answered ⟨Nat.le_of_ble_eq_true rfl, Nat.le_of_ble_eq_true rfl⟩) ⟨ax_blind (fun _ _ _ _ _ => trivial), zr_7 (zp_K hK) (zp_P1 hP) (q0 := 0) rfl, ax_pre (zp_P1 hP) (zp_K hK) (zp_D1 hD) (fun _ _ => trivial)⟩ rfl rfl hl.1 rfl (lv_room (Nat.le_of_ble_eq_true rfl)) dX7_guard_44 ⟨Nat.le_of_ble_eq_true rfl, Nat.le_of_ble_eq_true rfl⟩) hS (fun q _ h => zp_F1 hD hS hA q h) (zp_F1 hD hS hA) (fun r44 u t H locs ht hvm hw hB hz1 hk1 hS1 => zx_1 hB (fun v44na0_8 hB => zo1 hB ht hP hD hk1 (zp_F1 hD hS hA) hS1 (fun hP hK1 hD hS => ?_)))
      have hw : r44 = 0 := hw
      have hw := hw.symm
      subst hw
      exact W.iret (v := 0) hx hb hr (fun t ht hW => ⟨⟨0, (), rfl, trivial, v44na0_8, v30na0_0, v36na0_3_1, v30nfa0_2, v30nfa0_3, v36na0_2_0, v36na0_2_1, v36na0_2_2, v36na0_2_3, v36na0_2_4, v36nfa0_2_5, v36nfa0_2_6, ⟨bv30na0_0.1, bv30na0_0.2⟩, ⟨bv36na0_2_1.1, bv36na0_2_1.2⟩, bv30nfa0_2, bv30nfa0_3, by rw [ht]; exact hP, va_K.moved hW.alike hK, hD⟩, hS.F ht⟩) hS.2.2 dX7_guard_47
    · subst hw
      refine lv_if_eq (tgt := 48) hx hb dX7_guard_39 (by decide) (fun _ => ?_) (fun c39 => absurd (by decide +kernel) c39)
      refine lv_iconst (v := 0) hx hb dX7_guard_48 zk_iconst_0 ?_
      refine lv_istore_n (lv' := [(3, .int 0), (2, .int 0), (0, .ref a0), (1, .int a1)]) hx hb dX7_guard_49 rfl hl (by decide) rfl (fun ls hl => ?_)
      have J50 : ∀ (n : Nat) (j50l3 : Int32) (j50a0_3_1 : Int32) (j50a0_2_0 : Int32) (j50a0_2_1 : Int32) (j50a0_2_2 : Int32) (j50a0_2_3 : Int32) (j50a0_2_4 : Int32) (j50a0_2_5_a : Nat → Int32) (j50a0_2_6_a : Nat → Int32) (H : Heap) (locs : List Loc) (ls : Array Slot), (10 : Int) - j50l3.toInt ≤ (n : Int) → (0 : Int) ≤ j50l3.toInt → j50l3.toInt ≤ (9 : Int) → (0 : Int) ≤ j50a0_2_1.toInt → j50a0_2_1.toInt ≤ (8 : Int) → va_P (dC, dI) vwCl [(a0, .inr (7, [a0g_0, .ref a0_1, .ref a0_2, .ref a0_3, a0g_4, a0g_5, a0g_6, .ref a0_7, .int a0_8, a0g_9, a0g_10])), (a0_7, .inr (0, [.int a0_7_0, .int a0_7_1, .int a0_7_2, a0_7g_3, a0_7g_4, .int a0_7_5, .int a0_7_6, a0_7g_7, a0_7g_8, a0_7g_9, .ref a0_7_10, .ref a0_7_11, a0_7g_12, a0_7g_13, .ref a0_7_14])), (a0_3, .inr (6, [.int v30na0_0, .int j50a0_3_1, .ref a0_3_2, .ref a0_3_3])), (a0_7_14, .inr (6, [.int a0_7_14_0, .int a0_7_14_1, .ref a0_7_14_2, .ref a0_7_14_3])), (a0_7_14_2, .inl (ka0_7_14_2, 3, .inl (fa0_7_14_2))), (a0_3_2, .inl (ka0_3_2, 3, .inl (v30nfa0_2))), (a0_7_14_3, .inl (ka0_7_14_3, 3, .inl (fa0_7_14_3))), (a0_3_3, .inl (ka0_3_3, 3, .inl (v30nfa0_3))), (a0_2, .inr (5, [.int j50a0_2_0, .int j50a0_2_1, .int j50a0_2_2, .int j50a0_2_3, .int j50a0_2_4, .ref a0_2_5, .ref a0_2_6])), (a0_1, .inr (5, [.int a0_1_0, .int a0_1_1, .int a0_1_2, .int a0_1_3, .int a0_1_4, .ref a0_1_5, .ref a0_1_6])), (a0_1_5, .inl (ka0_1_5, 9, .inl (fa0_1_5))), (a0_2_5, .inl (ka0_2_5, 9, .inl (j50a0_2_5_a))), (a0_1_6, .inl (ka0_1_6, 9, .inl (fa0_1_6))), (a0_2_6, .inl (ka0_2_6, 9, .inl (j50a0_2_6_a))), (a0_7_10, .inl (ka0_7_10, 9, .inl (fa0_7_10))), (a0_7_11, .inl (ka0_7_11, 9, .inl (fa0_7_11)))] H → va_D A [(a0, .inr (7, [a0g_0, .ref a0_1, .ref a0_2, .ref a0_3, a0g_4, a0g_5, a0g_6, .ref a0_7, .int a0_8, a0g_9, a0g_10])), (a0_7, .inr (0, [.int a0_7_0, .int a0_7_1, .int a0_7_2, a0_7g_3, a0_7g_4, .int a0_7_5, .int a0_7_6, a0_7g_7, a0_7g_8, a0_7g_9, .ref a0_7_10, .ref a0_7_11, a0_7g_12, a0_7g_13, .ref a0_7_14])), (a0_3, .inr (6, [.int v30na0_0, .int j50a0_3_1, .ref a0_3_2, .ref a0_3_3])), (a0_7_14, .inr (6, [.int a0_7_14_0, .int a0_7_14_1, .ref a0_7_14_2, .ref a0_7_14_3])), (a0_7_14_2, .inl (ka0_7_14_2, 3, .inl (fa0_7_14_2))), (a0_3_2, .inl (ka0_3_2, 3, .inl (v30nfa0_2))), (a0_7_14_3, .inl (ka0_7_14_3, 3, .inl (fa0_7_14_3))), (a0_3_3, .inl (ka0_3_3, 3, .inl (v30nfa0_3))), (a0_2, .inr (5, [.int j50a0_2_0, .int j50a0_2_1, .int j50a0_2_2, .int j50a0_2_3, .int j50a0_2_4, .ref a0_2_5, .ref a0_2_6])), (a0_1, .inr (5, [.int a0_1_0, .int a0_1_1, .int a0_1_2, .int a0_1_3, .int a0_1_4, .ref a0_1_5, .ref a0_1_6])), (a0_1_5, .inl (ka0_1_5, 9, .inl (fa0_1_5))), (a0_2_5, .inl (ka0_2_5, 9, .inl (j50a0_2_5_a))), (a0_1_6, .inl (ka0_1_6, 9, .inl (fa0_1_6))), (a0_2_6, .inl (ka0_2_6, 9, .inl (j50a0_2_6_a))), (a0_7_10, .inl (ka0_7_10, 9, .inl (fa0_7_10))), (a0_7_11, .inl (ka0_7_11, 9, .inl (fa0_7_11)))] → va_S A s.heap H locs → lv_has ls 4 [(0, .ref a0), (1, .int a1), (3, .int j50l3)] → K H locs (F0 m 50 ls []) := by
        intro n
        induction n with
        | zero =>
          intro j50l3 j50a0_3_1 j50a0_2_0 j50a0_2_1 j50a0_2_2 j50a0_2_3 j50a0_2_4 j50a0_2_5_a j50a0_2_6_a H locs ls hm bj50l3_l bj50l3_u bj50a0_2_1_l bj50a0_2_1_u hP hD hS hl
          have h8 := ai_min j50l3
          have h9 := ai_max j50l3
          exact absurd hm (by omega)
        | succ n ih50 =>
          intro j50l3 j50a0_3_1 j50a0_2_0 j50a0_2_1 j50a0_2_2 j50a0_2_3 j50a0_2_4 j50a0_2_5_a j50a0_2_6_a H locs ls hm bj50l3_l bj50l3_u bj50a0_2_1_l bj50a0_2_1_u hP hD hS hl
          refine (hK0 _ _ _).mpr ?_
          have hm50 := hm
          refine lv_iload_n hx hb dX7_guard_50 rfl (lv_at hl 2 rfl) ?_
          refine lv_aload_n hx hb dX7_guard_51 rfl (lv_at hl 0 rfl) ?_
          refine va_get (D := (dC, dI)) (ci := 7) (v := .ref a0_7) (C := RX7) (T := TX7) (N := 11) hx hb hts zi_X7_guard_7 hown hK hP 0 rfl rfl 7 (by decide) (hts (.fieldLink RX7 57 "WaxTurns" "hall" "LWaxTurns$Hall;") (zm_X7_guard_r1 (List.mem_of_getElem? (i := 1) rfl))) (fun _ h9 => h9) rfl dX7_guard_52 ?_
          refine va_get (D := (dC, dI)) (ci := 0) (v := .int a0_7_0) (C := RX0) (T := TX0) (N := 15) hx hb hts zi_X7_guard_0 hown hK hP 1 rfl rfl 0 (by decide) (hts (.fieldLink RX7 110 "WaxTurns$Hall" "figures" "I") (zm_X7_guard_r1 (List.mem_of_getElem? (i := 3) rfl))) (fun _ h9 => h9) rfl dX7_guard_55 ?_
          refine lv_icmp_ge (tgt := 86) hx hb dX7_guard_58 (by decide) (fun c58 => ?_) (fun c58 => ?_)
          · have gc58 := ai_le c58
            have u58t_a0_7_0 : a0_7_0.toInt ≤ (9 : Int) := ba0_7_0_u
            have l58t_j50l3 : (1 : Int) ≤ j50l3.toInt := Int.le_trans l5k0_a0_7_0 gc58
            refine lv_aload_n hx hb dX7_guard_86 rfl (lv_at hl 0 rfl) ?_
            refine lv_bipush (v := (-2)) hx hb dX7_guard_87 zk_bipush_n2 ?_
            refine va_calli (va_runV (As := [.int (-2)]) (rest := []) ⟨hx, hb, hml, hown, hts⟩ (c_X7_answered l dC dI H.size a0 (-2) a0g_0 (.ref a0_1) (.ref a0_2) (.ref a0_3) a0g_4 a0g_5 a0g_6 (.ref a0_7) a0g_9 a0g_10 a0_8 ) (cwV 1 hts gX7_guard_X7_answered rfl rfl rfl zd_X7_answered ⟨Nat.le_of_ble_eq_true rfl, Nat.le_of_ble_eq_true rfl⟩) ⟨ax_blind (fun _ _ _ _ _ => trivial), zr_7 (zp_K hK) (zp_P1 hP) (q0 := 0) rfl, ax_pre (zp_P1 hP) (zp_K hK) (zp_D1 hD) (fun _ _ => trivial)⟩ rfl rfl hl.1 rfl (lv_room (Nat.le_of_ble_eq_true rfl)) dX7_guard_89 ⟨Nat.le_of_ble_eq_true rfl, Nat.le_of_ble_eq_true rfl⟩) hS (fun q _ h => zp_F1 hD hS hA q h) (zp_F1 hD hS hA) (fun r89 u t H locs ht hvm hw hB hz1 hk1 hS1 => zx_1 hB (fun v89na0_8 hB => zo1 hB ht hP hD hk1 (zp_F1 hD hS hA) hS1 (fun hP hK1 hD hS => ?_)))
            have hw : r89 = (-2) := hw
            have hw := hw.symm
            subst hw
            exact W.iret (v := (-2)) hx hb hr (fun t ht hW => ⟨⟨(-2), (), rfl, trivial, v89na0_8, v30na0_0, j50a0_3_1, v30nfa0_2, v30nfa0_3, j50a0_2_0, j50a0_2_1, j50a0_2_2, j50a0_2_3, j50a0_2_4, j50a0_2_5_a, j50a0_2_6_a, ⟨bv30na0_0.1, bv30na0_0.2⟩, ⟨bj50a0_2_1_l, bj50a0_2_1_u⟩, bv30nfa0_2, bv30nfa0_3, by rw [ht]; exact hP, va_K.moved hW.alike hK, hD⟩, hS.F ht⟩) hS.2.2 dX7_guard_92
          · have gc58 := ai_nle c58
            have u58f_j50l3 : j50l3.toInt ≤ (8 : Int) := ai_lthi gc58 ba0_7_0_u
            have l58f_a0_7_0 : (1 : Int) ≤ a0_7_0.toInt := l5k0_a0_7_0
            refine lv_aload_n hx hb dX7_guard_61 rfl (lv_at hl 0 rfl) ?_
            refine lv_iconst (v := 1) hx hb dX7_guard_62 zk_iconst_1 ?_
            refine lv_iload_n hx hb dX7_guard_63 rfl (lv_at hl 2 rfl) ?_
            refine lv_ishl hx hb dX7_guard_64 ?_
            refine lv_topi (fun x64 ex64 => ?_)
            refine lv_iload_n hx hb dX7_guard_65 rfl (lv_at hl 1 rfl) ?_
            refine zc_cutc (wc := [(a0, .inr (7, [a0g_0, .ref a0_1, .ref a0_2, .ref a0_3, a0g_4, a0g_5, a0g_6, .ref a0_7, .int a0_8, a0g_9, a0g_10])), (a0_3, .inr (6, [.int v30na0_0, .int j50a0_3_1, .ref a0_3_2, .ref a0_3_3])), (a0_2, .inr (5, [.int j50a0_2_0, .int j50a0_2_1, .int j50a0_2_2, .int j50a0_2_3, .int j50a0_2_4, .ref a0_2_5, .ref a0_2_6])), (a0_1, .inr (5, [.int a0_1_0, .int a0_1_1, .int a0_1_2, .int a0_1_3, .int a0_1_4, .ref a0_1_5, .ref a0_1_6])), (a0_1_5, .inl (ka0_1_5, 9, .inl (fa0_1_5))), (a0_2_5, .inl (ka0_2_5, 9, .inl (j50a0_2_5_a))), (a0_1_6, .inl (ka0_1_6, 9, .inl (fa0_1_6))), (a0_2_6, .inl (ka0_2_6, 9, .inl (j50a0_2_6_a))), (a0_7, .inr (0, [.int a0_7_0, .int a0_7_1, .int a0_7_2, a0_7g_3, a0_7g_4, .int a0_7_5, .int a0_7_6, a0_7g_7, a0_7g_8, a0_7g_9, .ref a0_7_10, .ref a0_7_11, a0_7g_12, a0_7g_13, .ref a0_7_14])), (a0_7_10, .inl (ka0_7_10, 9, .inl (fa0_7_10))), (a0_7_11, .inl (ka0_7_11, 9, .inl (fa0_7_11))), (a0_3_3, .inl (ka0_3_3, 3, .inl (v30nfa0_3))), (a0_3_2, .inl (ka0_3_2, 3, .inl (v30nfa0_2)))]) hP hD hS hA [0, 2, 8, 9, 10, 11, 12, 13, 1, 14, 15, 7, 5] (by decide +kernel) rfl (fun hPc hDc hFc hCc => ?_)
            have hKc := hK.sub (tys' := [(ka0_1_5, .int), (ka0_2_5, .int), (ka0_1_6, .int), (ka0_2_6, .int), (ka0_7_10, .int), (ka0_7_11, .int), (ka0_3_3, .int), (ka0_3_2, .int)]) [4, 5, 6, 7, 8, 9, 3, 1] rfl
            refine va_calli (va_runV (As := [.int x64, .int a1]) (rest := []) ⟨hx, hb, hml, hown, hts⟩ (c_X7_postsHold l dC dI H.size a0 x64 a1 a0g_0 a0g_4 a0g_5 a0g_6 (.int a0_8) a0g_9 a0g_10 a0_1 a0_2 a0_3 a0_7 v30na0_0 j50a0_3_1 a0_3_2 a0_3_3 j50a0_2_0 j50a0_2_1 j50a0_2_2 j50a0_2_3 j50a0_2_4 a0_2_5 a0_2_6 a0_1_0 a0_1_1 a0_1_2 a0_1_3 a0_1_4 a0_1_5 a0_1_6 ka0_1_5 fa0_1_5 ka0_2_5 j50a0_2_5_a ka0_1_6 fa0_1_6 ka0_2_6 j50a0_2_6_a a0_7_0 a0_7_1 a0_7_2 a0_7g_3 a0_7g_4 a0_7g_7 a0_7g_8 a0_7g_9 a0_7g_12 a0_7g_13 (.ref a0_7_14) a0_7_5 a0_7_6 a0_7_10 a0_7_11 ka0_7_10 fa0_7_10 ka0_7_11 fa0_7_11 ka0_3_3 v30nfa0_3 ka0_3_2 v30nfa0_2 (Int.le_trans zq4 l5k0_a1) u5k0_a1 bv30na0_0.1 bv30na0_0.2 bj50a0_2_1_l bj50a0_2_1_u ba0_1_1_l ba0_1_1_u (Int.le_trans zq4 l58f_a0_7_0) ba0_7_0_u ba0_7_5_l ba0_7_5_u ba0_7_6_l ba0_7_6_u bv30nfa0_3 bv30nfa0_2) (cwV 2 hts gX7_guard_X7_postsHold rfl rfl rfl zd_X7_postsHold ⟨Nat.le_of_ble_eq_true rfl, Nat.le_of_ble_eq_true rfl⟩) ⟨ax_blind (fun _ _ _ _ hq => ⟨va_Nw.same rfl rfl (hq.1), va_Nw.same rfl rfl (hq.2.1), va_Nw.same rfl rfl (hq.2.2)⟩), zr_7 hKc hPc (q0 := 0) rfl, ax_pre hPc hKc hDc (fun _ hW => ⟨va_Nw.warmM hW hE0, va_Nw.warmM hW hE1, va_Nw.warmM hW hE2⟩)⟩ rfl rfl hl.1 rfl (lv_room (Nat.le_of_ble_eq_true rfl)) dX7_guard_66 ⟨Nat.le_of_ble_eq_true rfl, Nat.le_of_ble_eq_true rfl⟩) hS (fun q _ h => hFc q h) hFc (fun r66 u t H locs ht hvm hw hB hz1 hk1 hS => zx_8 hB (fun v66na0_3_1 v66na0_2_0 v66na0_2_1 v66na0_2_2 v66na0_2_3 v66na0_2_4 v66nfa0_2_5 v66nfa0_2_6 hB => zy_1 hB (fun bv66na0_2_1 hB => zo hB ht (fun hP1 hK1 hD1 => ?_))))
            refine zc_backc (w := [(a0, .inr (7, [a0g_0, .ref a0_1, .ref a0_2, .ref a0_3, a0g_4, a0g_5, a0g_6, .ref a0_7, .int a0_8, a0g_9, a0g_10])), (a0_7, .inr (0, [.int a0_7_0, .int a0_7_1, .int a0_7_2, a0_7g_3, a0_7g_4, .int a0_7_5, .int a0_7_6, a0_7g_7, a0_7g_8, a0_7g_9, .ref a0_7_10, .ref a0_7_11, a0_7g_12, a0_7g_13, .ref a0_7_14])), (a0_3, .inr (6, [.int v30na0_0, .int v66na0_3_1, .ref a0_3_2, .ref a0_3_3])), (a0_7_14, .inr (6, [.int a0_7_14_0, .int a0_7_14_1, .ref a0_7_14_2, .ref a0_7_14_3])), (a0_7_14_2, .inl (ka0_7_14_2, 3, .inl (fa0_7_14_2))), (a0_3_2, .inl (ka0_3_2, 3, .inl (v30nfa0_2))), (a0_7_14_3, .inl (ka0_7_14_3, 3, .inl (fa0_7_14_3))), (a0_3_3, .inl (ka0_3_3, 3, .inl (v30nfa0_3))), (a0_2, .inr (5, [.int v66na0_2_0, .int v66na0_2_1, .int v66na0_2_2, .int v66na0_2_3, .int v66na0_2_4, .ref a0_2_5, .ref a0_2_6])), (a0_1, .inr (5, [.int a0_1_0, .int a0_1_1, .int a0_1_2, .int a0_1_3, .int a0_1_4, .ref a0_1_5, .ref a0_1_6])), (a0_1_5, .inl (ka0_1_5, 9, .inl (fa0_1_5))), (a0_2_5, .inl (ka0_2_5, 9, .inl (v66nfa0_2_5))), (a0_1_6, .inl (ka0_1_6, 9, .inl (fa0_1_6))), (a0_2_6, .inl (ka0_2_6, 9, .inl (v66nfa0_2_6))), (a0_7_10, .inl (ka0_7_10, 9, .inl (fa0_7_10))), (a0_7_11, .inl (ka0_7_11, 9, .inl (fa0_7_11)))]) hP hD hCc hk1 hFc hP1 hD1 [.inr 0, .inr 8, .inr 1, .inl 3, .inl 4, .inr 12, .inl 6, .inr 11, .inr 2, .inr 3, .inr 4, .inr 5, .inr 6, .inr 7, .inr 9, .inr 10] (by decide +kernel) rfl (fun hP hD => ?_)
            rcases hw with hw | hw
            · subst hw
              refine lv_if_eq (tgt := 80) hx hb dX7_guard_69 (by decide) (fun c69 => absurd c69 (by decide +kernel)) (fun _ => ?_)
              refine lv_aload_n hx hb dX7_guard_72 rfl (lv_at hl 0 rfl) ?_
              refine lv_iconst (v := 1) hx hb dX7_guard_73 zk_iconst_1 ?_
              refine lv_iload_n hx hb dX7_guard_74 rfl (lv_at hl 2 rfl) ?_
              refine lv_ishl hx hb dX7_guard_75 ?_
              refine ax_ti x64 ex64.symm ?_
              refine va_calli (va_runV (As := [.int x64]) (rest := []) ⟨hx, hb, hml, hown, hts⟩ (c_X7_answered l dC dI H.size a0 x64 a0g_0 (.ref a0_1) (.ref a0_2) (.ref a0_3) a0g_4 a0g_5 a0g_6 (.ref a0_7) a0g_9 a0g_10 a0_8 ) (cwV 1 hts gX7_guard_X7_answered rfl rfl rfl zd_X7_answered ⟨Nat.le_of_ble_eq_true rfl, Nat.le_of_ble_eq_true rfl⟩) ⟨ax_blind (fun _ _ _ _ _ => trivial), zr_7 (zp_K hK) (zp_P1 hP) (q0 := 0) rfl, ax_pre (zp_P1 hP) (zp_K hK) (zp_D1 hD) (fun _ _ => trivial)⟩ rfl rfl hl.1 rfl (lv_room (Nat.le_of_ble_eq_true rfl)) dX7_guard_76 ⟨Nat.le_of_ble_eq_true rfl, Nat.le_of_ble_eq_true rfl⟩) hS (fun q _ h => zp_F1 hD hS hA q h) (zp_F1 hD hS hA) (fun r76 u t H locs ht hvm hw hB hz1 hk1 hS1 => zx_1 hB (fun v76na0_8 hB => zo1 hB ht hP hD hk1 (zp_F1 hD hS hA) hS1 (fun hP hK1 hD hS => ?_)))
              have hw : r76 = x64 := hw
              have hw := hw.symm
              subst hw
              exact W.iret (v := x64) hx hb hr (fun t ht hW => ⟨⟨x64, (), rfl, trivial, v76na0_8, v30na0_0, v66na0_3_1, v30nfa0_2, v30nfa0_3, v66na0_2_0, v66na0_2_1, v66na0_2_2, v66na0_2_3, v66na0_2_4, v66nfa0_2_5, v66nfa0_2_6, ⟨bv30na0_0.1, bv30na0_0.2⟩, ⟨bv66na0_2_1.1, bv66na0_2_1.2⟩, bv30nfa0_2, bv30nfa0_3, by rw [ht]; exact hP, va_K.moved hW.alike hK, hD⟩, hS.F ht⟩) hS.2.2 dX7_guard_79
            · subst hw
              refine lv_if_eq (tgt := 80) hx hb dX7_guard_69 (by decide) (fun _ => ?_) (fun c69 => absurd (by decide +kernel) c69)
              obtain ⟨x80, ex80⟩ : ∃ y : Int32, y = j50l3 + Int32.ofInt 1 := ⟨_, rfl⟩
              have qx80 : x80.toInt = j50l3.toInt + 1 := ai_inc ex80 (by decide) (by decide) u58f_j50l3 (by decide)
              have bx80 : (1 : Int) ≤ x80.toInt ∧ x80.toInt ≤ 9 := ⟨by rw [qx80]; exact Int.add_le_add bj50l3_l (Int.le_refl _), by rw [qx80]; exact Int.add_le_add u58f_j50l3 (Int.le_refl _)⟩
              refine lv_iinc (v := x80) (lv' := [(3, .int x80), (0, .ref a0), (1, .int a1)]) hx hb dX7_guard_80 hl (k := 2) rfl ex80.symm (by decide) rfl (fun ls hl => ?_)
              refine lv_goto (tgt := 50) hx hb dX7_guard_83 (by decide) ?_
              exact (hK0 _ _ _).mp (ih50 x80 v66na0_3_1 v66na0_2_0 v66na0_2_1 v66na0_2_2 v66na0_2_3 v66na0_2_4 v66nfa0_2_5 v66nfa0_2_6 _ _ _ (by have h0 := qx80; omega) (Int.le_trans zq4 bx80.1) bx80.2 bv66na0_2_1.1 bv66na0_2_1.2 hP hD hS (lv_sub hl [1, 2, 0] rfl))
      exact (hK0 _ _ _).mp (J50 10 0 v36na0_3_1 v36na0_2_0 v36na0_2_1 v36na0_2_2 v36na0_2_3 v36na0_2_4 v36nfa0_2_5 v36nfa0_2_6 _ _ _ (by have h1 : (0 : Int) ≤ (0 : Int32).toInt := zq5; have h2 : (0 : Int32).toInt ≤ (0 : Int) := zq6; omega) zq5 (Int.le_trans zq6 zq7) bv36na0_2_1.1 bv36na0_2_1.2 hP hD hS (lv_sub hl [2, 3, 0] rfl))
  · subst hw
    refine lv_istore_n (lv' := [(2, .int 1), (0, .ref a0), (1, .int a1)]) hx hb dX7_guard_8 rfl hl (by decide) rfl (fun ls hl => ?_)
    refine lv_iload_n hx hb dX7_guard_9 rfl (lv_at hl 0 rfl) ?_
    refine lv_if_eq (tgt := 19) hx hb dX7_guard_10 (by decide) (fun c10 => absurd c10 (by decide +kernel)) (fun _ => ?_)
    refine lv_aload_n hx hb dX7_guard_13 rfl (lv_at hl 1 rfl) ?_
    refine lv_iload_n hx hb dX7_guard_14 rfl (lv_at hl 0 rfl) ?_
    refine va_calli (va_runV (As := [.int 1]) (rest := []) ⟨hx, hb, hml, hown, hts⟩ (c_X7_refused l dC dI H.size a0 1 a0g_0 (.ref a0_1) (.ref a0_2) (.ref a0_3) a0g_4 a0g_5 a0g_6 (.ref a0_7) a0g_9 a0g_10 a0_8 ) (cwV 1 hts gX7_guard_X7_refused rfl rfl rfl zd_X7_refused ⟨Nat.le_of_ble_eq_true rfl, Nat.le_of_ble_eq_true rfl⟩) ⟨ax_blind (fun _ _ _ _ _ => trivial), zr_7 (zp_K hK) (zp_P1 hP) (q0 := 0) rfl, ax_pre (zp_P1 hP) (zp_K hK) (zp_D1 hD) (fun _ _ => trivial)⟩ rfl rfl hl.1 rfl (lv_room (Nat.le_of_ble_eq_true rfl)) dX7_guard_15 ⟨Nat.le_of_ble_eq_true rfl, Nat.le_of_ble_eq_true rfl⟩) hS (fun q _ h => zp_F1 hD hS hA q h) (zp_F1 hD hS hA) (fun r15 u t H locs ht hvm hw hB hz1 hk1 hS1 => zx_1 hB (fun v15na0_8 hB => zo1 hB ht hP hD hk1 (zp_F1 hD hS hA) hS1 (fun hP hK1 hD hS => ?_)))
    have hw : r15 = (-1) := hw
    have hw := hw.symm
    subst hw
    exact W.iret (v := (-1)) hx hb hr (fun t ht hW => ⟨⟨(-1), (), rfl, trivial, v15na0_8, a0_3_0, a0_3_1, fa0_3_2, fa0_3_3, a0_2_0, a0_2_1, a0_2_2, a0_2_3, a0_2_4, fa0_2_5, fa0_2_6, ⟨ba0_3_0_l, ba0_3_0_u⟩, ⟨ba0_2_1_l, ba0_2_1_u⟩, bfa0_3_2, bfa0_3_3, by rw [ht]; exact hP, va_K.moved hW.alike hK, hD⟩, hS.F ht⟩) hS.2.2 dX7_guard_18
  · subst hw
    refine lv_istore_n (lv' := [(2, .int 2), (0, .ref a0), (1, .int a1)]) hx hb dX7_guard_8 rfl hl (by decide) rfl (fun ls hl => ?_)
    refine lv_iload_n hx hb dX7_guard_9 rfl (lv_at hl 0 rfl) ?_
    refine lv_if_eq (tgt := 19) hx hb dX7_guard_10 (by decide) (fun c10 => absurd c10 (by decide +kernel)) (fun _ => ?_)
    refine lv_aload_n hx hb dX7_guard_13 rfl (lv_at hl 1 rfl) ?_
    refine lv_iload_n hx hb dX7_guard_14 rfl (lv_at hl 0 rfl) ?_
    refine va_calli (va_runV (As := [.int 2]) (rest := []) ⟨hx, hb, hml, hown, hts⟩ (c_X7_refused l dC dI H.size a0 2 a0g_0 (.ref a0_1) (.ref a0_2) (.ref a0_3) a0g_4 a0g_5 a0g_6 (.ref a0_7) a0g_9 a0g_10 a0_8 ) (cwV 1 hts gX7_guard_X7_refused rfl rfl rfl zd_X7_refused ⟨Nat.le_of_ble_eq_true rfl, Nat.le_of_ble_eq_true rfl⟩) ⟨ax_blind (fun _ _ _ _ _ => trivial), zr_7 (zp_K hK) (zp_P1 hP) (q0 := 0) rfl, ax_pre (zp_P1 hP) (zp_K hK) (zp_D1 hD) (fun _ _ => trivial)⟩ rfl rfl hl.1 rfl (lv_room (Nat.le_of_ble_eq_true rfl)) dX7_guard_15 ⟨Nat.le_of_ble_eq_true rfl, Nat.le_of_ble_eq_true rfl⟩) hS (fun q _ h => zp_F1 hD hS hA q h) (zp_F1 hD hS hA) (fun r15 u t H locs ht hvm hw hB hz1 hk1 hS1 => zx_1 hB (fun v15na0_8 hB => zo1 hB ht hP hD hk1 (zp_F1 hD hS hA) hS1 (fun hP hK1 hD hS => ?_)))
    have hw : r15 = (-1) := hw
    have hw := hw.symm
    subst hw
    exact W.iret (v := (-1)) hx hb hr (fun t ht hW => ⟨⟨(-1), (), rfl, trivial, v15na0_8, a0_3_0, a0_3_1, fa0_3_2, fa0_3_3, a0_2_0, a0_2_1, a0_2_2, a0_2_3, a0_2_4, fa0_2_5, fa0_2_6, ⟨ba0_3_0_l, ba0_3_0_u⟩, ⟨ba0_2_1_l, ba0_2_1_u⟩, bfa0_3_2, bfa0_3_3, by rw [ht]; exact hP, va_K.moved hW.alike hK, hD⟩, hS.F ht⟩) hS.2.2 dX7_guard_18

set_option maxHeartbeats 4000000 in
set_option maxRecDepth 100000 in
theorem c_X7_windBest (l : Launch) (dC : Nat → ClassId) (dI : Nat → Nat → Nat) (sz : Nat) (a0 : Nat) (a0g_0 a0g_3 a0g_4 a0g_5 a0g_6 a0g_9 a0g_10 : Value) (a0_1 : Nat) (a0_2 : Nat) (a0_7 : Nat) (a0_8 : Int32) (a0_7_0 : Int32) (a0_7_1 : Int32) (a0_7_2 : Int32) (a0_7g_3 a0_7g_4 a0_7g_7 a0_7g_8 a0_7g_9 a0_7g_12 a0_7g_13 : Value) (a0_7_5 : Int32) (a0_7_6 : Int32) (a0_7_10 : Nat) (a0_7_11 : Nat) (a0_7_14 : Nat) (a0_2_0 : Int32) (a0_2_1 : Int32) (a0_2_2 : Int32) (a0_2_3 : Int32) (a0_2_4 : Int32) (a0_2_5 : Nat) (a0_2_6 : Nat) (a0_1_0 : Int32) (a0_1_1 : Int32) (a0_1_2 : Int32) (a0_1_3 : Int32) (a0_1_4 : Int32) (a0_1_5 : Nat) (a0_1_6 : Nat) (ka0_1_5 : ClassId) (fa0_1_5 : Nat → Int32) (ka0_2_5 : ClassId) (fa0_2_5 : Nat → Int32) (ka0_1_6 : ClassId) (fa0_1_6 : Nat → Int32) (ka0_2_6 : ClassId) (fa0_2_6 : Nat → Int32) (ka0_7_10 : ClassId) (fa0_7_10 : Nat → Int32) (ka0_7_11 : ClassId) (fa0_7_11 : Nat → Int32) (a0_7_14_0 : Int32) (a0_7_14_1 : Int32) (a0_7_14_2 : Nat) (a0_7_14_3 : Nat) (ka0_7_14_3 : ClassId) (fa0_7_14_3 : Nat → Int32) (ka0_7_14_2 : ClassId) (fa0_7_14_2 : Nat → Int32) (ba0_7_0_l : (0 : Int) ≤ a0_7_0.toInt) (ba0_7_0_u : a0_7_0.toInt ≤ (9 : Int)) (ba0_7_5_l : (0 : Int) ≤ a0_7_5.toInt) (ba0_7_5_u : a0_7_5.toInt ≤ (8 : Int)) (ba0_7_6_l : (0 : Int) ≤ a0_7_6.toInt) (ba0_7_6_u : a0_7_6.toInt ≤ (8 : Int)) (ba0_2_1_l : (0 : Int) ≤ a0_2_1.toInt) (ba0_2_1_u : a0_2_1.toInt ≤ (8 : Int)) (ba0_1_1_l : (0 : Int) ≤ a0_1_1.toInt) (ba0_1_1_u : a0_1_1.toInt ≤ (8 : Int)) (ba0_7_14_0_l : (0 : Int) ≤ a0_7_14_0.toInt) (ba0_7_14_0_u : a0_7_14_0.toInt ≤ (3 : Int)) (bfa0_7_14_3 : (∀ k, (0 : Int) ≤ (fa0_7_14_3 k).toInt ∧ (fa0_7_14_3 k).toInt ≤ 80)) (bfa0_7_14_2 : (∀ k, (0 : Int) ≤ (fa0_7_14_2 k).toInt ∧ (fa0_7_14_2 k).toInt ≤ 80)) : zm l yX7_windBest wsX7_windBest ({ frames := 5, cells := 0, slots := 0, locals := 122 }) [.ref a0] dC dI sz [(a0, .inr (7, [a0g_0, .ref a0_1, .ref a0_2, a0g_3, a0g_4, a0g_5, a0g_6, .ref a0_7, .int a0_8, a0g_9, a0g_10])), (a0_7, .inr (0, [.int a0_7_0, .int a0_7_1, .int a0_7_2, a0_7g_3, a0_7g_4, .int a0_7_5, .int a0_7_6, a0_7g_7, a0_7g_8, a0_7g_9, .ref a0_7_10, .ref a0_7_11, a0_7g_12, a0_7g_13, .ref a0_7_14])), (a0_2, .inr (5, [.int a0_2_0, .int a0_2_1, .int a0_2_2, .int a0_2_3, .int a0_2_4, .ref a0_2_5, .ref a0_2_6])), (a0_1, .inr (5, [.int a0_1_0, .int a0_1_1, .int a0_1_2, .int a0_1_3, .int a0_1_4, .ref a0_1_5, .ref a0_1_6])), (a0_1_5, .inl (ka0_1_5, 9, .inl (fa0_1_5))), (a0_2_5, .inl (ka0_2_5, 9, .inl (fa0_2_5))), (a0_1_6, .inl (ka0_1_6, 9, .inl (fa0_1_6))), (a0_2_6, .inl (ka0_2_6, 9, .inl (fa0_2_6))), (a0_7_10, .inl (ka0_7_10, 9, .inl (fa0_7_10))), (a0_7_11, .inl (ka0_7_11, 9, .inl (fa0_7_11))), (a0_7_14, .inr (6, [.int a0_7_14_0, .int a0_7_14_1, .ref a0_7_14_2, .ref a0_7_14_3])), (a0_7_14_3, .inl (ka0_7_14_3, 3, .inl (fa0_7_14_3))), (a0_7_14_2, .inl (ka0_7_14_2, 3, .inl (fa0_7_14_2)))] [(ka0_1_5, .int), (ka0_2_5, .int), (ka0_1_6, .int), (ka0_2_6, .int), (ka0_7_10, .int), (ka0_7_11, .int), (ka0_7_14_3, .int), (ka0_7_14_2, .int)] (fun A U => va_Nw (.methodLinkNest RX0 118 yX7_within RX7) U ∧ va_Nw (.methodLinkNest RX5 38 yX7_hasBit RX7) U ∧ va_Nw (.methodLinkNest RX0 129 yX7_hasBit RX7) U) (fun A => va_Qi (fun (r : Int32) (_ : Unit) => (-1 : Int) ≤ r.toInt ∧ r.toInt ≤ (8 : Int)) (fun (_ : Unit) (t : State) => ∃ na0_8 : Int32, ∃ na0_2_0 : Int32, ∃ na0_2_1 : Int32, ∃ na0_2_2 : Int32, ∃ na0_2_3 : Int32, ∃ na0_2_4 : Int32, ∃ nfa0_2_5 : Nat → Int32, ∃ nfa0_2_6 : Nat → Int32, ((0 : Int) ≤ na0_2_1.toInt ∧ na0_2_1.toInt ≤ 8) ∧ ax_B dC dI A [(a0, .inr (7, [a0g_0, .ref a0_1, .ref a0_2, a0g_3, a0g_4, a0g_5, a0g_6, .ref a0_7, .int na0_8, a0g_9, a0g_10])), (a0_7, .inr (0, [.int a0_7_0, .int a0_7_1, .int a0_7_2, a0_7g_3, a0_7g_4, .int a0_7_5, .int a0_7_6, a0_7g_7, a0_7g_8, a0_7g_9, .ref a0_7_10, .ref a0_7_11, a0_7g_12, a0_7g_13, .ref a0_7_14])), (a0_2, .inr (5, [.int na0_2_0, .int na0_2_1, .int na0_2_2, .int na0_2_3, .int na0_2_4, .ref a0_2_5, .ref a0_2_6])), (a0_1, .inr (5, [.int a0_1_0, .int a0_1_1, .int a0_1_2, .int a0_1_3, .int a0_1_4, .ref a0_1_5, .ref a0_1_6])), (a0_1_5, .inl (ka0_1_5, 9, .inl (fa0_1_5))), (a0_2_5, .inl (ka0_2_5, 9, .inl (nfa0_2_5))), (a0_1_6, .inl (ka0_1_6, 9, .inl (fa0_1_6))), (a0_2_6, .inl (ka0_2_6, 9, .inl (nfa0_2_6))), (a0_7_10, .inl (ka0_7_10, 9, .inl (fa0_7_10))), (a0_7_11, .inl (ka0_7_11, 9, .inl (fa0_7_11))), (a0_7_14, .inr (6, [.int a0_7_14_0, .int a0_7_14_1, .ref a0_7_14_2, .ref a0_7_14_3])), (a0_7_14_3, .inl (ka0_7_14_3, 3, .inl (fa0_7_14_3))), (a0_7_14_2, .inl (ka0_7_14_2, 3, .inl (fa0_7_14_2)))] [(ka0_1_5, .int), (ka0_2_5, .int), (ka0_1_6, .int), (ka0_2_6, .int), (ka0_7_10, .int), (ka0_7_11, .int), (ka0_7_14_3, .int), (ka0_7_14_2, .int)] t) A) := by
  refine zh (cc := cX7_windBest) (maxL := 5) (ret := (some .int)) zn_RX7 rfl (Nat.le_of_ble_eq_true rfl) (fun p e s m below meth c A ls hx hb hml hr hts (hown : s.vm.findClass RX7 = some m.cls) hlocks hA hS hP hK hD hE (hl : lv_has ls 5 [(0, .ref a0)]) => ?_)
  obtain ⟨hE0, hE1, hE2⟩ := hE
  refine ai_open (fun K hK0 => ?_)
  refine (hK0 _ _ _).mpr ?_
  refine lv_aload_n hx hb dX7_windBest_0 rfl (lv_at hl 0 rfl) ?_
  refine va_calli (va_runV (As := []) (rest := []) ⟨hx, hb, hml, hown, hts⟩ (c_X7_hasGallery l dC dI s.heap.size a0 a0g_0 (.ref a0_1) (.ref a0_2) a0g_3 a0g_4 a0g_5 a0g_6 (.int a0_8) a0g_9 a0g_10 a0_7 a0_7_0 (.int a0_7_1) (.int a0_7_2) a0_7g_3 a0_7g_4 (.int a0_7_5) (.int a0_7_6) a0_7g_7 a0_7g_8 a0_7g_9 (.ref a0_7_10) (.ref a0_7_11) a0_7g_12 a0_7g_13 (.ref a0_7_14) ba0_7_0_l ba0_7_0_u) (cwV 0 hts gX7_windBest_X7_hasGallery rfl rfl rfl zd_X7_hasGallery ⟨Nat.le_of_ble_eq_true rfl, Nat.le_of_ble_eq_true rfl⟩) ⟨ax_blind (fun _ _ _ _ _ => trivial), zr_7 (zp_K hK) (zp_P2 hP) (q0 := 0) rfl, ax_pre (zp_P2 hP) (zp_K hK) (zp_D2 hD) (fun _ _ => trivial)⟩ rfl rfl hl.1 rfl (lv_room (Nat.le_of_ble_eq_true rfl)) dX7_windBest_1 ⟨Nat.le_of_ble_eq_true rfl, Nat.le_of_ble_eq_true rfl⟩) hS (fun q _ h => zp_F2 hD hS hA q h) (zp_F2 hD hS hA) (fun r1 u t H locs ht hvm hw hB hz1 hk1 hS1 => zo2 hB ht hP hD hk1 (zp_F2 hD hS hA) hS1 (fun hP hK1 hD hS => ?_))
  rcases hw with hw | hw
  · obtain ⟨hw, h1_0, h1_1⟩ := hw
    subst hw
    have l1k0_a0_7_0 : (1 : Int) ≤ a0_7_0.toInt := h1_0
    have u1k0_a0_7_0 : a0_7_0.toInt ≤ (9 : Int) := ba0_7_0_u
    refine lv_if_ne (tgt := 13) hx hb dX7_windBest_4 (by decide) (fun _ => ?_) (fun c4 => absurd c4 (by decide +kernel))
    refine lv_iconst (v := 0) hx hb dX7_windBest_13 zk_iconst_0 ?_
    refine lv_istore_n (lv' := [(1, .int 0), (0, .ref a0)]) hx hb dX7_windBest_14 rfl hl (by decide) rfl (fun ls hl => ?_)
    refine lv_iconst (v := (-1)) hx hb dX7_windBest_15 zk_iconst_n1 ?_
    refine lv_istore_n (lv' := [(2, .int (-1)), (1, .int 0), (0, .ref a0)]) hx hb dX7_windBest_16 rfl hl (by decide) rfl (fun ls hl => ?_)
    refine lv_iconst (v := 0) hx hb dX7_windBest_17 zk_iconst_0 ?_
    refine lv_istore_n (lv' := [(3, .int 0), (2, .int (-1)), (1, .int 0), (0, .ref a0)]) hx hb dX7_windBest_18 rfl hl (by decide) rfl (fun ls hl => ?_)
    have J19 : ∀ (n : Nat) (j19l3 : Int32) (j19l2 : Int32) (j19l1 : Int32) (j19a0_2_0 : Int32) (j19a0_2_1 : Int32) (j19a0_2_2 : Int32) (j19a0_2_3 : Int32) (j19a0_2_4 : Int32) (j19a0_2_5_a : Nat → Int32) (j19a0_2_6_a : Nat → Int32) (H : Heap) (locs : List Loc) (ls : Array Slot), (10 : Int) - j19l3.toInt ≤ (n : Int) → (0 : Int) ≤ j19l3.toInt → j19l3.toInt ≤ (9 : Int) → (-1 : Int) ≤ j19l2.toInt → j19l2.toInt ≤ (301 : Int) → (0 : Int) ≤ j19l1.toInt → j19l1.toInt ≤ (8 : Int) → (0 : Int) ≤ j19a0_2_1.toInt → j19a0_2_1.toInt ≤ (8 : Int) → va_P (dC, dI) vwCl [(a0, .inr (7, [a0g_0, .ref a0_1, .ref a0_2, a0g_3, a0g_4, a0g_5, a0g_6, .ref a0_7, .int a0_8, a0g_9, a0g_10])), (a0_7, .inr (0, [.int a0_7_0, .int a0_7_1, .int a0_7_2, a0_7g_3, a0_7g_4, .int a0_7_5, .int a0_7_6, a0_7g_7, a0_7g_8, a0_7g_9, .ref a0_7_10, .ref a0_7_11, a0_7g_12, a0_7g_13, .ref a0_7_14])), (a0_2, .inr (5, [.int j19a0_2_0, .int j19a0_2_1, .int j19a0_2_2, .int j19a0_2_3, .int j19a0_2_4, .ref a0_2_5, .ref a0_2_6])), (a0_1, .inr (5, [.int a0_1_0, .int a0_1_1, .int a0_1_2, .int a0_1_3, .int a0_1_4, .ref a0_1_5, .ref a0_1_6])), (a0_1_5, .inl (ka0_1_5, 9, .inl (fa0_1_5))), (a0_2_5, .inl (ka0_2_5, 9, .inl (j19a0_2_5_a))), (a0_1_6, .inl (ka0_1_6, 9, .inl (fa0_1_6))), (a0_2_6, .inl (ka0_2_6, 9, .inl (j19a0_2_6_a))), (a0_7_10, .inl (ka0_7_10, 9, .inl (fa0_7_10))), (a0_7_11, .inl (ka0_7_11, 9, .inl (fa0_7_11))), (a0_7_14, .inr (6, [.int a0_7_14_0, .int a0_7_14_1, .ref a0_7_14_2, .ref a0_7_14_3])), (a0_7_14_3, .inl (ka0_7_14_3, 3, .inl (fa0_7_14_3))), (a0_7_14_2, .inl (ka0_7_14_2, 3, .inl (fa0_7_14_2)))] H → va_D A [(a0, .inr (7, [a0g_0, .ref a0_1, .ref a0_2, a0g_3, a0g_4, a0g_5, a0g_6, .ref a0_7, .int a0_8, a0g_9, a0g_10])), (a0_7, .inr (0, [.int a0_7_0, .int a0_7_1, .int a0_7_2, a0_7g_3, a0_7g_4, .int a0_7_5, .int a0_7_6, a0_7g_7, a0_7g_8, a0_7g_9, .ref a0_7_10, .ref a0_7_11, a0_7g_12, a0_7g_13, .ref a0_7_14])), (a0_2, .inr (5, [.int j19a0_2_0, .int j19a0_2_1, .int j19a0_2_2, .int j19a0_2_3, .int j19a0_2_4, .ref a0_2_5, .ref a0_2_6])), (a0_1, .inr (5, [.int a0_1_0, .int a0_1_1, .int a0_1_2, .int a0_1_3, .int a0_1_4, .ref a0_1_5, .ref a0_1_6])), (a0_1_5, .inl (ka0_1_5, 9, .inl (fa0_1_5))), (a0_2_5, .inl (ka0_2_5, 9, .inl (j19a0_2_5_a))), (a0_1_6, .inl (ka0_1_6, 9, .inl (fa0_1_6))), (a0_2_6, .inl (ka0_2_6, 9, .inl (j19a0_2_6_a))), (a0_7_10, .inl (ka0_7_10, 9, .inl (fa0_7_10))), (a0_7_11, .inl (ka0_7_11, 9, .inl (fa0_7_11))), (a0_7_14, .inr (6, [.int a0_7_14_0, .int a0_7_14_1, .ref a0_7_14_2, .ref a0_7_14_3])), (a0_7_14_3, .inl (ka0_7_14_3, 3, .inl (fa0_7_14_3))), (a0_7_14_2, .inl (ka0_7_14_2, 3, .inl (fa0_7_14_2)))] → va_S A s.heap H locs → lv_has ls 5 [(0, .ref a0), (1, .int j19l1), (2, .int j19l2), (3, .int j19l3)] → K H locs (F0 m 19 ls []) := by
      intro n
      induction n with
      | zero =>
        intro j19l3 j19l2 j19l1 j19a0_2_0 j19a0_2_1 j19a0_2_2 j19a0_2_3 j19a0_2_4 j19a0_2_5_a j19a0_2_6_a H locs ls hm bj19l3_l bj19l3_u bj19l2_l bj19l2_u bj19l1_l bj19l1_u bj19a0_2_1_l bj19a0_2_1_u hP hD hS hl
        have h8 := ai_min j19l3
        have h9 := ai_max j19l3
        exact absurd hm (by omega)
      | succ n ih19 =>
        intro j19l3 j19l2 j19l1 j19a0_2_0 j19a0_2_1 j19a0_2_2 j19a0_2_3 j19a0_2_4 j19a0_2_5_a j19a0_2_6_a H locs ls hm bj19l3_l bj19l3_u bj19l2_l bj19l2_u bj19l1_l bj19l1_u bj19a0_2_1_l bj19a0_2_1_u hP hD hS hl
        refine (hK0 _ _ _).mpr ?_
        have hm19 := hm
        refine lv_iload_n hx hb dX7_windBest_19 rfl (lv_at hl 3 rfl) ?_
        refine lv_aload_n hx hb dX7_windBest_20 rfl (lv_at hl 0 rfl) ?_
        refine va_get (D := (dC, dI)) (ci := 7) (v := .ref a0_7) (C := RX7) (T := TX7) (N := 11) hx hb hts zi_X7_windBest_7 hown hK hP 0 rfl rfl 7 (by decide) (hts (.fieldLink RX7 57 "WaxTurns" "hall" "LWaxTurns$Hall;") (zm_X7_windBest_r1 (List.mem_of_getElem? (i := 0) rfl))) (fun _ h9 => h9) rfl dX7_windBest_21 ?_
        refine va_get (D := (dC, dI)) (ci := 0) (v := .int a0_7_0) (C := RX0) (T := TX0) (N := 15) hx hb hts zi_X7_windBest_0 hown hK hP 1 rfl rfl 0 (by decide) (hts (.fieldLink RX7 110 "WaxTurns$Hall" "figures" "I") (zm_X7_windBest_r1 (List.mem_of_getElem? (i := 1) rfl))) (fun _ h9 => h9) rfl dX7_windBest_24 ?_
        refine lv_icmp_ge (tgt := 94) hx hb dX7_windBest_27 (by decide) (fun c27 => ?_) (fun c27 => ?_)
        · have gc27 := ai_le c27
          have u27t_a0_7_0 : a0_7_0.toInt ≤ (9 : Int) := u1k0_a0_7_0
          have l27t_j19l3 : (1 : Int) ≤ j19l3.toInt := Int.le_trans l1k0_a0_7_0 gc27
          refine lv_aload_n hx hb dX7_windBest_94 rfl (lv_at hl 0 rfl) ?_
          refine lv_iload_n hx hb dX7_windBest_95 rfl (lv_at hl 1 rfl) ?_
          refine va_calli (va_runV (As := [.int j19l1]) (rest := []) ⟨hx, hb, hml, hown, hts⟩ (c_X7_answered l dC dI H.size a0 j19l1 a0g_0 (.ref a0_1) (.ref a0_2) a0g_3 a0g_4 a0g_5 a0g_6 (.ref a0_7) a0g_9 a0g_10 a0_8 ) (cwV 1 hts gX7_windBest_X7_answered rfl rfl rfl zd_X7_answered ⟨Nat.le_of_ble_eq_true rfl, Nat.le_of_ble_eq_true rfl⟩) ⟨ax_blind (fun _ _ _ _ _ => trivial), zr_7 (zp_K hK) (zp_P1 hP) (q0 := 0) rfl, ax_pre (zp_P1 hP) (zp_K hK) (zp_D1 hD) (fun _ _ => trivial)⟩ rfl rfl hl.1 rfl (lv_room (Nat.le_of_ble_eq_true rfl)) dX7_windBest_96 ⟨Nat.le_of_ble_eq_true rfl, Nat.le_of_ble_eq_true rfl⟩) hS (fun q _ h => zp_F1 hD hS hA q h) (zp_F1 hD hS hA) (fun r96 u t H locs ht hvm hw hB hz1 hk1 hS1 => zx_1 hB (fun v96na0_8 hB => zo1 hB ht hP hD hk1 (zp_F1 hD hS hA) hS1 (fun hP hK1 hD hS => ?_)))
          have hw : r96 = j19l1 := hw
          have hw := hw.symm
          subst hw
          exact W.iret (v := j19l1) hx hb hr (fun t ht hW => ⟨⟨j19l1, (), rfl, ⟨(Int.le_trans zq69 bj19l1_l), bj19l1_u⟩, v96na0_8, j19a0_2_0, j19a0_2_1, j19a0_2_2, j19a0_2_3, j19a0_2_4, j19a0_2_5_a, j19a0_2_6_a, ⟨bj19a0_2_1_l, bj19a0_2_1_u⟩, by rw [ht]; exact hP, va_K.moved hW.alike hK, hD⟩, hS.F ht⟩) hS.2.2 dX7_windBest_99
        · have gc27 := ai_nle c27
          have u27f_j19l3 : j19l3.toInt ≤ (8 : Int) := ai_lthi gc27 u1k0_a0_7_0
          have l27f_a0_7_0 : (1 : Int) ≤ a0_7_0.toInt := l1k0_a0_7_0
          refine lv_aload_n hx hb dX7_windBest_30 rfl (lv_at hl 0 rfl) ?_
          refine va_get (D := (dC, dI)) (ci := 7) (v := .ref a0_2) (C := RX7) (T := TX7) (N := 11) hx hb hts zi_X7_windBest_7 hown hK hP 0 rfl rfl 2 (by decide) (hts (.fieldLink RX7 23 "WaxTurns" "ahead" "LWaxTurns$Scene;") (zm_X7_windBest_r1 (List.mem_of_getElem? (i := 2) rfl))) (fun _ h9 => h9) rfl dX7_windBest_31 ?_
          refine lv_aload_n hx hb dX7_windBest_34 rfl (lv_at hl 0 rfl) ?_
          refine va_get (D := (dC, dI)) (ci := 7) (v := .ref a0_1) (C := RX7) (T := TX7) (N := 11) hx hb hts zi_X7_windBest_7 hown hK hP 0 rfl rfl 1 (by decide) (hts (.fieldLink RX7 19 "WaxTurns" "now" "LWaxTurns$Scene;") (zm_X7_windBest_r1 (List.mem_of_getElem? (i := 3) rfl))) (fun _ h9 => h9) rfl dX7_windBest_35 ?_
          refine zc_cutc (wc := [(a0_2, .inr (5, [.int j19a0_2_0, .int j19a0_2_1, .int j19a0_2_2, .int j19a0_2_3, .int j19a0_2_4, .ref a0_2_5, .ref a0_2_6])), (a0_1, .inr (5, [.int a0_1_0, .int a0_1_1, .int a0_1_2, .int a0_1_3, .int a0_1_4, .ref a0_1_5, .ref a0_1_6])), (a0_1_5, .inl (ka0_1_5, 9, .inl (fa0_1_5))), (a0_2_5, .inl (ka0_2_5, 9, .inl (j19a0_2_5_a))), (a0_1_6, .inl (ka0_1_6, 9, .inl (fa0_1_6))), (a0_2_6, .inl (ka0_2_6, 9, .inl (j19a0_2_6_a)))]) hP hD hS hA [2, 3, 4, 5, 6, 7] (by decide +kernel) rfl (fun hPc hDc hFc hCc => ?_)
          have hKc := hK.sub (tys' := [(ka0_1_5, .int), (ka0_2_5, .int), (ka0_1_6, .int), (ka0_2_6, .int)]) [0, 1, 2, 3] rfl
          refine va_callv (va_runV (As := [.ref a0_1]) (rest := []) ⟨hx, hb, hml, hown, hts⟩ (c_X5_copyFrom l dC dI H.size a0_2 a0_1 j19a0_2_0 j19a0_2_1 j19a0_2_2 j19a0_2_3 j19a0_2_4 a0_2_5 a0_2_6 a0_1_0 a0_1_1 a0_1_2 a0_1_3 a0_1_4 a0_1_5 a0_1_6 ka0_1_5 fa0_1_5 ka0_2_5 j19a0_2_5_a ka0_1_6 fa0_1_6 ka0_2_6 j19a0_2_6_a bj19a0_2_1_l bj19a0_2_1_u ba0_1_1_l ba0_1_1_u) (cwV 1 hts gX7_windBest_X5_copyFrom rfl rfl rfl zd_X5_copyFrom ⟨Nat.le_of_ble_eq_true rfl, Nat.le_of_ble_eq_true rfl⟩) ⟨ax_blind (fun _ _ _ _ _ => trivial), zr_5 hKc hPc (q0 := 0) rfl, ax_pre hPc hKc hDc (fun _ _ => trivial)⟩ rfl rfl hl.1 rfl (lv_room (Nat.le_of_ble_eq_true rfl)) dX7_windBest_38 ⟨Nat.le_of_ble_eq_true rfl, Nat.le_of_ble_eq_true rfl⟩) hS (fun q _ h => hFc q h) hFc (fun u t H locs ht hvm hw hB hz1 hk1 hS => zx_7 hB (fun v38na0_0 v38na0_1 v38na0_2 v38na0_3 v38na0_4 v38nfa0_5 v38nfa0_6 hB => zy_1 hB (fun bv38na0_1 hB => zo hB ht (fun hP1 hK1 hD1 => ?_))))
          refine zc_backc (w := [(a0, .inr (7, [a0g_0, .ref a0_1, .ref a0_2, a0g_3, a0g_4, a0g_5, a0g_6, .ref a0_7, .int a0_8, a0g_9, a0g_10])), (a0_7, .inr (0, [.int a0_7_0, .int a0_7_1, .int a0_7_2, a0_7g_3, a0_7g_4, .int a0_7_5, .int a0_7_6, a0_7g_7, a0_7g_8, a0_7g_9, .ref a0_7_10, .ref a0_7_11, a0_7g_12, a0_7g_13, .ref a0_7_14])), (a0_2, .inr (5, [.int v38na0_0, .int v38na0_1, .int v38na0_2, .int v38na0_3, .int v38na0_4, .ref a0_2_5, .ref a0_2_6])), (a0_1, .inr (5, [.int a0_1_0, .int a0_1_1, .int a0_1_2, .int a0_1_3, .int a0_1_4, .ref a0_1_5, .ref a0_1_6])), (a0_1_5, .inl (ka0_1_5, 9, .inl (fa0_1_5))), (a0_2_5, .inl (ka0_2_5, 9, .inl (v38nfa0_5))), (a0_1_6, .inl (ka0_1_6, 9, .inl (fa0_1_6))), (a0_2_6, .inl (ka0_2_6, 9, .inl (v38nfa0_6))), (a0_7_10, .inl (ka0_7_10, 9, .inl (fa0_7_10))), (a0_7_11, .inl (ka0_7_11, 9, .inl (fa0_7_11))), (a0_7_14, .inr (6, [.int a0_7_14_0, .int a0_7_14_1, .ref a0_7_14_2, .ref a0_7_14_3])), (a0_7_14_3, .inl (ka0_7_14_3, 3, .inl (fa0_7_14_3))), (a0_7_14_2, .inl (ka0_7_14_2, 3, .inl (fa0_7_14_2)))]) hP hD hCc hk1 hFc hP1 hD1 [.inl 0, .inl 1, .inr 0, .inr 1, .inr 2, .inr 3, .inr 4, .inr 5, .inl 8, .inl 9, .inl 10, .inl 11, .inl 12] (by decide +kernel) rfl (fun hP hD => ?_)
          refine lv_aload_n hx hb dX7_windBest_41 rfl (lv_at hl 0 rfl) ?_
          refine va_get (D := (dC, dI)) (ci := 7) (v := .ref a0_2) (C := RX7) (T := TX7) (N := 11) hx hb hts zi_X7_windBest_7 hown hK hP 0 rfl rfl 2 (by decide) (hts (.fieldLink RX7 23 "WaxTurns" "ahead" "LWaxTurns$Scene;") (zm_X7_windBest_r1 (List.mem_of_getElem? (i := 2) rfl))) (fun _ h9 => h9) rfl dX7_windBest_42 ?_
          refine lv_iload_n hx hb dX7_windBest_45 rfl (lv_at hl 3 rfl) ?_
          refine zc_cutc (wc := [(a0_2, .inr (5, [.int v38na0_0, .int v38na0_1, .int v38na0_2, .int v38na0_3, .int v38na0_4, .ref a0_2_5, .ref a0_2_6]))]) hP hD hS hA [2] (by decide +kernel) rfl (fun hPc hDc hFc hCc => ?_)
          have hKc := zp_K hK
          refine va_callv (va_runV (As := [.int j19l3]) (rest := []) ⟨hx, hb, hml, hown, hts⟩ (c_X5_startTurn l dC dI H.size a0_2 j19l3 (.int v38na0_0) (.int v38na0_3) (.int v38na0_4) (.ref a0_2_5) (.ref a0_2_6) v38na0_1 v38na0_2 bj19l3_l u27f_j19l3 bv38na0_1.1 bv38na0_1.2) (cwV 1 hts gX7_windBest_X5_startTurn rfl rfl rfl zd_X5_startTurn ⟨Nat.le_of_ble_eq_true rfl, Nat.le_of_ble_eq_true rfl⟩) ⟨ax_blind (fun _ _ _ _ _ => trivial), zr_5 hKc hPc (q0 := 0) rfl, ax_pre hPc hKc hDc (fun _ _ => trivial)⟩ rfl rfl hl.1 rfl (lv_room (Nat.le_of_ble_eq_true rfl)) dX7_windBest_46 ⟨Nat.le_of_ble_eq_true rfl, Nat.le_of_ble_eq_true rfl⟩) hS (fun q _ h => hFc q h) hFc (fun u t H locs ht hvm hw hB hz1 hk1 hS => zx_2 hB (fun v46na0_1 v46na0_2 hB => zy_1 hB (fun bv46na0_1 hB => zo hB ht (fun hP1 hK1 hD1 => ?_))))
          refine zc_backc (w := [(a0, .inr (7, [a0g_0, .ref a0_1, .ref a0_2, a0g_3, a0g_4, a0g_5, a0g_6, .ref a0_7, .int a0_8, a0g_9, a0g_10])), (a0_7, .inr (0, [.int a0_7_0, .int a0_7_1, .int a0_7_2, a0_7g_3, a0_7g_4, .int a0_7_5, .int a0_7_6, a0_7g_7, a0_7g_8, a0_7g_9, .ref a0_7_10, .ref a0_7_11, a0_7g_12, a0_7g_13, .ref a0_7_14])), (a0_2, .inr (5, [.int v38na0_0, .int v46na0_1, .int v46na0_2, .int v38na0_3, .int v38na0_4, .ref a0_2_5, .ref a0_2_6])), (a0_1, .inr (5, [.int a0_1_0, .int a0_1_1, .int a0_1_2, .int a0_1_3, .int a0_1_4, .ref a0_1_5, .ref a0_1_6])), (a0_1_5, .inl (ka0_1_5, 9, .inl (fa0_1_5))), (a0_2_5, .inl (ka0_2_5, 9, .inl (v38nfa0_5))), (a0_1_6, .inl (ka0_1_6, 9, .inl (fa0_1_6))), (a0_2_6, .inl (ka0_2_6, 9, .inl (v38nfa0_6))), (a0_7_10, .inl (ka0_7_10, 9, .inl (fa0_7_10))), (a0_7_11, .inl (ka0_7_11, 9, .inl (fa0_7_11))), (a0_7_14, .inr (6, [.int a0_7_14_0, .int a0_7_14_1, .ref a0_7_14_2, .ref a0_7_14_3])), (a0_7_14_3, .inl (ka0_7_14_3, 3, .inl (fa0_7_14_3))), (a0_7_14_2, .inl (ka0_7_14_2, 3, .inl (fa0_7_14_2)))]) hP hD hCc hk1 hFc hP1 hD1 [.inl 0, .inl 1, .inr 0, .inl 3, .inl 4, .inl 5, .inl 6, .inl 7, .inl 8, .inl 9, .inl 10, .inl 11, .inl 12] (by decide +kernel) rfl (fun hP hD => ?_)
          refine lv_aload_n hx hb dX7_windBest_49 rfl (lv_at hl 0 rfl) ?_
          refine lv_aload_n hx hb dX7_windBest_50 rfl (lv_at hl 0 rfl) ?_
          refine va_get (D := (dC, dI)) (ci := 7) (v := .ref a0_7) (C := RX7) (T := TX7) (N := 11) hx hb hts zi_X7_windBest_7 hown hK hP 0 rfl rfl 7 (by decide) (hts (.fieldLink RX7 57 "WaxTurns" "hall" "LWaxTurns$Hall;") (zm_X7_windBest_r1 (List.mem_of_getElem? (i := 0) rfl))) (fun _ h9 => h9) rfl dX7_windBest_51 ?_
          refine va_get (D := (dC, dI)) (ci := 0) (v := .ref a0_7_14) (C := RX0) (T := TX0) (N := 15) hx hb hts zi_X7_windBest_0 hown hK hP 1 rfl rfl 14 (by decide) (hts (.fieldLink RX7 138 "WaxTurns$Hall" "watchers" "LWaxTurns$Watchers;") (zm_X7_windBest_r1 (List.mem_of_getElem? (i := 4) rfl))) (fun _ h9 => h9) rfl dX7_windBest_54 ?_
          refine lv_sipush (v := 300) hx hb dX7_windBest_57 zk_sipush_300 ?_
          refine zc_cutc (wc := [(a0, .inr (7, [a0g_0, .ref a0_1, .ref a0_2, a0g_3, a0g_4, a0g_5, a0g_6, .ref a0_7, .int a0_8, a0g_9, a0g_10])), (a0_2, .inr (5, [.int v38na0_0, .int v46na0_1, .int v46na0_2, .int v38na0_3, .int v38na0_4, .ref a0_2_5, .ref a0_2_6])), (a0_7, .inr (0, [.int a0_7_0, .int a0_7_1, .int a0_7_2, a0_7g_3, a0_7g_4, .int a0_7_5, .int a0_7_6, a0_7g_7, a0_7g_8, a0_7g_9, .ref a0_7_10, .ref a0_7_11, a0_7g_12, a0_7g_13, .ref a0_7_14])), (a0_7_10, .inl (ka0_7_10, 9, .inl (fa0_7_10))), (a0_7_11, .inl (ka0_7_11, 9, .inl (fa0_7_11))), (a0_2_5, .inl (ka0_2_5, 9, .inl (v38nfa0_5))), (a0_7_14, .inr (6, [.int a0_7_14_0, .int a0_7_14_1, .ref a0_7_14_2, .ref a0_7_14_3])), (a0_7_14_3, .inl (ka0_7_14_3, 3, .inl (fa0_7_14_3))), (a0_7_14_2, .inl (ka0_7_14_2, 3, .inl (fa0_7_14_2))), (a0_2_6, .inl (ka0_2_6, 9, .inl (v38nfa0_6)))]) hP hD hS hA [0, 2, 1, 8, 9, 5, 10, 11, 12, 7] (by decide +kernel) rfl (fun hPc hDc hFc hCc => ?_)
          have hKc := hK.sub (tys' := [(ka0_7_10, .int), (ka0_7_11, .int), (ka0_2_5, .int), (ka0_7_14_3, .int), (ka0_7_14_2, .int), (ka0_2_6, .int)]) [4, 5, 1, 6, 7, 3] rfl
          refine va_calli (va_runV (As := [.ref a0_7_14, .int 300]) (rest := []) ⟨hx, hb, hml, hown, hts⟩ (c_X7_minutesTillGone l dC dI H.size a0 a0_7_14 300 a0g_0 (.ref a0_1) a0g_3 a0g_4 a0g_5 a0g_6 (.int a0_8) a0g_9 a0g_10 a0_2 a0_7 v38na0_0 v46na0_1 v46na0_2 v38na0_3 v38na0_4 a0_2_5 a0_2_6 a0_7_0 a0_7_1 a0_7_2 a0_7g_3 a0_7g_4 a0_7g_7 a0_7g_8 a0_7g_9 a0_7g_12 a0_7g_13 (.ref a0_7_14) a0_7_5 a0_7_6 a0_7_10 a0_7_11 ka0_7_10 fa0_7_10 ka0_7_11 fa0_7_11 ka0_2_5 v38nfa0_5 a0_7_14_0 a0_7_14_1 a0_7_14_2 a0_7_14_3 ka0_7_14_3 fa0_7_14_3 ka0_7_14_2 fa0_7_14_2 ka0_2_6 v38nfa0_6 (Int.le_trans zq83 zq84) zq82 bv46na0_1.1 bv46na0_1.2 (Int.le_trans zq4 l27f_a0_7_0) u1k0_a0_7_0 ba0_7_5_l ba0_7_5_u ba0_7_6_l ba0_7_6_u ba0_7_14_0_l ba0_7_14_0_u bfa0_7_14_3 bfa0_7_14_2) (cwV 2 hts gX7_windBest_X7_minutesTillGone rfl rfl rfl zd_X7_minutesTillGone ⟨Nat.le_of_ble_eq_true rfl, Nat.le_of_ble_eq_true rfl⟩) ⟨ax_blind (fun _ _ _ _ hq => ⟨va_Nw.same rfl rfl (hq.1), va_Nw.same rfl rfl (hq.2.1), va_Nw.same rfl rfl (hq.2.2)⟩), zr_7 hKc hPc (q0 := 0) rfl, ax_pre hPc hKc hDc (fun _ hW => ⟨va_Nw.warmM hW hE0, va_Nw.warmM hW hE1, va_Nw.warmM hW hE2⟩)⟩ rfl rfl hl.1 rfl (lv_room (Nat.le_of_ble_eq_true rfl)) dX7_windBest_60 ⟨Nat.le_of_ble_eq_true rfl, Nat.le_of_ble_eq_true rfl⟩) hS (fun q _ h => hFc q h) hFc (fun r60 u t H locs ht hvm hw hB hz1 hk1 hS => zx_7 hB (fun v60na0_2_0 v60na0_2_1 v60na0_2_2 v60na0_2_3 v60na0_2_4 v60nfa0_2_5 v60nfa0_2_6 hB => zy_1 hB (fun bv60na0_2_1 hB => zo hB ht (fun hP1 hK1 hD1 => ?_))))
          refine zc_backc (w := [(a0, .inr (7, [a0g_0, .ref a0_1, .ref a0_2, a0g_3, a0g_4, a0g_5, a0g_6, .ref a0_7, .int a0_8, a0g_9, a0g_10])), (a0_7, .inr (0, [.int a0_7_0, .int a0_7_1, .int a0_7_2, a0_7g_3, a0_7g_4, .int a0_7_5, .int a0_7_6, a0_7g_7, a0_7g_8, a0_7g_9, .ref a0_7_10, .ref a0_7_11, a0_7g_12, a0_7g_13, .ref a0_7_14])), (a0_2, .inr (5, [.int v60na0_2_0, .int v60na0_2_1, .int v60na0_2_2, .int v60na0_2_3, .int v60na0_2_4, .ref a0_2_5, .ref a0_2_6])), (a0_1, .inr (5, [.int a0_1_0, .int a0_1_1, .int a0_1_2, .int a0_1_3, .int a0_1_4, .ref a0_1_5, .ref a0_1_6])), (a0_1_5, .inl (ka0_1_5, 9, .inl (fa0_1_5))), (a0_2_5, .inl (ka0_2_5, 9, .inl (v60nfa0_2_5))), (a0_1_6, .inl (ka0_1_6, 9, .inl (fa0_1_6))), (a0_2_6, .inl (ka0_2_6, 9, .inl (v60nfa0_2_6))), (a0_7_10, .inl (ka0_7_10, 9, .inl (fa0_7_10))), (a0_7_11, .inl (ka0_7_11, 9, .inl (fa0_7_11))), (a0_7_14, .inr (6, [.int a0_7_14_0, .int a0_7_14_1, .ref a0_7_14_2, .ref a0_7_14_3])), (a0_7_14_3, .inl (ka0_7_14_3, 3, .inl (fa0_7_14_3))), (a0_7_14_2, .inl (ka0_7_14_2, 3, .inl (fa0_7_14_2)))]) hP hD hCc hk1 hFc hP1 hD1 [.inr 0, .inr 2, .inr 1, .inl 3, .inl 4, .inr 5, .inl 6, .inr 9, .inr 3, .inr 4, .inr 6, .inr 7, .inr 8] (by decide +kernel) rfl (fun hP hD => ?_)
          have hw : (-2 : Int) ≤ r60.toInt ∧ r60.toInt ≤ (300 : Int) := hw
          obtain ⟨h60_0, h60_1⟩ := hw
          refine lv_istore (lv' := [(4, .int r60), (0, .ref a0), (1, .int j19l1), (2, .int j19l2), (3, .int j19l3)]) hx hb dX7_windBest_63 hl (by decide) rfl (fun ls hl => ?_)
          refine lv_iload hx hb dX7_windBest_65 (lv_at hl 0 rfl) ?_
          refine lv_bipush (v := (-2)) hx hb dX7_windBest_67 zk_bipush_n2 ?_
          have J77 : ∀ (j77l4 : Int32) (H : Heap) (locs : List Loc) (ls : Array Slot), (-1 : Int) ≤ j77l4.toInt → j77l4.toInt ≤ (301 : Int) → va_P (dC, dI) vwCl [(a0, .inr (7, [a0g_0, .ref a0_1, .ref a0_2, a0g_3, a0g_4, a0g_5, a0g_6, .ref a0_7, .int a0_8, a0g_9, a0g_10])), (a0_7, .inr (0, [.int a0_7_0, .int a0_7_1, .int a0_7_2, a0_7g_3, a0_7g_4, .int a0_7_5, .int a0_7_6, a0_7g_7, a0_7g_8, a0_7g_9, .ref a0_7_10, .ref a0_7_11, a0_7g_12, a0_7g_13, .ref a0_7_14])), (a0_2, .inr (5, [.int v60na0_2_0, .int v60na0_2_1, .int v60na0_2_2, .int v60na0_2_3, .int v60na0_2_4, .ref a0_2_5, .ref a0_2_6])), (a0_1, .inr (5, [.int a0_1_0, .int a0_1_1, .int a0_1_2, .int a0_1_3, .int a0_1_4, .ref a0_1_5, .ref a0_1_6])), (a0_1_5, .inl (ka0_1_5, 9, .inl (fa0_1_5))), (a0_2_5, .inl (ka0_2_5, 9, .inl (v60nfa0_2_5))), (a0_1_6, .inl (ka0_1_6, 9, .inl (fa0_1_6))), (a0_2_6, .inl (ka0_2_6, 9, .inl (v60nfa0_2_6))), (a0_7_10, .inl (ka0_7_10, 9, .inl (fa0_7_10))), (a0_7_11, .inl (ka0_7_11, 9, .inl (fa0_7_11))), (a0_7_14, .inr (6, [.int a0_7_14_0, .int a0_7_14_1, .ref a0_7_14_2, .ref a0_7_14_3])), (a0_7_14_3, .inl (ka0_7_14_3, 3, .inl (fa0_7_14_3))), (a0_7_14_2, .inl (ka0_7_14_2, 3, .inl (fa0_7_14_2)))] H → va_D A [(a0, .inr (7, [a0g_0, .ref a0_1, .ref a0_2, a0g_3, a0g_4, a0g_5, a0g_6, .ref a0_7, .int a0_8, a0g_9, a0g_10])), (a0_7, .inr (0, [.int a0_7_0, .int a0_7_1, .int a0_7_2, a0_7g_3, a0_7g_4, .int a0_7_5, .int a0_7_6, a0_7g_7, a0_7g_8, a0_7g_9, .ref a0_7_10, .ref a0_7_11, a0_7g_12, a0_7g_13, .ref a0_7_14])), (a0_2, .inr (5, [.int v60na0_2_0, .int v60na0_2_1, .int v60na0_2_2, .int v60na0_2_3, .int v60na0_2_4, .ref a0_2_5, .ref a0_2_6])), (a0_1, .inr (5, [.int a0_1_0, .int a0_1_1, .int a0_1_2, .int a0_1_3, .int a0_1_4, .ref a0_1_5, .ref a0_1_6])), (a0_1_5, .inl (ka0_1_5, 9, .inl (fa0_1_5))), (a0_2_5, .inl (ka0_2_5, 9, .inl (v60nfa0_2_5))), (a0_1_6, .inl (ka0_1_6, 9, .inl (fa0_1_6))), (a0_2_6, .inl (ka0_2_6, 9, .inl (v60nfa0_2_6))), (a0_7_10, .inl (ka0_7_10, 9, .inl (fa0_7_10))), (a0_7_11, .inl (ka0_7_11, 9, .inl (fa0_7_11))), (a0_7_14, .inr (6, [.int a0_7_14_0, .int a0_7_14_1, .ref a0_7_14_2, .ref a0_7_14_3])), (a0_7_14_3, .inl (ka0_7_14_3, 3, .inl (fa0_7_14_3))), (a0_7_14_2, .inl (ka0_7_14_2, 3, .inl (fa0_7_14_2)))] → va_S A s.heap H locs → lv_has ls 5 [(0, .ref a0), (1, .int j19l1), (2, .int j19l2), (3, .int j19l3), (4, .int j77l4)] → K H locs (F0 m 77 ls []) := by
            intro j77l4 H locs ls  bj77l4_l bj77l4_u hP hD hS hl
            refine (hK0 _ _ _).mpr ?_
            refine lv_iload hx hb dX7_windBest_77 (lv_at hl 4 rfl) ?_
            refine lv_iload_n hx hb dX7_windBest_79 rfl (lv_at hl 2 rfl) ?_
            have J88 : ∀ (j88l1 : Int32) (j88l2 : Int32) (H : Heap) (locs : List Loc) (ls : Array Slot), (0 : Int) ≤ j88l1.toInt → j88l1.toInt ≤ (8 : Int) → (-1 : Int) ≤ j88l2.toInt → j88l2.toInt ≤ (301 : Int) → va_P (dC, dI) vwCl [(a0, .inr (7, [a0g_0, .ref a0_1, .ref a0_2, a0g_3, a0g_4, a0g_5, a0g_6, .ref a0_7, .int a0_8, a0g_9, a0g_10])), (a0_7, .inr (0, [.int a0_7_0, .int a0_7_1, .int a0_7_2, a0_7g_3, a0_7g_4, .int a0_7_5, .int a0_7_6, a0_7g_7, a0_7g_8, a0_7g_9, .ref a0_7_10, .ref a0_7_11, a0_7g_12, a0_7g_13, .ref a0_7_14])), (a0_2, .inr (5, [.int v60na0_2_0, .int v60na0_2_1, .int v60na0_2_2, .int v60na0_2_3, .int v60na0_2_4, .ref a0_2_5, .ref a0_2_6])), (a0_1, .inr (5, [.int a0_1_0, .int a0_1_1, .int a0_1_2, .int a0_1_3, .int a0_1_4, .ref a0_1_5, .ref a0_1_6])), (a0_1_5, .inl (ka0_1_5, 9, .inl (fa0_1_5))), (a0_2_5, .inl (ka0_2_5, 9, .inl (v60nfa0_2_5))), (a0_1_6, .inl (ka0_1_6, 9, .inl (fa0_1_6))), (a0_2_6, .inl (ka0_2_6, 9, .inl (v60nfa0_2_6))), (a0_7_10, .inl (ka0_7_10, 9, .inl (fa0_7_10))), (a0_7_11, .inl (ka0_7_11, 9, .inl (fa0_7_11))), (a0_7_14, .inr (6, [.int a0_7_14_0, .int a0_7_14_1, .ref a0_7_14_2, .ref a0_7_14_3])), (a0_7_14_3, .inl (ka0_7_14_3, 3, .inl (fa0_7_14_3))), (a0_7_14_2, .inl (ka0_7_14_2, 3, .inl (fa0_7_14_2)))] H → va_D A [(a0, .inr (7, [a0g_0, .ref a0_1, .ref a0_2, a0g_3, a0g_4, a0g_5, a0g_6, .ref a0_7, .int a0_8, a0g_9, a0g_10])), (a0_7, .inr (0, [.int a0_7_0, .int a0_7_1, .int a0_7_2, a0_7g_3, a0_7g_4, .int a0_7_5, .int a0_7_6, a0_7g_7, a0_7g_8, a0_7g_9, .ref a0_7_10, .ref a0_7_11, a0_7g_12, a0_7g_13, .ref a0_7_14])), (a0_2, .inr (5, [.int v60na0_2_0, .int v60na0_2_1, .int v60na0_2_2, .int v60na0_2_3, .int v60na0_2_4, .ref a0_2_5, .ref a0_2_6])), (a0_1, .inr (5, [.int a0_1_0, .int a0_1_1, .int a0_1_2, .int a0_1_3, .int a0_1_4, .ref a0_1_5, .ref a0_1_6])), (a0_1_5, .inl (ka0_1_5, 9, .inl (fa0_1_5))), (a0_2_5, .inl (ka0_2_5, 9, .inl (v60nfa0_2_5))), (a0_1_6, .inl (ka0_1_6, 9, .inl (fa0_1_6))), (a0_2_6, .inl (ka0_2_6, 9, .inl (v60nfa0_2_6))), (a0_7_10, .inl (ka0_7_10, 9, .inl (fa0_7_10))), (a0_7_11, .inl (ka0_7_11, 9, .inl (fa0_7_11))), (a0_7_14, .inr (6, [.int a0_7_14_0, .int a0_7_14_1, .ref a0_7_14_2, .ref a0_7_14_3])), (a0_7_14_3, .inl (ka0_7_14_3, 3, .inl (fa0_7_14_3))), (a0_7_14_2, .inl (ka0_7_14_2, 3, .inl (fa0_7_14_2)))] → va_S A s.heap H locs → lv_has ls 5 [(0, .ref a0), (1, .int j88l1), (2, .int j88l2), (3, .int j19l3)] → K H locs (F0 m 88 ls []) := by
              intro j88l1 j88l2 H locs ls  bj88l1_l bj88l1_u bj88l2_l bj88l2_u hP hD hS hl
              refine (hK0 _ _ _).mpr ?_
              obtain ⟨x88, ex88⟩ : ∃ y : Int32, y = j19l3 + Int32.ofInt 1 := ⟨_, rfl⟩
              have qx88 : x88.toInt = j19l3.toInt + 1 := ai_inc ex88 (by decide) (by decide) u27f_j19l3 (by decide)
              have bx88 : (1 : Int) ≤ x88.toInt ∧ x88.toInt ≤ 9 := ⟨by rw [qx88]; exact Int.add_le_add bj19l3_l (Int.le_refl _), by rw [qx88]; exact Int.add_le_add u27f_j19l3 (Int.le_refl _)⟩
              refine lv_iinc (v := x88) (lv' := [(3, .int x88), (0, .ref a0), (1, .int j88l1), (2, .int j88l2)]) hx hb dX7_windBest_88 hl (k := 3) rfl ex88.symm (by decide) rfl (fun ls hl => ?_)
              refine lv_goto (tgt := 19) hx hb dX7_windBest_91 (by decide) ?_
              exact (hK0 _ _ _).mp (ih19 x88 j88l2 j88l1 v60na0_2_0 v60na0_2_1 v60na0_2_2 v60na0_2_3 v60na0_2_4 v60nfa0_2_5 v60nfa0_2_6 _ _ _ (by have h0 := qx88; omega) (Int.le_trans zq4 bx88.1) bx88.2 bj88l2_l bj88l2_u bj88l1_l bj88l1_u bv60na0_2_1.1 bv60na0_2_1.2 hP hD hS (lv_sub hl [1, 2, 3, 0] rfl))
            refine lv_icmp_le (tgt := 88) hx hb dX7_windBest_80 (by decide) (fun c80 => ?_) (fun c80 => ?_)
            · have gc80 := ai_le c80
              have u80t_j77l4 : j77l4.toInt ≤ (301 : Int) := bj77l4_u
              have l80t_j19l2 : (-1 : Int) ≤ j19l2.toInt := bj19l2_l
              exact (hK0 _ _ _).mp (J88 j19l1 j19l2 _ _ _  bj19l1_l bj19l1_u l80t_j19l2 bj19l2_u hP hD hS (lv_sub hl [0, 1, 2, 3] rfl))
            · have gc80 := ai_nle c80
              have u80f_j19l2 : j19l2.toInt ≤ (300 : Int) := ai_lthi gc80 bj77l4_u
              have l80f_j77l4 : (0 : Int) ≤ j77l4.toInt := ai_ltlo gc80 bj19l2_l
              refine lv_iload hx hb dX7_windBest_83 (lv_at hl 4 rfl) ?_
              refine lv_istore_n (lv' := [(2, .int j77l4), (0, .ref a0), (1, .int j19l1), (3, .int j19l3), (4, .int j77l4)]) hx hb dX7_windBest_85 rfl hl (by decide) rfl (fun ls hl => ?_)
              refine lv_iload_n hx hb dX7_windBest_86 rfl (lv_at hl 3 rfl) ?_
              refine lv_istore_n (lv' := [(1, .int j19l3), (2, .int j77l4), (0, .ref a0), (3, .int j19l3), (4, .int j77l4)]) hx hb dX7_windBest_87 rfl hl (by decide) rfl (fun ls hl => ?_)
              exact (hK0 _ _ _).mp (J88 j19l3 j77l4 _ _ _  bj19l3_l u27f_j19l3 (Int.le_trans zq69 l80f_j77l4) bj77l4_u hP hD hS (lv_sub hl [2, 0, 1, 3] rfl))
          refine lv_icmp_ne (tgt := 77) hx hb dX7_windBest_69 (by decide) (fun c69 => ?_) (fun c69 => ?_)
          · have gc69 := ai_ne c69
            have l69t_r60 : (-1 : Int) ≤ r60.toInt := (by have h1 := h60_0; have h2 : ((-2) : Int32).toInt = -2 := (by decide); rw [h2] at gc69; omega)
            exact (hK0 _ _ _).mp (J77 r60 _ _ _  l69t_r60 (Int.le_trans h60_1 zq87) hP hD hS (lv_sub hl [1, 2, 3, 4, 0] rfl))
          · have gc69 := ai_eq c69
            have u69f_r60 : r60.toInt ≤ (-2 : Int) := Int.le_trans (Int.le_of_eq gc69) zq44
            have l69f_r60 : (-2 : Int) ≤ r60.toInt := h60_0
            refine lv_sipush (v := 301) hx hb dX7_windBest_72 zk_sipush_301 ?_
            refine lv_istore (lv' := [(4, .int 301), (0, .ref a0), (1, .int j19l1), (2, .int j19l2), (3, .int j19l3)]) hx hb dX7_windBest_75 hl (by decide) rfl (fun ls hl => ?_)
            exact (hK0 _ _ _).mp (J77 301 _ _ _  (Int.le_trans zq88 zq89) zq90 hP hD hS (lv_sub hl [1, 2, 3, 4, 0] rfl))
    exact (hK0 _ _ _).mp (J19 10 0 (-1) 0 a0_2_0 a0_2_1 a0_2_2 a0_2_3 a0_2_4 fa0_2_5 fa0_2_6 _ _ _ (by have h1 : (0 : Int) ≤ (0 : Int32).toInt := zq5; have h2 : (0 : Int32).toInt ≤ (0 : Int) := zq6; omega) zq5 (Int.le_trans zq6 zq7) zq70 (Int.le_trans zq71 zq88) zq5 (Int.le_trans zq6 zq20) ba0_2_1_l ba0_2_1_u hP hD hS (lv_sub hl [3, 2, 1, 0] rfl))
  · obtain ⟨hw, h1_0, h1_1⟩ := hw
    subst hw
    have l1k1_a0_7_0 : (0 : Int) ≤ a0_7_0.toInt := ba0_7_0_l
    have u1k1_a0_7_0 : a0_7_0.toInt ≤ (0 : Int) := h1_1
    refine lv_if_ne (tgt := 13) hx hb dX7_windBest_4 (by decide) (fun c4 => absurd (by decide +kernel) c4) (fun _ => ?_)
    refine lv_aload_n hx hb dX7_windBest_7 rfl (lv_at hl 0 rfl) ?_
    refine lv_iconst (v := 1) hx hb dX7_windBest_8 zk_iconst_1 ?_
    refine va_calli (va_runV (As := [.int 1]) (rest := []) ⟨hx, hb, hml, hown, hts⟩ (c_X7_refused l dC dI H.size a0 1 a0g_0 (.ref a0_1) (.ref a0_2) a0g_3 a0g_4 a0g_5 a0g_6 (.ref a0_7) a0g_9 a0g_10 a0_8 ) (cwV 1 hts gX7_windBest_X7_refused rfl rfl rfl zd_X7_refused ⟨Nat.le_of_ble_eq_true rfl, Nat.le_of_ble_eq_true rfl⟩) ⟨ax_blind (fun _ _ _ _ _ => trivial), zr_7 (zp_K hK) (zp_P1 hP) (q0 := 0) rfl, ax_pre (zp_P1 hP) (zp_K hK) (zp_D1 hD) (fun _ _ => trivial)⟩ rfl rfl hl.1 rfl (lv_room (Nat.le_of_ble_eq_true rfl)) dX7_windBest_9 ⟨Nat.le_of_ble_eq_true rfl, Nat.le_of_ble_eq_true rfl⟩) hS (fun q _ h => zp_F1 hD hS hA q h) (zp_F1 hD hS hA) (fun r9 u t H locs ht hvm hw hB hz1 hk1 hS1 => zx_1 hB (fun v9na0_8 hB => zo1 hB ht hP hD hk1 (zp_F1 hD hS hA) hS1 (fun hP hK1 hD hS => ?_)))
    have hw : r9 = (-1) := hw
    have hw := hw.symm
    subst hw
    exact W.iret (v := (-1)) hx hb hr (fun t ht hW => ⟨⟨(-1), (), rfl, ⟨zq70, (Int.le_trans zq71 zq72)⟩, v9na0_8, a0_2_0, a0_2_1, a0_2_2, a0_2_3, a0_2_4, fa0_2_5, fa0_2_6, ⟨ba0_2_1_l, ba0_2_1_u⟩, by rw [ht]; exact hP, va_K.moved hW.alike hK, hD⟩, hS.F ht⟩) hS.2.2 dX7_windBest_12
end P117_safe
section P118_safe
set_option maxHeartbeats 4000000 in
set_option maxRecDepth 100000 in
theorem c_X7_patrol (l : Launch) (dC : Nat → ClassId) (dI : Nat → Nat → Nat) (sz : Nat) (a0 : Nat) (a1 : Int32) (a2 : Int32) (a0g_0 a0g_4 a0g_5 a0g_6 a0g_9 a0g_10 : Value) (a0_1 : Nat) (a0_2 : Nat) (a0_3 : Nat) (a0_7 : Nat) (a0_8 : Int32) (a0_7_0 : Int32) (a0_7_1 : Int32) (a0_7_2 : Int32) (a0_7g_3 a0_7g_4 a0_7g_7 a0_7g_8 a0_7g_9 a0_7g_12 a0_7g_13 : Value) (a0_7_5 : Int32) (a0_7_6 : Int32) (a0_7_10 : Nat) (a0_7_11 : Nat) (a0_7_14 : Nat) (a0_7_14_0 : Int32) (a0_7_14_1 : Int32) (a0_7_14_2 : Nat) (a0_7_14_3 : Nat) (a0_3_0 : Int32) (a0_3_1 : Int32) (a0_3_2 : Nat) (a0_3_3 : Nat) (ka0_7_14_2 : ClassId) (fa0_7_14_2 : Nat → Int32) (ka0_3_2 : ClassId) (fa0_3_2 : Nat → Int32) (ka0_7_14_3 : ClassId) (fa0_7_14_3 : Nat → Int32) (ka0_3_3 : ClassId) (fa0_3_3 : Nat → Int32) (a0_2_0 : Int32) (a0_2_1 : Int32) (a0_2_2 : Int32) (a0_2_3 : Int32) (a0_2_4 : Int32) (a0_2_5 : Nat) (a0_2_6 : Nat) (a0_1_0 : Int32) (a0_1_1 : Int32) (a0_1_2 : Int32) (a0_1_3 : Int32) (a0_1_4 : Int32) (a0_1_5 : Nat) (a0_1_6 : Nat) (ka0_1_5 : ClassId) (fa0_1_5 : Nat → Int32) (ka0_2_5 : ClassId) (fa0_2_5 : Nat → Int32) (ka0_1_6 : ClassId) (fa0_1_6 : Nat → Int32) (ka0_2_6 : ClassId) (fa0_2_6 : Nat → Int32) (ka0_7_10 : ClassId) (fa0_7_10 : Nat → Int32) (ka0_7_11 : ClassId) (fa0_7_11 : Nat → Int32) (ba0_7_0_l : (0 : Int) ≤ a0_7_0.toInt) (ba0_7_0_u : a0_7_0.toInt ≤ (9 : Int)) (ba0_7_5_l : (0 : Int) ≤ a0_7_5.toInt) (ba0_7_5_u : a0_7_5.toInt ≤ (8 : Int)) (ba0_7_6_l : (0 : Int) ≤ a0_7_6.toInt) (ba0_7_6_u : a0_7_6.toInt ≤ (8 : Int)) (ba0_7_14_0_l : (0 : Int) ≤ a0_7_14_0.toInt) (ba0_7_14_0_u : a0_7_14_0.toInt ≤ (3 : Int)) (ba0_3_0_l : (0 : Int) ≤ a0_3_0.toInt) (ba0_3_0_u : a0_3_0.toInt ≤ (3 : Int)) (ba0_2_1_l : (0 : Int) ≤ a0_2_1.toInt) (ba0_2_1_u : a0_2_1.toInt ≤ (8 : Int)) (ba0_1_1_l : (0 : Int) ≤ a0_1_1.toInt) (ba0_1_1_u : a0_1_1.toInt ≤ (8 : Int)) (bfa0_7_14_2 : (∀ k, (0 : Int) ≤ (fa0_7_14_2 k).toInt ∧ (fa0_7_14_2 k).toInt ≤ 80)) (bfa0_3_2 : (∀ k, (0 : Int) ≤ (fa0_3_2 k).toInt ∧ (fa0_3_2 k).toInt ≤ 80)) (bfa0_7_14_3 : (∀ k, (0 : Int) ≤ (fa0_7_14_3 k).toInt ∧ (fa0_7_14_3 k).toInt ≤ 80)) (bfa0_3_3 : (∀ k, (0 : Int) ≤ (fa0_3_3 k).toInt ∧ (fa0_3_3 k).toInt ≤ 80)) : zm l yX7_patrol wsX7_patrol ({ frames := 5, cells := 0, slots := 0, locals := 120 }) [.ref a0, .int a1, .int a2] dC dI sz [(a0, .inr (7, [a0g_0, .ref a0_1, .ref a0_2, .ref a0_3, a0g_4, a0g_5, a0g_6, .ref a0_7, .int a0_8, a0g_9, a0g_10])), (a0_7, .inr (0, [.int a0_7_0, .int a0_7_1, .int a0_7_2, a0_7g_3, a0_7g_4, .int a0_7_5, .int a0_7_6, a0_7g_7, a0_7g_8, a0_7g_9, .ref a0_7_10, .ref a0_7_11, a0_7g_12, a0_7g_13, .ref a0_7_14])), (a0_7_14, .inr (6, [.int a0_7_14_0, .int a0_7_14_1, .ref a0_7_14_2, .ref a0_7_14_3])), (a0_3, .inr (6, [.int a0_3_0, .int a0_3_1, .ref a0_3_2, .ref a0_3_3])), (a0_7_14_2, .inl (ka0_7_14_2, 3, .inl (fa0_7_14_2))), (a0_3_2, .inl (ka0_3_2, 3, .inl (fa0_3_2))), (a0_7_14_3, .inl (ka0_7_14_3, 3, .inl (fa0_7_14_3))), (a0_3_3, .inl (ka0_3_3, 3, .inl (fa0_3_3))), (a0_2, .inr (5, [.int a0_2_0, .int a0_2_1, .int a0_2_2, .int a0_2_3, .int a0_2_4, .ref a0_2_5, .ref a0_2_6])), (a0_1, .inr (5, [.int a0_1_0, .int a0_1_1, .int a0_1_2, .int a0_1_3, .int a0_1_4, .ref a0_1_5, .ref a0_1_6])), (a0_1_5, .inl (ka0_1_5, 9, .inl (fa0_1_5))), (a0_2_5, .inl (ka0_2_5, 9, .inl (fa0_2_5))), (a0_1_6, .inl (ka0_1_6, 9, .inl (fa0_1_6))), (a0_2_6, .inl (ka0_2_6, 9, .inl (fa0_2_6))), (a0_7_10, .inl (ka0_7_10, 9, .inl (fa0_7_10))), (a0_7_11, .inl (ka0_7_11, 9, .inl (fa0_7_11)))] [(ka0_7_14_2, .int), (ka0_3_2, .int), (ka0_7_14_3, .int), (ka0_3_3, .int), (ka0_1_5, .int), (ka0_2_5, .int), (ka0_1_6, .int), (ka0_2_6, .int), (ka0_7_10, .int), (ka0_7_11, .int)] (fun A U => va_Nw (.methodLinkNest RX0 118 yX7_within RX7) U ∧ va_Nw (.methodLinkNest RX5 38 yX7_hasBit RX7) U ∧ va_Nw (.methodLinkNest RX0 129 yX7_hasBit RX7) U) (fun A => va_Qi (fun (r : Int32) (_ : Unit) => (-1 : Int) ≤ r.toInt ∧ r.toInt ≤ (880 : Int)) (fun (_ : Unit) (t : State) => ∃ na0_8 : Int32, ∃ na0_3_0 : Int32, ∃ na0_3_1 : Int32, ∃ nfa0_3_2 : Nat → Int32, ∃ nfa0_3_3 : Nat → Int32, ∃ na0_2_0 : Int32, ∃ na0_2_1 : Int32, ∃ na0_2_2 : Int32, ∃ na0_2_3 : Int32, ∃ na0_2_4 : Int32, ∃ nfa0_2_5 : Nat → Int32, ∃ nfa0_2_6 : Nat → Int32, ((0 : Int) ≤ na0_3_0.toInt ∧ na0_3_0.toInt ≤ 3) ∧ ((0 : Int) ≤ na0_2_1.toInt ∧ na0_2_1.toInt ≤ 8) ∧ (∀ k, (0 : Int) ≤ (nfa0_3_2 k).toInt ∧ (nfa0_3_2 k).toInt ≤ 80) ∧ (∀ k, (0 : Int) ≤ (nfa0_3_3 k).toInt ∧ (nfa0_3_3 k).toInt ≤ 80) ∧ ax_B dC dI A [(a0, .inr (7, [a0g_0, .ref a0_1, .ref a0_2, .ref a0_3, a0g_4, a0g_5, a0g_6, .ref a0_7, .int na0_8, a0g_9, a0g_10])), (a0_7, .inr (0, [.int a0_7_0, .int a0_7_1, .int a0_7_2, a0_7g_3, a0_7g_4, .int a0_7_5, .int a0_7_6, a0_7g_7, a0_7g_8, a0_7g_9, .ref a0_7_10, .ref a0_7_11, a0_7g_12, a0_7g_13, .ref a0_7_14])), (a0_7_14, .inr (6, [.int a0_7_14_0, .int a0_7_14_1, .ref a0_7_14_2, .ref a0_7_14_3])), (a0_3, .inr (6, [.int na0_3_0, .int na0_3_1, .ref a0_3_2, .ref a0_3_3])), (a0_7_14_2, .inl (ka0_7_14_2, 3, .inl (fa0_7_14_2))), (a0_3_2, .inl (ka0_3_2, 3, .inl (nfa0_3_2))), (a0_7_14_3, .inl (ka0_7_14_3, 3, .inl (fa0_7_14_3))), (a0_3_3, .inl (ka0_3_3, 3, .inl (nfa0_3_3))), (a0_2, .inr (5, [.int na0_2_0, .int na0_2_1, .int na0_2_2, .int na0_2_3, .int na0_2_4, .ref a0_2_5, .ref a0_2_6])), (a0_1, .inr (5, [.int a0_1_0, .int a0_1_1, .int a0_1_2, .int a0_1_3, .int a0_1_4, .ref a0_1_5, .ref a0_1_6])), (a0_1_5, .inl (ka0_1_5, 9, .inl (fa0_1_5))), (a0_2_5, .inl (ka0_2_5, 9, .inl (nfa0_2_5))), (a0_1_6, .inl (ka0_1_6, 9, .inl (fa0_1_6))), (a0_2_6, .inl (ka0_2_6, 9, .inl (nfa0_2_6))), (a0_7_10, .inl (ka0_7_10, 9, .inl (fa0_7_10))), (a0_7_11, .inl (ka0_7_11, 9, .inl (fa0_7_11)))] [(ka0_7_14_2, .int), (ka0_3_2, .int), (ka0_7_14_3, .int), (ka0_3_3, .int), (ka0_1_5, .int), (ka0_2_5, .int), (ka0_1_6, .int), (ka0_2_6, .int), (ka0_7_10, .int), (ka0_7_11, .int)] t) A) := by
  refine zh (cc := cX7_patrol) (maxL := 9) (ret := (some .int)) zn_RX7 rfl (Nat.le_of_ble_eq_true rfl) (fun p e s m below meth c A ls hx hb hml hr hts (hown : s.vm.findClass RX7 = some m.cls) hlocks hA hS hP hK hD hE (hl : lv_has ls 9 [(0, .ref a0), (1, .int a1), (2, .int a2)]) => ?_)
  obtain ⟨hE0, hE1, hE2⟩ := hE
  refine ai_open (fun K hK0 => ?_)
  refine (hK0 _ _ _).mpr ?_
  refine lv_aload_n hx hb dX7_patrol_0 rfl (lv_at hl 0 rfl) ?_
  refine lv_iload_n hx hb dX7_patrol_1 rfl (lv_at hl 1 rfl) ?_
  refine va_calli (va_runV (As := [.int a1]) (rest := []) ⟨hx, hb, hml, hown, hts⟩ (c_X7_isWatcher l dC dI s.heap.size a0 a1 a0g_0 (.ref a0_1) (.ref a0_2) (.ref a0_3) a0g_4 a0g_5 a0g_6 (.int a0_8) a0g_9 a0g_10 a0_7 (.int a0_7_0) (.int a0_7_1) (.int a0_7_2) a0_7g_3 a0_7g_4 (.int a0_7_5) (.int a0_7_6) a0_7g_7 a0_7g_8 a0_7g_9 (.ref a0_7_10) (.ref a0_7_11) a0_7g_12 a0_7g_13 a0_7_14 a0_7_14_0 (.int a0_7_14_1) (.ref a0_7_14_2) (.ref a0_7_14_3) ba0_7_14_0_l ba0_7_14_0_u) (cwV 1 hts gX7_patrol_X7_isWatcher rfl rfl rfl zd_X7_isWatcher ⟨Nat.le_of_ble_eq_true rfl, Nat.le_of_ble_eq_true rfl⟩) ⟨ax_blind (fun _ _ _ _ _ => trivial), zr_7 (zp_K hK) (zp_P3 hP) (q0 := 0) rfl, ax_pre (zp_P3 hP) (zp_K hK) (zp_D3 hD) (fun _ _ => trivial)⟩ rfl rfl hl.1 rfl (lv_room (Nat.le_of_ble_eq_true rfl)) dX7_patrol_2 ⟨Nat.le_of_ble_eq_true rfl, Nat.le_of_ble_eq_true rfl⟩) hS (fun q _ h => zp_F3 hD hS hA q h) (zp_F3 hD hS hA) (fun r2 u t H locs ht hvm hw hB hz1 hk1 hS1 => zo3 hB ht hP hD hk1 (zp_F3 hD hS hA) hS1 (fun hP hK1 hD hS => ?_))
  rcases hw with hw | hw
  · obtain ⟨hw, h2_0, h2_1, h2_2, h2_3⟩ := hw
    subst hw
    have l2k0_a1 : (0 : Int) ≤ a1.toInt := h2_0
    have u2k0_a1 : a1.toInt ≤ (2 : Int) := h2_1
    have l2k0_a0_7_14_0 : (1 : Int) ≤ a0_7_14_0.toInt := h2_2
    have u2k0_a0_7_14_0 : a0_7_14_0.toInt ≤ (3 : Int) := ba0_7_14_0_u
    refine lv_if_ne (tgt := 14) hx hb dX7_patrol_5 (by decide) (fun _ => ?_) (fun c5 => absurd c5 (by decide +kernel))
    refine lv_iload_n hx hb dX7_patrol_14 rfl (lv_at hl 2 rfl) ?_
    refine lv_iconst (v := 1) hx hb dX7_patrol_15 zk_iconst_1 ?_
    refine lv_bipush (v := 60) hx hb dX7_patrol_16 zk_bipush_60 ?_
    refine va_calli (va_runS (As := [.int a2, .int 1, .int 60]) (rest := []) ⟨hx, hb, hml, hown, hts⟩ (c_X7_within l dC dI H.size a2 1 60 ) (va_cwS 3 hts gX7_patrol_X7_within rfl rfl rfl zd_X7_within.2 ⟨Nat.le_of_ble_eq_true rfl, Nat.le_of_ble_eq_true rfl⟩) ⟨ax_blind (fun _ _ _ _ _ => trivial), ax_pre (zp_P0 hP) (zp_K hK) (zp_D0 hD) (fun _ _ => trivial)⟩ rfl rfl hl.1 rfl (lv_room (Nat.le_of_ble_eq_true rfl)) dX7_patrol_18 ⟨Nat.le_of_ble_eq_true rfl, Nat.le_of_ble_eq_true rfl⟩) hS (fun q _ h => zp_F0 hD hS hA q h) (zp_F0 hD hS hA) (fun r18 u t H locs ht hvm hw hB hz1 hk1 hS1 => zo0 hB ht hP hD hk1 (zp_F0 hD hS hA) hS1 (fun hP hK1 hD hS => ?_))
    rcases hw with hw | hw
    · obtain ⟨hw, h18⟩ := hw
      subst hw
      have l18k0_a2 : (1 : Int) ≤ a2.toInt := Int.le_trans zq1 h18.1
      have u18k0_a2 : a2.toInt ≤ (60 : Int) := Int.le_trans h18.2 zq46
      refine lv_if_ne (tgt := 30) hx hb dX7_patrol_21 (by decide) (fun _ => ?_) (fun c21 => absurd c21 (by decide +kernel))
      refine lv_aload_n hx hb dX7_patrol_30 rfl (lv_at hl 0 rfl) ?_
      refine va_get (D := (dC, dI)) (ci := 7) (v := .ref a0_3) (C := RX7) (T := TX7) (N := 11) hx hb hts zi_X7_patrol_7 hown hK hP 0 rfl rfl 3 (by decide) (hts (.fieldLink RX7 29 "WaxTurns" "trial" "LWaxTurns$Watchers;") (zm_X7_patrol_r1 (List.mem_of_getElem? (i := 0) rfl))) (fun _ h9 => h9) rfl dX7_patrol_31 ?_
      refine lv_aload_n hx hb dX7_patrol_34 rfl (lv_at hl 0 rfl) ?_
      refine va_get (D := (dC, dI)) (ci := 7) (v := .ref a0_7) (C := RX7) (T := TX7) (N := 11) hx hb hts zi_X7_patrol_7 hown hK hP 0 rfl rfl 7 (by decide) (hts (.fieldLink RX7 57 "WaxTurns" "hall" "LWaxTurns$Hall;") (zm_X7_patrol_r1 (List.mem_of_getElem? (i := 1) rfl))) (fun _ h9 => h9) rfl dX7_patrol_35 ?_
      refine va_get (D := (dC, dI)) (ci := 0) (v := .ref a0_7_14) (C := RX0) (T := TX0) (N := 15) hx hb hts zi_X7_patrol_0 hown hK hP 1 rfl rfl 14 (by decide) (hts (.fieldLink RX7 138 "WaxTurns$Hall" "watchers" "LWaxTurns$Watchers;") (zm_X7_patrol_r1 (List.mem_of_getElem? (i := 2) rfl))) (fun _ h9 => h9) rfl dX7_patrol_38 ?_
      refine zc_cutc (wc := [(a0_3, .inr (6, [.int a0_3_0, .int a0_3_1, .ref a0_3_2, .ref a0_3_3])), (a0_7_14, .inr (6, [.int a0_7_14_0, .int a0_7_14_1, .ref a0_7_14_2, .ref a0_7_14_3])), (a0_7_14_2, .inl (ka0_7_14_2, 3, .inl (fa0_7_14_2))), (a0_3_2, .inl (ka0_3_2, 3, .inl (fa0_3_2))), (a0_7_14_3, .inl (ka0_7_14_3, 3, .inl (fa0_7_14_3))), (a0_3_3, .inl (ka0_3_3, 3, .inl (fa0_3_3)))]) hP hD hS hA [3, 2, 4, 5, 6, 7] (by decide +kernel) rfl (fun hPc hDc hFc hCc => ?_)
      have hKc := hK.sub (tys' := [(ka0_7_14_2, .int), (ka0_3_2, .int), (ka0_7_14_3, .int), (ka0_3_3, .int)]) [0, 1, 2, 3] rfl
      refine va_callv (va_runV (As := [.ref a0_7_14]) (rest := []) ⟨hx, hb, hml, hown, hts⟩ (c_X6_copyFrom l dC dI H.size a0_3 a0_7_14 a0_3_0 a0_3_1 a0_3_2 a0_3_3 a0_7_14_0 a0_7_14_1 a0_7_14_2 a0_7_14_3 ka0_7_14_2 fa0_7_14_2 ka0_3_2 fa0_3_2 ka0_7_14_3 fa0_7_14_3 ka0_3_3 fa0_3_3 ba0_3_0_l ba0_3_0_u (Int.le_trans zq4 l2k0_a0_7_14_0) u2k0_a0_7_14_0 bfa0_7_14_2 bfa0_3_2 bfa0_7_14_3 bfa0_3_3) (cwV 1 hts gX7_patrol_X6_copyFrom rfl rfl rfl zd_X6_copyFrom ⟨Nat.le_of_ble_eq_true rfl, Nat.le_of_ble_eq_true rfl⟩) ⟨ax_blind (fun _ _ _ _ _ => trivial), zr_6 hKc hPc (q0 := 0) rfl, ax_pre hPc hKc hDc (fun _ _ => trivial)⟩ rfl rfl hl.1 rfl (lv_room (Nat.le_of_ble_eq_true rfl)) dX7_patrol_41 ⟨Nat.le_of_ble_eq_true rfl, Nat.le_of_ble_eq_true rfl⟩) hS (fun q _ h => hFc q h) hFc (fun u t H locs ht hvm hw hB hz1 hk1 hS => zx_4 hB (fun v41na0_0 v41na0_1 v41nfa0_2 v41nfa0_3 hB => zy_3 hB (fun bv41na0_0 bv41nfa0_2 bv41nfa0_3 hB => zo hB ht (fun hP1 hK1 hD1 => ?_))))
      refine zc_backc (w := [(a0, .inr (7, [a0g_0, .ref a0_1, .ref a0_2, .ref a0_3, a0g_4, a0g_5, a0g_6, .ref a0_7, .int a0_8, a0g_9, a0g_10])), (a0_7, .inr (0, [.int a0_7_0, .int a0_7_1, .int a0_7_2, a0_7g_3, a0_7g_4, .int a0_7_5, .int a0_7_6, a0_7g_7, a0_7g_8, a0_7g_9, .ref a0_7_10, .ref a0_7_11, a0_7g_12, a0_7g_13, .ref a0_7_14])), (a0_7_14, .inr (6, [.int a0_7_14_0, .int a0_7_14_1, .ref a0_7_14_2, .ref a0_7_14_3])), (a0_3, .inr (6, [.int v41na0_0, .int v41na0_1, .ref a0_3_2, .ref a0_3_3])), (a0_7_14_2, .inl (ka0_7_14_2, 3, .inl (fa0_7_14_2))), (a0_3_2, .inl (ka0_3_2, 3, .inl (v41nfa0_2))), (a0_7_14_3, .inl (ka0_7_14_3, 3, .inl (fa0_7_14_3))), (a0_3_3, .inl (ka0_3_3, 3, .inl (v41nfa0_3))), (a0_2, .inr (5, [.int a0_2_0, .int a0_2_1, .int a0_2_2, .int a0_2_3, .int a0_2_4, .ref a0_2_5, .ref a0_2_6])), (a0_1, .inr (5, [.int a0_1_0, .int a0_1_1, .int a0_1_2, .int a0_1_3, .int a0_1_4, .ref a0_1_5, .ref a0_1_6])), (a0_1_5, .inl (ka0_1_5, 9, .inl (fa0_1_5))), (a0_2_5, .inl (ka0_2_5, 9, .inl (fa0_2_5))), (a0_1_6, .inl (ka0_1_6, 9, .inl (fa0_1_6))), (a0_2_6, .inl (ka0_2_6, 9, .inl (fa0_2_6))), (a0_7_10, .inl (ka0_7_10, 9, .inl (fa0_7_10))), (a0_7_11, .inl (ka0_7_11, 9, .inl (fa0_7_11)))]) hP hD hCc hk1 hFc hP1 hD1 [.inl 0, .inl 1, .inr 1, .inr 0, .inr 2, .inr 3, .inr 4, .inr 5, .inl 8, .inl 9, .inl 10, .inl 11, .inl 12, .inl 13, .inl 14, .inl 15] (by decide +kernel) rfl (fun hP hD => ?_)
      refine lv_iconst (v := 0) hx hb dX7_patrol_44 zk_iconst_0 ?_
      refine lv_istore_n (lv' := [(3, .int 0), (0, .ref a0), (1, .int a1), (2, .int a2)]) hx hb dX7_patrol_45 rfl hl (by decide) rfl (fun ls hl => ?_)
      refine lv_bipush (v := 10) hx hb dX7_patrol_46 zk_bipush_10 ?_
      refine lv_istore (lv' := [(4, .int 10), (3, .int 0), (0, .ref a0), (1, .int a1), (2, .int a2)]) hx hb dX7_patrol_48 hl (by decide) rfl (fun ls hl => ?_)
      refine lv_iconst (v := 0) hx hb dX7_patrol_50 zk_iconst_0 ?_
      refine lv_istore (lv' := [(5, .int 0), (4, .int 10), (3, .int 0), (0, .ref a0), (1, .int a1), (2, .int a2)]) hx hb dX7_patrol_51 hl (by decide) rfl (fun ls hl => ?_)
      refine lv_iconst (v := 0) hx hb dX7_patrol_53 zk_iconst_0 ?_
      refine lv_istore (lv' := [(6, .int 0), (5, .int 0), (4, .int 10), (3, .int 0), (0, .ref a0), (1, .int a1), (2, .int a2)]) hx hb dX7_patrol_54 hl (by decide) rfl (fun ls hl => ?_)
      have J56 : ∀ (n : Nat) (j56l6 : Int32) (j56l5 : Int32) (j56l4 : Int32) (j56l3 : Int32) (j56a0_3_2_a : Nat → Int32) (j56a0_3_3_a : Nat → Int32) (j56a0_2_0 : Int32) (j56a0_2_1 : Int32) (j56a0_2_2 : Int32) (j56a0_2_3 : Int32) (j56a0_2_4 : Int32) (j56a0_2_5_a : Nat → Int32) (j56a0_2_6_a : Nat → Int32) (H : Heap) (locs : List Loc) (ls : Array Slot), (82 : Int) - j56l6.toInt ≤ (n : Int) → (0 : Int) ≤ j56l6.toInt → j56l6.toInt ≤ (81 : Int) → (0 : Int) ≤ j56l3.toInt → j56l3.toInt ≤ (880 : Int) → (∀ k, (0 : Int) ≤ (j56a0_3_2_a k).toInt ∧ (j56a0_3_2_a k).toInt ≤ 80) → (∀ k, (0 : Int) ≤ (j56a0_3_3_a k).toInt ∧ (j56a0_3_3_a k).toInt ≤ 80) → (0 : Int) ≤ j56a0_2_1.toInt → j56a0_2_1.toInt ≤ (8 : Int) → va_P (dC, dI) vwCl [(a0, .inr (7, [a0g_0, .ref a0_1, .ref a0_2, .ref a0_3, a0g_4, a0g_5, a0g_6, .ref a0_7, .int a0_8, a0g_9, a0g_10])), (a0_7, .inr (0, [.int a0_7_0, .int a0_7_1, .int a0_7_2, a0_7g_3, a0_7g_4, .int a0_7_5, .int a0_7_6, a0_7g_7, a0_7g_8, a0_7g_9, .ref a0_7_10, .ref a0_7_11, a0_7g_12, a0_7g_13, .ref a0_7_14])), (a0_7_14, .inr (6, [.int a0_7_14_0, .int a0_7_14_1, .ref a0_7_14_2, .ref a0_7_14_3])), (a0_3, .inr (6, [.int v41na0_0, .int v41na0_1, .ref a0_3_2, .ref a0_3_3])), (a0_7_14_2, .inl (ka0_7_14_2, 3, .inl (fa0_7_14_2))), (a0_3_2, .inl (ka0_3_2, 3, .inl (j56a0_3_2_a))), (a0_7_14_3, .inl (ka0_7_14_3, 3, .inl (fa0_7_14_3))), (a0_3_3, .inl (ka0_3_3, 3, .inl (j56a0_3_3_a))), (a0_2, .inr (5, [.int j56a0_2_0, .int j56a0_2_1, .int j56a0_2_2, .int j56a0_2_3, .int j56a0_2_4, .ref a0_2_5, .ref a0_2_6])), (a0_1, .inr (5, [.int a0_1_0, .int a0_1_1, .int a0_1_2, .int a0_1_3, .int a0_1_4, .ref a0_1_5, .ref a0_1_6])), (a0_1_5, .inl (ka0_1_5, 9, .inl (fa0_1_5))), (a0_2_5, .inl (ka0_2_5, 9, .inl (j56a0_2_5_a))), (a0_1_6, .inl (ka0_1_6, 9, .inl (fa0_1_6))), (a0_2_6, .inl (ka0_2_6, 9, .inl (j56a0_2_6_a))), (a0_7_10, .inl (ka0_7_10, 9, .inl (fa0_7_10))), (a0_7_11, .inl (ka0_7_11, 9, .inl (fa0_7_11)))] H → va_D A [(a0, .inr (7, [a0g_0, .ref a0_1, .ref a0_2, .ref a0_3, a0g_4, a0g_5, a0g_6, .ref a0_7, .int a0_8, a0g_9, a0g_10])), (a0_7, .inr (0, [.int a0_7_0, .int a0_7_1, .int a0_7_2, a0_7g_3, a0_7g_4, .int a0_7_5, .int a0_7_6, a0_7g_7, a0_7g_8, a0_7g_9, .ref a0_7_10, .ref a0_7_11, a0_7g_12, a0_7g_13, .ref a0_7_14])), (a0_7_14, .inr (6, [.int a0_7_14_0, .int a0_7_14_1, .ref a0_7_14_2, .ref a0_7_14_3])), (a0_3, .inr (6, [.int v41na0_0, .int v41na0_1, .ref a0_3_2, .ref a0_3_3])), (a0_7_14_2, .inl (ka0_7_14_2, 3, .inl (fa0_7_14_2))), (a0_3_2, .inl (ka0_3_2, 3, .inl (j56a0_3_2_a))), (a0_7_14_3, .inl (ka0_7_14_3, 3, .inl (fa0_7_14_3))), (a0_3_3, .inl (ka0_3_3, 3, .inl (j56a0_3_3_a))), (a0_2, .inr (5, [.int j56a0_2_0, .int j56a0_2_1, .int j56a0_2_2, .int j56a0_2_3, .int j56a0_2_4, .ref a0_2_5, .ref a0_2_6])), (a0_1, .inr (5, [.int a0_1_0, .int a0_1_1, .int a0_1_2, .int a0_1_3, .int a0_1_4, .ref a0_1_5, .ref a0_1_6])), (a0_1_5, .inl (ka0_1_5, 9, .inl (fa0_1_5))), (a0_2_5, .inl (ka0_2_5, 9, .inl (j56a0_2_5_a))), (a0_1_6, .inl (ka0_1_6, 9, .inl (fa0_1_6))), (a0_2_6, .inl (ka0_2_6, 9, .inl (j56a0_2_6_a))), (a0_7_10, .inl (ka0_7_10, 9, .inl (fa0_7_10))), (a0_7_11, .inl (ka0_7_11, 9, .inl (fa0_7_11)))] → va_S A s.heap H locs → lv_has ls 9 [(0, .ref a0), (1, .int a1), (2, .int a2), (3, .int j56l3), (4, .int j56l4), (5, .int j56l5), (6, .int j56l6)] → K H locs (F0 m 56 ls []) := by
        intro n
        induction n with
        | zero =>
          intro j56l6 j56l5 j56l4 j56l3 j56a0_3_2_a j56a0_3_3_a j56a0_2_0 j56a0_2_1 j56a0_2_2 j56a0_2_3 j56a0_2_4 j56a0_2_5_a j56a0_2_6_a H locs ls hm bj56l6_l bj56l6_u bj56l3_l bj56l3_u bj56a0_3_2_a bj56a0_3_3_a bj56a0_2_1_l bj56a0_2_1_u hP hD hS hl
          have h8 := ai_min j56l6
          have h9 := ai_max j56l6
          exact absurd hm (by omega)
        | succ n ih56 =>
          intro j56l6 j56l5 j56l4 j56l3 j56a0_3_2_a j56a0_3_3_a j56a0_2_0 j56a0_2_1 j56a0_2_2 j56a0_2_3 j56a0_2_4 j56a0_2_5_a j56a0_2_6_a H locs ls hm bj56l6_l bj56l6_u bj56l3_l bj56l3_u bj56a0_3_2_a bj56a0_3_3_a bj56a0_2_1_l bj56a0_2_1_u hP hD hS hl
          refine (hK0 _ _ _).mpr ?_
          have hm56 := hm
          refine lv_iload hx hb dX7_patrol_56 (lv_at hl 6 rfl) ?_
          refine lv_aload_n hx hb dX7_patrol_58 rfl (lv_at hl 0 rfl) ?_
          refine va_get (D := (dC, dI)) (ci := 7) (v := .ref a0_7) (C := RX7) (T := TX7) (N := 11) hx hb hts zi_X7_patrol_7 hown hK hP 0 rfl rfl 7 (by decide) (hts (.fieldLink RX7 57 "WaxTurns" "hall" "LWaxTurns$Hall;") (zm_X7_patrol_r1 (List.mem_of_getElem? (i := 1) rfl))) (fun _ h9 => h9) rfl dX7_patrol_59 ?_
          refine va_get (D := (dC, dI)) (ci := 0) (v := .int a0_7_0) (C := RX0) (T := TX0) (N := 15) hx hb hts zi_X7_patrol_0 hown hK hP 1 rfl rfl 0 (by decide) (hts (.fieldLink RX7 110 "WaxTurns$Hall" "figures" "I") (zm_X7_patrol_r1 (List.mem_of_getElem? (i := 3) rfl))) (fun _ h9 => h9) rfl dX7_patrol_62 ?_
          refine lv_aload_n hx hb dX7_patrol_65 rfl (lv_at hl 0 rfl) ?_
          refine va_get (D := (dC, dI)) (ci := 7) (v := .ref a0_7) (C := RX7) (T := TX7) (N := 11) hx hb hts zi_X7_patrol_7 hown hK hP 0 rfl rfl 7 (by decide) (hts (.fieldLink RX7 57 "WaxTurns" "hall" "LWaxTurns$Hall;") (zm_X7_patrol_r1 (List.mem_of_getElem? (i := 1) rfl))) (fun _ h9 => h9) rfl dX7_patrol_66 ?_
          refine va_get (D := (dC, dI)) (ci := 0) (v := .int a0_7_0) (C := RX0) (T := TX0) (N := 15) hx hb hts zi_X7_patrol_0 hown hK hP 1 rfl rfl 0 (by decide) (hts (.fieldLink RX7 110 "WaxTurns$Hall" "figures" "I") (zm_X7_patrol_r1 (List.mem_of_getElem? (i := 3) rfl))) (fun _ h9 => h9) rfl dX7_patrol_69 ?_
          refine lv_imul hx hb dX7_patrol_72 ?_
          refine lv_topi (fun x72 ex72 => ?_)
          have qx72 : x72.toInt = a0_7_0.toInt * a0_7_0.toInt ∧ (0 : Int) ≤ x72.toInt ∧ x72.toInt ≤ 81 := ai_mul ex72 ⟨ba0_7_0_l, ba0_7_0_u⟩ ⟨ba0_7_0_l, ba0_7_0_u⟩ (by decide) (by decide) zq21
          refine lv_icmp_ge (tgt := 211) hx hb dX7_patrol_73 (by decide) (fun c73 => ?_) (fun c73 => ?_)
          · have gc73 := ai_le c73
            have u73t_x72 : x72.toInt ≤ (81 : Int) := qx72.2.2
            have l73t_j56l6 : (0 : Int) ≤ j56l6.toInt := bj56l6_l
            refine lv_aload_n hx hb dX7_patrol_211 rfl (lv_at hl 0 rfl) ?_
            refine lv_iload_n hx hb dX7_patrol_212 rfl (lv_at hl 3 rfl) ?_
            refine va_calli (va_runV (As := [.int j56l3]) (rest := []) ⟨hx, hb, hml, hown, hts⟩ (c_X7_answered l dC dI H.size a0 j56l3 a0g_0 (.ref a0_1) (.ref a0_2) (.ref a0_3) a0g_4 a0g_5 a0g_6 (.ref a0_7) a0g_9 a0g_10 a0_8 ) (cwV 1 hts gX7_patrol_X7_answered rfl rfl rfl zd_X7_answered ⟨Nat.le_of_ble_eq_true rfl, Nat.le_of_ble_eq_true rfl⟩) ⟨ax_blind (fun _ _ _ _ _ => trivial), zr_7 (zp_K hK) (zp_P1 hP) (q0 := 0) rfl, ax_pre (zp_P1 hP) (zp_K hK) (zp_D1 hD) (fun _ _ => trivial)⟩ rfl rfl hl.1 rfl (lv_room (Nat.le_of_ble_eq_true rfl)) dX7_patrol_213 ⟨Nat.le_of_ble_eq_true rfl, Nat.le_of_ble_eq_true rfl⟩) hS (fun q _ h => zp_F1 hD hS hA q h) (zp_F1 hD hS hA) (fun r213 u t H locs ht hvm hw hB hz1 hk1 hS1 => zx_1 hB (fun v213na0_8 hB => zo1 hB ht hP hD hk1 (zp_F1 hD hS hA) hS1 (fun hP hK1 hD hS => ?_)))
            have hw : r213 = j56l3 := hw
            have hw := hw.symm
            subst hw
            exact W.iret (v := j56l3) hx hb hr (fun t ht hW => ⟨⟨j56l3, (), rfl, ⟨(Int.le_trans zq69 bj56l3_l), bj56l3_u⟩, v213na0_8, v41na0_0, v41na0_1, j56a0_3_2_a, j56a0_3_3_a, j56a0_2_0, j56a0_2_1, j56a0_2_2, j56a0_2_3, j56a0_2_4, j56a0_2_5_a, j56a0_2_6_a, ⟨bv41na0_0.1, bv41na0_0.2⟩, ⟨bj56a0_2_1_l, bj56a0_2_1_u⟩, bj56a0_3_2_a, bj56a0_3_3_a, by rw [ht]; exact hP, va_K.moved hW.alike hK, hD⟩, hS.F ht⟩) hS.2.2 dX7_patrol_216
          · have gc73 := ai_nle c73
            have u73f_j56l6 : j56l6.toInt ≤ (80 : Int) := ai_lthi gc73 qx72.2.2
            have l73f_x72 : (1 : Int) ≤ x72.toInt := ai_ltlo gc73 bj56l6_l
            have l73f_a0_7_0 : (1 : Int) ≤ a0_7_0.toInt := ai_mulpos qx72.1 (Int.le_trans (by decide) l73f_x72) ba0_7_0_l
            refine lv_aload_n hx hb dX7_patrol_76 rfl (lv_at hl 0 rfl) ?_
            refine va_get (D := (dC, dI)) (ci := 7) (v := .ref a0_3) (C := RX7) (T := TX7) (N := 11) hx hb hts zi_X7_patrol_7 hown hK hP 0 rfl rfl 3 (by decide) (hts (.fieldLink RX7 29 "WaxTurns" "trial" "LWaxTurns$Watchers;") (zm_X7_patrol_r1 (List.mem_of_getElem? (i := 0) rfl))) (fun _ h9 => h9) rfl dX7_patrol_77 ?_
            refine va_get (D := (dC, dI)) (ci := 6) (v := .ref a0_3_2) (C := RX6) (T := TX6) (N := 4) hx hb hts zi_X7_patrol_6 hown hK hP 3 rfl rfl 2 (by decide) (hts (.fieldLink RX7 141 "WaxTurns$Watchers" "from" "[I") (zm_X7_patrol_r1 (List.mem_of_getElem? (i := 4) rfl))) (fun _ h9 => h9) rfl dX7_patrol_80 ?_
            refine lv_iload_n hx hb dX7_patrol_83 rfl (lv_at hl 1 rfl) ?_
            refine lv_iload hx hb dX7_patrol_84 (lv_at hl 6 rfl) ?_
            refine lv_aload_n hx hb dX7_patrol_86 rfl (lv_at hl 0 rfl) ?_
            refine va_get (D := (dC, dI)) (ci := 7) (v := .ref a0_7) (C := RX7) (T := TX7) (N := 11) hx hb hts zi_X7_patrol_7 hown hK hP 0 rfl rfl 7 (by decide) (hts (.fieldLink RX7 57 "WaxTurns" "hall" "LWaxTurns$Hall;") (zm_X7_patrol_r1 (List.mem_of_getElem? (i := 1) rfl))) (fun _ h9 => h9) rfl dX7_patrol_87 ?_
            refine va_get (D := (dC, dI)) (ci := 0) (v := .int a0_7_0) (C := RX0) (T := TX0) (N := 15) hx hb hts zi_X7_patrol_0 hown hK hP 1 rfl rfl 0 (by decide) (hts (.fieldLink RX7 110 "WaxTurns$Hall" "figures" "I") (zm_X7_patrol_r1 (List.mem_of_getElem? (i := 3) rfl))) (fun _ h9 => h9) rfl dX7_patrol_90 ?_
            refine lv_idiv hx hb dX7_patrol_93 (ai_nz l73f_a0_7_0 (by decide)) ?_
            refine lv_topi (fun x93 ex93 => ?_)
            have qx93 := ai_div ex93 ⟨bj56l6_l, u73f_j56l6⟩ (Int.lt_of_lt_of_le zq19 l73f_a0_7_0)
            refine va_iast hx hb hK hP hD hS 5 1 rfl rfl (ai_in l2k0_a1 u2k0_a1 (by decide) (by decide)) dX7_patrol_94 (fun H locs hP hD hS => ?_)
            obtain ⟨f94, bf94, hP, hD⟩ : ∃ f94 : Nat → Int32, (∀ k, (0 : Int) ≤ (f94 k).toInt ∧ (f94 k).toInt ≤ 80) ∧ va_P (dC, dI) vwCl [(a0, .inr (7, [a0g_0, .ref a0_1, .ref a0_2, .ref a0_3, a0g_4, a0g_5, a0g_6, .ref a0_7, .int a0_8, a0g_9, a0g_10])), (a0_7, .inr (0, [.int a0_7_0, .int a0_7_1, .int a0_7_2, a0_7g_3, a0_7g_4, .int a0_7_5, .int a0_7_6, a0_7g_7, a0_7g_8, a0_7g_9, .ref a0_7_10, .ref a0_7_11, a0_7g_12, a0_7g_13, .ref a0_7_14])), (a0_7_14, .inr (6, [.int a0_7_14_0, .int a0_7_14_1, .ref a0_7_14_2, .ref a0_7_14_3])), (a0_3, .inr (6, [.int v41na0_0, .int v41na0_1, .ref a0_3_2, .ref a0_3_3])), (a0_7_14_2, .inl (ka0_7_14_2, 3, .inl (fa0_7_14_2))), (a0_3_2, .inl (ka0_3_2, 3, .inl (f94))), (a0_7_14_3, .inl (ka0_7_14_3, 3, .inl (fa0_7_14_3))), (a0_3_3, .inl (ka0_3_3, 3, .inl (j56a0_3_3_a))), (a0_2, .inr (5, [.int j56a0_2_0, .int j56a0_2_1, .int j56a0_2_2, .int j56a0_2_3, .int j56a0_2_4, .ref a0_2_5, .ref a0_2_6])), (a0_1, .inr (5, [.int a0_1_0, .int a0_1_1, .int a0_1_2, .int a0_1_3, .int a0_1_4, .ref a0_1_5, .ref a0_1_6])), (a0_1_5, .inl (ka0_1_5, 9, .inl (fa0_1_5))), (a0_2_5, .inl (ka0_2_5, 9, .inl (j56a0_2_5_a))), (a0_1_6, .inl (ka0_1_6, 9, .inl (fa0_1_6))), (a0_2_6, .inl (ka0_2_6, 9, .inl (j56a0_2_6_a))), (a0_7_10, .inl (ka0_7_10, 9, .inl (fa0_7_10))), (a0_7_11, .inl (ka0_7_11, 9, .inl (fa0_7_11)))] H ∧ va_D A [(a0, .inr (7, [a0g_0, .ref a0_1, .ref a0_2, .ref a0_3, a0g_4, a0g_5, a0g_6, .ref a0_7, .int a0_8, a0g_9, a0g_10])), (a0_7, .inr (0, [.int a0_7_0, .int a0_7_1, .int a0_7_2, a0_7g_3, a0_7g_4, .int a0_7_5, .int a0_7_6, a0_7g_7, a0_7g_8, a0_7g_9, .ref a0_7_10, .ref a0_7_11, a0_7g_12, a0_7g_13, .ref a0_7_14])), (a0_7_14, .inr (6, [.int a0_7_14_0, .int a0_7_14_1, .ref a0_7_14_2, .ref a0_7_14_3])), (a0_3, .inr (6, [.int v41na0_0, .int v41na0_1, .ref a0_3_2, .ref a0_3_3])), (a0_7_14_2, .inl (ka0_7_14_2, 3, .inl (fa0_7_14_2))), (a0_3_2, .inl (ka0_3_2, 3, .inl (f94))), (a0_7_14_3, .inl (ka0_7_14_3, 3, .inl (fa0_7_14_3))), (a0_3_3, .inl (ka0_3_3, 3, .inl (j56a0_3_3_a))), (a0_2, .inr (5, [.int j56a0_2_0, .int j56a0_2_1, .int j56a0_2_2, .int j56a0_2_3, .int j56a0_2_4, .ref a0_2_5, .ref a0_2_6])), (a0_1, .inr (5, [.int a0_1_0, .int a0_1_1, .int a0_1_2, .int a0_1_3, .int a0_1_4, .ref a0_1_5, .ref a0_1_6])), (a0_1_5, .inl (ka0_1_5, 9, .inl (fa0_1_5))), (a0_2_5, .inl (ka0_2_5, 9, .inl (j56a0_2_5_a))), (a0_1_6, .inl (ka0_1_6, 9, .inl (fa0_1_6))), (a0_2_6, .inl (ka0_2_6, 9, .inl (j56a0_2_6_a))), (a0_7_10, .inl (ka0_7_10, 9, .inl (fa0_7_10))), (a0_7_11, .inl (ka0_7_11, 9, .inl (fa0_7_11)))] := ⟨_, ai_upd bj56a0_3_2_a _ ⟨qx93.2.1, qx93.2.2⟩, hP, hD⟩
            refine lv_aload_n hx hb dX7_patrol_95 rfl (lv_at hl 0 rfl) ?_
            refine va_get (D := (dC, dI)) (ci := 7) (v := .ref a0_3) (C := RX7) (T := TX7) (N := 11) hx hb hts zi_X7_patrol_7 hown hK hP 0 rfl rfl 3 (by decide) (hts (.fieldLink RX7 29 "WaxTurns" "trial" "LWaxTurns$Watchers;") (zm_X7_patrol_r1 (List.mem_of_getElem? (i := 0) rfl))) (fun _ h9 => h9) rfl dX7_patrol_96 ?_
            refine va_get (D := (dC, dI)) (ci := 6) (v := .ref a0_3_3) (C := RX6) (T := TX6) (N := 4) hx hb hts zi_X7_patrol_6 hown hK hP 3 rfl rfl 3 (by decide) (hts (.fieldLink RX7 144 "WaxTurns$Watchers" "to" "[I") (zm_X7_patrol_r1 (List.mem_of_getElem? (i := 5) rfl))) (fun _ h9 => h9) rfl dX7_patrol_99 ?_
            refine lv_iload_n hx hb dX7_patrol_102 rfl (lv_at hl 1 rfl) ?_
            refine lv_iload hx hb dX7_patrol_103 (lv_at hl 6 rfl) ?_
            refine lv_aload_n hx hb dX7_patrol_105 rfl (lv_at hl 0 rfl) ?_
            refine va_get (D := (dC, dI)) (ci := 7) (v := .ref a0_7) (C := RX7) (T := TX7) (N := 11) hx hb hts zi_X7_patrol_7 hown hK hP 0 rfl rfl 7 (by decide) (hts (.fieldLink RX7 57 "WaxTurns" "hall" "LWaxTurns$Hall;") (zm_X7_patrol_r1 (List.mem_of_getElem? (i := 1) rfl))) (fun _ h9 => h9) rfl dX7_patrol_106 ?_
            refine va_get (D := (dC, dI)) (ci := 0) (v := .int a0_7_0) (C := RX0) (T := TX0) (N := 15) hx hb hts zi_X7_patrol_0 hown hK hP 1 rfl rfl 0 (by decide) (hts (.fieldLink RX7 110 "WaxTurns$Hall" "figures" "I") (zm_X7_patrol_r1 (List.mem_of_getElem? (i := 3) rfl))) (fun _ h9 => h9) rfl dX7_patrol_109 ?_
            refine lv_irem hx hb dX7_patrol_112 (ai_nz l73f_a0_7_0 (by decide)) ?_
            refine lv_topi (fun x112 ex112 => ?_)
            have qx112 := ai_rem2 ex112 bj56l6_l (Int.lt_of_lt_of_le zq19 l73f_a0_7_0) ba0_7_0_u
            refine va_iast hx hb hK hP hD hS 7 3 rfl rfl (ai_in l2k0_a1 u2k0_a1 (by decide) (by decide)) dX7_patrol_113 (fun H locs hP hD hS => ?_)
            obtain ⟨f113, bf113, hP, hD⟩ : ∃ f113 : Nat → Int32, (∀ k, (0 : Int) ≤ (f113 k).toInt ∧ (f113 k).toInt ≤ 80) ∧ va_P (dC, dI) vwCl [(a0, .inr (7, [a0g_0, .ref a0_1, .ref a0_2, .ref a0_3, a0g_4, a0g_5, a0g_6, .ref a0_7, .int a0_8, a0g_9, a0g_10])), (a0_7, .inr (0, [.int a0_7_0, .int a0_7_1, .int a0_7_2, a0_7g_3, a0_7g_4, .int a0_7_5, .int a0_7_6, a0_7g_7, a0_7g_8, a0_7g_9, .ref a0_7_10, .ref a0_7_11, a0_7g_12, a0_7g_13, .ref a0_7_14])), (a0_7_14, .inr (6, [.int a0_7_14_0, .int a0_7_14_1, .ref a0_7_14_2, .ref a0_7_14_3])), (a0_3, .inr (6, [.int v41na0_0, .int v41na0_1, .ref a0_3_2, .ref a0_3_3])), (a0_7_14_2, .inl (ka0_7_14_2, 3, .inl (fa0_7_14_2))), (a0_3_2, .inl (ka0_3_2, 3, .inl (f94))), (a0_7_14_3, .inl (ka0_7_14_3, 3, .inl (fa0_7_14_3))), (a0_3_3, .inl (ka0_3_3, 3, .inl (f113))), (a0_2, .inr (5, [.int j56a0_2_0, .int j56a0_2_1, .int j56a0_2_2, .int j56a0_2_3, .int j56a0_2_4, .ref a0_2_5, .ref a0_2_6])), (a0_1, .inr (5, [.int a0_1_0, .int a0_1_1, .int a0_1_2, .int a0_1_3, .int a0_1_4, .ref a0_1_5, .ref a0_1_6])), (a0_1_5, .inl (ka0_1_5, 9, .inl (fa0_1_5))), (a0_2_5, .inl (ka0_2_5, 9, .inl (j56a0_2_5_a))), (a0_1_6, .inl (ka0_1_6, 9, .inl (fa0_1_6))), (a0_2_6, .inl (ka0_2_6, 9, .inl (j56a0_2_6_a))), (a0_7_10, .inl (ka0_7_10, 9, .inl (fa0_7_10))), (a0_7_11, .inl (ka0_7_11, 9, .inl (fa0_7_11)))] H ∧ va_D A [(a0, .inr (7, [a0g_0, .ref a0_1, .ref a0_2, .ref a0_3, a0g_4, a0g_5, a0g_6, .ref a0_7, .int a0_8, a0g_9, a0g_10])), (a0_7, .inr (0, [.int a0_7_0, .int a0_7_1, .int a0_7_2, a0_7g_3, a0_7g_4, .int a0_7_5, .int a0_7_6, a0_7g_7, a0_7g_8, a0_7g_9, .ref a0_7_10, .ref a0_7_11, a0_7g_12, a0_7g_13, .ref a0_7_14])), (a0_7_14, .inr (6, [.int a0_7_14_0, .int a0_7_14_1, .ref a0_7_14_2, .ref a0_7_14_3])), (a0_3, .inr (6, [.int v41na0_0, .int v41na0_1, .ref a0_3_2, .ref a0_3_3])), (a0_7_14_2, .inl (ka0_7_14_2, 3, .inl (fa0_7_14_2))), (a0_3_2, .inl (ka0_3_2, 3, .inl (f94))), (a0_7_14_3, .inl (ka0_7_14_3, 3, .inl (fa0_7_14_3))), (a0_3_3, .inl (ka0_3_3, 3, .inl (f113))), (a0_2, .inr (5, [.int j56a0_2_0, .int j56a0_2_1, .int j56a0_2_2, .int j56a0_2_3, .int j56a0_2_4, .ref a0_2_5, .ref a0_2_6])), (a0_1, .inr (5, [.int a0_1_0, .int a0_1_1, .int a0_1_2, .int a0_1_3, .int a0_1_4, .ref a0_1_5, .ref a0_1_6])), (a0_1_5, .inl (ka0_1_5, 9, .inl (fa0_1_5))), (a0_2_5, .inl (ka0_2_5, 9, .inl (j56a0_2_5_a))), (a0_1_6, .inl (ka0_1_6, 9, .inl (fa0_1_6))), (a0_2_6, .inl (ka0_2_6, 9, .inl (j56a0_2_6_a))), (a0_7_10, .inl (ka0_7_10, 9, .inl (fa0_7_10))), (a0_7_11, .inl (ka0_7_11, 9, .inl (fa0_7_11)))] := ⟨_, ai_upd bj56a0_3_3_a _ ⟨qx112.2.1, (Int.le_trans qx112.2.2 zq10)⟩, hP, hD⟩
            refine lv_aload_n hx hb dX7_patrol_114 rfl (lv_at hl 0 rfl) ?_
            refine lv_iload_n hx hb dX7_patrol_115 rfl (lv_at hl 2 rfl) ?_
            refine zc_cutc (wc := [(a0, .inr (7, [a0g_0, .ref a0_1, .ref a0_2, .ref a0_3, a0g_4, a0g_5, a0g_6, .ref a0_7, .int a0_8, a0g_9, a0g_10])), (a0_2, .inr (5, [.int j56a0_2_0, .int j56a0_2_1, .int j56a0_2_2, .int j56a0_2_3, .int j56a0_2_4, .ref a0_2_5, .ref a0_2_6])), (a0_1, .inr (5, [.int a0_1_0, .int a0_1_1, .int a0_1_2, .int a0_1_3, .int a0_1_4, .ref a0_1_5, .ref a0_1_6])), (a0_1_5, .inl (ka0_1_5, 9, .inl (fa0_1_5))), (a0_2_5, .inl (ka0_2_5, 9, .inl (j56a0_2_5_a))), (a0_1_6, .inl (ka0_1_6, 9, .inl (fa0_1_6))), (a0_2_6, .inl (ka0_2_6, 9, .inl (j56a0_2_6_a))), (a0_7, .inr (0, [.int a0_7_0, .int a0_7_1, .int a0_7_2, a0_7g_3, a0_7g_4, .int a0_7_5, .int a0_7_6, a0_7g_7, a0_7g_8, a0_7g_9, .ref a0_7_10, .ref a0_7_11, a0_7g_12, a0_7g_13, .ref a0_7_14])), (a0_7_10, .inl (ka0_7_10, 9, .inl (fa0_7_10))), (a0_7_11, .inl (ka0_7_11, 9, .inl (fa0_7_11))), (a0_3, .inr (6, [.int v41na0_0, .int v41na0_1, .ref a0_3_2, .ref a0_3_3])), (a0_3_3, .inl (ka0_3_3, 3, .inl (f113))), (a0_3_2, .inl (ka0_3_2, 3, .inl (f94)))]) hP hD hS hA [0, 8, 9, 10, 11, 12, 13, 1, 14, 15, 3, 7, 5] (by decide +kernel) rfl (fun hPc hDc hFc hCc => ?_)
            have hKc := hK.sub (tys' := [(ka0_1_5, .int), (ka0_2_5, .int), (ka0_1_6, .int), (ka0_2_6, .int), (ka0_7_10, .int), (ka0_7_11, .int), (ka0_3_3, .int), (ka0_3_2, .int)]) [4, 5, 6, 7, 8, 9, 3, 1] rfl
            refine va_callv (va_runV (As := [.int a2]) (rest := []) ⟨hx, hb, hml, hown, hts⟩ (c_X7_runAheadOnTrial l dC dI H.size a0 a2 a0g_0 a0g_4 a0g_5 a0g_6 (.int a0_8) a0g_9 a0g_10 a0_1 a0_2 a0_3 a0_7 j56a0_2_0 j56a0_2_1 j56a0_2_2 j56a0_2_3 j56a0_2_4 a0_2_5 a0_2_6 a0_1_0 a0_1_1 a0_1_2 a0_1_3 a0_1_4 a0_1_5 a0_1_6 ka0_1_5 fa0_1_5 ka0_2_5 j56a0_2_5_a ka0_1_6 fa0_1_6 ka0_2_6 j56a0_2_6_a a0_7_0 a0_7_1 a0_7_2 a0_7g_3 a0_7g_4 a0_7g_7 a0_7g_8 a0_7g_9 a0_7g_12 a0_7g_13 (.ref a0_7_14) a0_7_5 a0_7_6 a0_7_10 a0_7_11 ka0_7_10 fa0_7_10 ka0_7_11 fa0_7_11 v41na0_0 v41na0_1 a0_3_2 a0_3_3 ka0_3_3 f113 ka0_3_2 f94 bj56a0_2_1_l bj56a0_2_1_u ba0_1_1_l ba0_1_1_u (Int.le_trans zq4 l73f_a0_7_0) ba0_7_0_u ba0_7_5_l ba0_7_5_u ba0_7_6_l ba0_7_6_u bv41na0_0.1 bv41na0_0.2 bf113 bf94) (cwV 1 hts gX7_patrol_X7_runAheadOnTrial rfl rfl rfl zd_X7_runAheadOnTrial ⟨Nat.le_of_ble_eq_true rfl, Nat.le_of_ble_eq_true rfl⟩) ⟨ax_blind (fun _ _ _ _ hq => ⟨va_Nw.same rfl rfl (hq.1), va_Nw.same rfl rfl (hq.2.1), va_Nw.same rfl rfl (hq.2.2)⟩), zr_7 hKc hPc (q0 := 0) rfl, ax_pre hPc hKc hDc (fun _ hW => ⟨va_Nw.warmM hW hE0, va_Nw.warmM hW hE1, va_Nw.warmM hW hE2⟩)⟩ rfl rfl hl.1 rfl (lv_room (Nat.le_of_ble_eq_true rfl)) dX7_patrol_116 ⟨Nat.le_of_ble_eq_true rfl, Nat.le_of_ble_eq_true rfl⟩) hS (fun q _ h => hFc q h) hFc (fun u t H locs ht hvm hw hB hz1 hk1 hS => zx_7 hB (fun v116na0_2_0 v116na0_2_1 v116na0_2_2 v116na0_2_3 v116na0_2_4 v116nfa0_2_5 v116nfa0_2_6 hB => zy_1 hB (fun bv116na0_2_1 hB => zo hB ht (fun hP1 hK1 hD1 => ?_))))
            refine zc_backc (w := [(a0, .inr (7, [a0g_0, .ref a0_1, .ref a0_2, .ref a0_3, a0g_4, a0g_5, a0g_6, .ref a0_7, .int a0_8, a0g_9, a0g_10])), (a0_7, .inr (0, [.int a0_7_0, .int a0_7_1, .int a0_7_2, a0_7g_3, a0_7g_4, .int a0_7_5, .int a0_7_6, a0_7g_7, a0_7g_8, a0_7g_9, .ref a0_7_10, .ref a0_7_11, a0_7g_12, a0_7g_13, .ref a0_7_14])), (a0_7_14, .inr (6, [.int a0_7_14_0, .int a0_7_14_1, .ref a0_7_14_2, .ref a0_7_14_3])), (a0_3, .inr (6, [.int v41na0_0, .int v41na0_1, .ref a0_3_2, .ref a0_3_3])), (a0_7_14_2, .inl (ka0_7_14_2, 3, .inl (fa0_7_14_2))), (a0_3_2, .inl (ka0_3_2, 3, .inl (f94))), (a0_7_14_3, .inl (ka0_7_14_3, 3, .inl (fa0_7_14_3))), (a0_3_3, .inl (ka0_3_3, 3, .inl (f113))), (a0_2, .inr (5, [.int v116na0_2_0, .int v116na0_2_1, .int v116na0_2_2, .int v116na0_2_3, .int v116na0_2_4, .ref a0_2_5, .ref a0_2_6])), (a0_1, .inr (5, [.int a0_1_0, .int a0_1_1, .int a0_1_2, .int a0_1_3, .int a0_1_4, .ref a0_1_5, .ref a0_1_6])), (a0_1_5, .inl (ka0_1_5, 9, .inl (fa0_1_5))), (a0_2_5, .inl (ka0_2_5, 9, .inl (v116nfa0_2_5))), (a0_1_6, .inl (ka0_1_6, 9, .inl (fa0_1_6))), (a0_2_6, .inl (ka0_2_6, 9, .inl (v116nfa0_2_6))), (a0_7_10, .inl (ka0_7_10, 9, .inl (fa0_7_10))), (a0_7_11, .inl (ka0_7_11, 9, .inl (fa0_7_11)))]) hP hD hCc hk1 hFc hP1 hD1 [.inr 0, .inr 7, .inl 2, .inr 10, .inl 4, .inr 12, .inl 6, .inr 11, .inr 1, .inr 2, .inr 3, .inr 4, .inr 5, .inr 6, .inr 8, .inr 9] (by decide +kernel) rfl (fun hP hD => ?_)
            refine lv_aload_n hx hb dX7_patrol_119 rfl (lv_at hl 0 rfl) ?_
            refine va_get (D := (dC, dI)) (ci := 7) (v := .ref a0_2) (C := RX7) (T := TX7) (N := 11) hx hb hts zi_X7_patrol_7 hown hK hP 0 rfl rfl 2 (by decide) (hts (.fieldLink RX7 23 "WaxTurns" "ahead" "LWaxTurns$Scene;") (zm_X7_patrol_r1 (List.mem_of_getElem? (i := 6) rfl))) (fun _ h9 => h9) rfl dX7_patrol_120 ?_
            refine va_get (D := (dC, dI)) (ci := 5) (v := .int v116na0_2_3) (C := RX5) (T := TX5) (N := 7) hx hb hts zi_X7_patrol_5 hown hK hP 8 rfl rfl 3 (by decide) (hts (.fieldLink RX7 191 "WaxTurns$Scene" "goneBits" "I") (zm_X7_patrol_r1 (List.mem_of_getElem? (i := 7) rfl))) (fun _ h9 => h9) rfl dX7_patrol_123 ?_
            refine va_calli (va_runS (As := [.int v116na0_2_3]) (rest := []) ⟨hx, hb, hml, hown, hts⟩ (c_J6_bitCount_0f7a4 l dC dI H.size v116na0_2_3 ) (va_cwS 1 hts gX7_patrol_J6_bitCount_0f7a4 rfl rfl rfl zd_J6_bitCount_0f7a4.2 ⟨Nat.le_of_ble_eq_true rfl, Nat.le_of_ble_eq_true rfl⟩) ⟨ax_blind (fun _ _ _ _ _ => trivial), ax_pre (zp_P0 hP) (zp_K hK) (zp_D0 hD) (fun _ _ => trivial)⟩ rfl rfl hl.1 rfl (lv_room (Nat.le_of_ble_eq_true rfl)) dX7_patrol_126 ⟨Nat.le_of_ble_eq_true rfl, Nat.le_of_ble_eq_true rfl⟩) hS (fun q _ h => zp_F0 hD hS hA q h) (zp_F0 hD hS hA) (fun r126 u t H locs ht hvm hw hB hz1 hk1 hS1 => zo0 hB ht hP hD hk1 (zp_F0 hD hS hA) hS1 (fun hP hK1 hD hS => ?_))
            refine lv_istore (lv' := [(7, .int r126), (0, .ref a0), (1, .int a1), (2, .int a2), (3, .int j56l3), (4, .int j56l4), (5, .int j56l5), (6, .int j56l6)]) hx hb dX7_patrol_129 hl (by decide) rfl (fun ls hl => ?_)
            refine lv_iload hx hb dX7_patrol_131 (lv_at hl 0 rfl) ?_
            refine lv_iload hx hb dX7_patrol_133 (lv_at hl 5 rfl) ?_
            have J143 : ∀ (j143s0 : Int32) (H : Heap) (locs : List Loc) (ls : Array Slot), (0 : Int) ≤ j143s0.toInt → j143s0.toInt ≤ (1 : Int) → va_P (dC, dI) vwCl [(a0, .inr (7, [a0g_0, .ref a0_1, .ref a0_2, .ref a0_3, a0g_4, a0g_5, a0g_6, .ref a0_7, .int a0_8, a0g_9, a0g_10])), (a0_7, .inr (0, [.int a0_7_0, .int a0_7_1, .int a0_7_2, a0_7g_3, a0_7g_4, .int a0_7_5, .int a0_7_6, a0_7g_7, a0_7g_8, a0_7g_9, .ref a0_7_10, .ref a0_7_11, a0_7g_12, a0_7g_13, .ref a0_7_14])), (a0_7_14, .inr (6, [.int a0_7_14_0, .int a0_7_14_1, .ref a0_7_14_2, .ref a0_7_14_3])), (a0_3, .inr (6, [.int v41na0_0, .int v41na0_1, .ref a0_3_2, .ref a0_3_3])), (a0_7_14_2, .inl (ka0_7_14_2, 3, .inl (fa0_7_14_2))), (a0_3_2, .inl (ka0_3_2, 3, .inl (f94))), (a0_7_14_3, .inl (ka0_7_14_3, 3, .inl (fa0_7_14_3))), (a0_3_3, .inl (ka0_3_3, 3, .inl (f113))), (a0_2, .inr (5, [.int v116na0_2_0, .int v116na0_2_1, .int v116na0_2_2, .int v116na0_2_3, .int v116na0_2_4, .ref a0_2_5, .ref a0_2_6])), (a0_1, .inr (5, [.int a0_1_0, .int a0_1_1, .int a0_1_2, .int a0_1_3, .int a0_1_4, .ref a0_1_5, .ref a0_1_6])), (a0_1_5, .inl (ka0_1_5, 9, .inl (fa0_1_5))), (a0_2_5, .inl (ka0_2_5, 9, .inl (v116nfa0_2_5))), (a0_1_6, .inl (ka0_1_6, 9, .inl (fa0_1_6))), (a0_2_6, .inl (ka0_2_6, 9, .inl (v116nfa0_2_6))), (a0_7_10, .inl (ka0_7_10, 9, .inl (fa0_7_10))), (a0_7_11, .inl (ka0_7_11, 9, .inl (fa0_7_11)))] H → va_D A [(a0, .inr (7, [a0g_0, .ref a0_1, .ref a0_2, .ref a0_3, a0g_4, a0g_5, a0g_6, .ref a0_7, .int a0_8, a0g_9, a0g_10])), (a0_7, .inr (0, [.int a0_7_0, .int a0_7_1, .int a0_7_2, a0_7g_3, a0_7g_4, .int a0_7_5, .int a0_7_6, a0_7g_7, a0_7g_8, a0_7g_9, .ref a0_7_10, .ref a0_7_11, a0_7g_12, a0_7g_13, .ref a0_7_14])), (a0_7_14, .inr (6, [.int a0_7_14_0, .int a0_7_14_1, .ref a0_7_14_2, .ref a0_7_14_3])), (a0_3, .inr (6, [.int v41na0_0, .int v41na0_1, .ref a0_3_2, .ref a0_3_3])), (a0_7_14_2, .inl (ka0_7_14_2, 3, .inl (fa0_7_14_2))), (a0_3_2, .inl (ka0_3_2, 3, .inl (f94))), (a0_7_14_3, .inl (ka0_7_14_3, 3, .inl (fa0_7_14_3))), (a0_3_3, .inl (ka0_3_3, 3, .inl (f113))), (a0_2, .inr (5, [.int v116na0_2_0, .int v116na0_2_1, .int v116na0_2_2, .int v116na0_2_3, .int v116na0_2_4, .ref a0_2_5, .ref a0_2_6])), (a0_1, .inr (5, [.int a0_1_0, .int a0_1_1, .int a0_1_2, .int a0_1_3, .int a0_1_4, .ref a0_1_5, .ref a0_1_6])), (a0_1_5, .inl (ka0_1_5, 9, .inl (fa0_1_5))), (a0_2_5, .inl (ka0_2_5, 9, .inl (v116nfa0_2_5))), (a0_1_6, .inl (ka0_1_6, 9, .inl (fa0_1_6))), (a0_2_6, .inl (ka0_2_6, 9, .inl (v116nfa0_2_6))), (a0_7_10, .inl (ka0_7_10, 9, .inl (fa0_7_10))), (a0_7_11, .inl (ka0_7_11, 9, .inl (fa0_7_11)))] → va_S A s.heap H locs → lv_has ls 9 [(0, .ref a0), (1, .int a1), (2, .int a2), (3, .int j56l3), (4, .int j56l4), (5, .int j56l5), (6, .int j56l6), (7, .int r126)] → K H locs (F0 m 143 ls [.int j143s0]) := by
              intro j143s0 H locs ls  bj143s0_l bj143s0_u hP hD hS hl
              refine (hK0 _ _ _).mpr ?_
              refine lv_istore (lv' := [(8, .int j143s0), (0, .ref a0), (1, .int a1), (2, .int a2), (3, .int j56l3), (4, .int j56l4), (5, .int j56l5), (6, .int j56l6), (7, .int r126)]) hx hb dX7_patrol_143 hl (by decide) rfl (fun ls hl => ?_)
              refine lv_iload hx hb dX7_patrol_145 (lv_at hl 0 rfl) ?_
              have J205 : ∀ (j205l3 : Int32) (j205l4 : Int32) (j205l5 : Int32) (H : Heap) (locs : List Loc) (ls : Array Slot), (0 : Int) ≤ j205l3.toInt → j205l3.toInt ≤ (880 : Int) → va_P (dC, dI) vwCl [(a0, .inr (7, [a0g_0, .ref a0_1, .ref a0_2, .ref a0_3, a0g_4, a0g_5, a0g_6, .ref a0_7, .int a0_8, a0g_9, a0g_10])), (a0_7, .inr (0, [.int a0_7_0, .int a0_7_1, .int a0_7_2, a0_7g_3, a0_7g_4, .int a0_7_5, .int a0_7_6, a0_7g_7, a0_7g_8, a0_7g_9, .ref a0_7_10, .ref a0_7_11, a0_7g_12, a0_7g_13, .ref a0_7_14])), (a0_7_14, .inr (6, [.int a0_7_14_0, .int a0_7_14_1, .ref a0_7_14_2, .ref a0_7_14_3])), (a0_3, .inr (6, [.int v41na0_0, .int v41na0_1, .ref a0_3_2, .ref a0_3_3])), (a0_7_14_2, .inl (ka0_7_14_2, 3, .inl (fa0_7_14_2))), (a0_3_2, .inl (ka0_3_2, 3, .inl (f94))), (a0_7_14_3, .inl (ka0_7_14_3, 3, .inl (fa0_7_14_3))), (a0_3_3, .inl (ka0_3_3, 3, .inl (f113))), (a0_2, .inr (5, [.int v116na0_2_0, .int v116na0_2_1, .int v116na0_2_2, .int v116na0_2_3, .int v116na0_2_4, .ref a0_2_5, .ref a0_2_6])), (a0_1, .inr (5, [.int a0_1_0, .int a0_1_1, .int a0_1_2, .int a0_1_3, .int a0_1_4, .ref a0_1_5, .ref a0_1_6])), (a0_1_5, .inl (ka0_1_5, 9, .inl (fa0_1_5))), (a0_2_5, .inl (ka0_2_5, 9, .inl (v116nfa0_2_5))), (a0_1_6, .inl (ka0_1_6, 9, .inl (fa0_1_6))), (a0_2_6, .inl (ka0_2_6, 9, .inl (v116nfa0_2_6))), (a0_7_10, .inl (ka0_7_10, 9, .inl (fa0_7_10))), (a0_7_11, .inl (ka0_7_11, 9, .inl (fa0_7_11)))] H → va_D A [(a0, .inr (7, [a0g_0, .ref a0_1, .ref a0_2, .ref a0_3, a0g_4, a0g_5, a0g_6, .ref a0_7, .int a0_8, a0g_9, a0g_10])), (a0_7, .inr (0, [.int a0_7_0, .int a0_7_1, .int a0_7_2, a0_7g_3, a0_7g_4, .int a0_7_5, .int a0_7_6, a0_7g_7, a0_7g_8, a0_7g_9, .ref a0_7_10, .ref a0_7_11, a0_7g_12, a0_7g_13, .ref a0_7_14])), (a0_7_14, .inr (6, [.int a0_7_14_0, .int a0_7_14_1, .ref a0_7_14_2, .ref a0_7_14_3])), (a0_3, .inr (6, [.int v41na0_0, .int v41na0_1, .ref a0_3_2, .ref a0_3_3])), (a0_7_14_2, .inl (ka0_7_14_2, 3, .inl (fa0_7_14_2))), (a0_3_2, .inl (ka0_3_2, 3, .inl (f94))), (a0_7_14_3, .inl (ka0_7_14_3, 3, .inl (fa0_7_14_3))), (a0_3_3, .inl (ka0_3_3, 3, .inl (f113))), (a0_2, .inr (5, [.int v116na0_2_0, .int v116na0_2_1, .int v116na0_2_2, .int v116na0_2_3, .int v116na0_2_4, .ref a0_2_5, .ref a0_2_6])), (a0_1, .inr (5, [.int a0_1_0, .int a0_1_1, .int a0_1_2, .int a0_1_3, .int a0_1_4, .ref a0_1_5, .ref a0_1_6])), (a0_1_5, .inl (ka0_1_5, 9, .inl (fa0_1_5))), (a0_2_5, .inl (ka0_2_5, 9, .inl (v116nfa0_2_5))), (a0_1_6, .inl (ka0_1_6, 9, .inl (fa0_1_6))), (a0_2_6, .inl (ka0_2_6, 9, .inl (v116nfa0_2_6))), (a0_7_10, .inl (ka0_7_10, 9, .inl (fa0_7_10))), (a0_7_11, .inl (ka0_7_11, 9, .inl (fa0_7_11)))] → va_S A s.heap H locs → lv_has ls 9 [(0, .ref a0), (1, .int a1), (2, .int a2), (3, .int j205l3), (4, .int j205l4), (5, .int j205l5), (6, .int j56l6)] → K H locs (F0 m 205 ls []) := by
                intro j205l3 j205l4 j205l5 H locs ls  bj205l3_l bj205l3_u hP hD hS hl
                refine (hK0 _ _ _).mpr ?_
                obtain ⟨x205, ex205⟩ : ∃ y : Int32, y = j56l6 + Int32.ofInt 1 := ⟨_, rfl⟩
                have qx205 : x205.toInt = j56l6.toInt + 1 := ai_inc ex205 (by decide) (by decide) u73f_j56l6 (by decide)
                have bx205 : (1 : Int) ≤ x205.toInt ∧ x205.toInt ≤ 81 := ⟨by rw [qx205]; exact Int.add_le_add bj56l6_l (Int.le_refl _), by rw [qx205]; exact Int.add_le_add u73f_j56l6 (Int.le_refl _)⟩
                refine lv_iinc (v := x205) (lv' := [(6, .int x205), (0, .ref a0), (1, .int a1), (2, .int a2), (3, .int j205l3), (4, .int j205l4), (5, .int j205l5)]) hx hb dX7_patrol_205 hl (k := 6) rfl ex205.symm (by decide) rfl (fun ls hl => ?_)
                refine lv_goto (tgt := 56) hx hb dX7_patrol_208 (by decide) ?_
                exact (hK0 _ _ _).mp (ih56 x205 j205l5 j205l4 j205l3 f94 f113 v116na0_2_0 v116na0_2_1 v116na0_2_2 v116na0_2_3 v116na0_2_4 v116nfa0_2_5 v116nfa0_2_6 _ _ _ (by have h0 := qx205; omega) (Int.le_trans zq4 bx205.1) bx205.2 bj205l3_l bj205l3_u bf94 bf113 bv116na0_2_1.1 bv116na0_2_1.2 hP hD hS (lv_sub hl [1, 2, 3, 4, 5, 6, 0] rfl))
              have J169 : ∀ (H : Heap) (locs : List Loc) (ls : Array Slot), va_P (dC, dI) vwCl [(a0, .inr (7, [a0g_0, .ref a0_1, .ref a0_2, .ref a0_3, a0g_4, a0g_5, a0g_6, .ref a0_7, .int a0_8, a0g_9, a0g_10])), (a0_7, .inr (0, [.int a0_7_0, .int a0_7_1, .int a0_7_2, a0_7g_3, a0_7g_4, .int a0_7_5, .int a0_7_6, a0_7g_7, a0_7g_8, a0_7g_9, .ref a0_7_10, .ref a0_7_11, a0_7g_12, a0_7g_13, .ref a0_7_14])), (a0_7_14, .inr (6, [.int a0_7_14_0, .int a0_7_14_1, .ref a0_7_14_2, .ref a0_7_14_3])), (a0_3, .inr (6, [.int v41na0_0, .int v41na0_1, .ref a0_3_2, .ref a0_3_3])), (a0_7_14_2, .inl (ka0_7_14_2, 3, .inl (fa0_7_14_2))), (a0_3_2, .inl (ka0_3_2, 3, .inl (f94))), (a0_7_14_3, .inl (ka0_7_14_3, 3, .inl (fa0_7_14_3))), (a0_3_3, .inl (ka0_3_3, 3, .inl (f113))), (a0_2, .inr (5, [.int v116na0_2_0, .int v116na0_2_1, .int v116na0_2_2, .int v116na0_2_3, .int v116na0_2_4, .ref a0_2_5, .ref a0_2_6])), (a0_1, .inr (5, [.int a0_1_0, .int a0_1_1, .int a0_1_2, .int a0_1_3, .int a0_1_4, .ref a0_1_5, .ref a0_1_6])), (a0_1_5, .inl (ka0_1_5, 9, .inl (fa0_1_5))), (a0_2_5, .inl (ka0_2_5, 9, .inl (v116nfa0_2_5))), (a0_1_6, .inl (ka0_1_6, 9, .inl (fa0_1_6))), (a0_2_6, .inl (ka0_2_6, 9, .inl (v116nfa0_2_6))), (a0_7_10, .inl (ka0_7_10, 9, .inl (fa0_7_10))), (a0_7_11, .inl (ka0_7_11, 9, .inl (fa0_7_11)))] H → va_D A [(a0, .inr (7, [a0g_0, .ref a0_1, .ref a0_2, .ref a0_3, a0g_4, a0g_5, a0g_6, .ref a0_7, .int a0_8, a0g_9, a0g_10])), (a0_7, .inr (0, [.int a0_7_0, .int a0_7_1, .int a0_7_2, a0_7g_3, a0_7g_4, .int a0_7_5, .int a0_7_6, a0_7g_7, a0_7g_8, a0_7g_9, .ref a0_7_10, .ref a0_7_11, a0_7g_12, a0_7g_13, .ref a0_7_14])), (a0_7_14, .inr (6, [.int a0_7_14_0, .int a0_7_14_1, .ref a0_7_14_2, .ref a0_7_14_3])), (a0_3, .inr (6, [.int v41na0_0, .int v41na0_1, .ref a0_3_2, .ref a0_3_3])), (a0_7_14_2, .inl (ka0_7_14_2, 3, .inl (fa0_7_14_2))), (a0_3_2, .inl (ka0_3_2, 3, .inl (f94))), (a0_7_14_3, .inl (ka0_7_14_3, 3, .inl (fa0_7_14_3))), (a0_3_3, .inl (ka0_3_3, 3, .inl (f113))), (a0_2, .inr (5, [.int v116na0_2_0, .int v116na0_2_1, .int v116na0_2_2, .int v116na0_2_3, .int v116na0_2_4, .ref a0_2_5, .ref a0_2_6])), (a0_1, .inr (5, [.int a0_1_0, .int a0_1_1, .int a0_1_2, .int a0_1_3, .int a0_1_4, .ref a0_1_5, .ref a0_1_6])), (a0_1_5, .inl (ka0_1_5, 9, .inl (fa0_1_5))), (a0_2_5, .inl (ka0_2_5, 9, .inl (v116nfa0_2_5))), (a0_1_6, .inl (ka0_1_6, 9, .inl (fa0_1_6))), (a0_2_6, .inl (ka0_2_6, 9, .inl (v116nfa0_2_6))), (a0_7_10, .inl (ka0_7_10, 9, .inl (fa0_7_10))), (a0_7_11, .inl (ka0_7_11, 9, .inl (fa0_7_11)))] → va_S A s.heap H locs → lv_has ls 9 [(0, .ref a0), (1, .int a1), (2, .int a2), (6, .int j56l6), (7, .int r126)] → K H locs (F0 m 169 ls []) := by
                intro  H locs ls   hP hD hS hl
                refine (hK0 _ _ _).mpr ?_
                refine lv_iload hx hb dX7_patrol_169 (lv_at hl 4 rfl) ?_
                refine lv_istore (lv' := [(4, .int r126), (0, .ref a0), (1, .int a1), (2, .int a2), (6, .int j56l6), (7, .int r126)]) hx hb dX7_patrol_171 hl (by decide) rfl (fun ls hl => ?_)
                refine lv_aload_n hx hb dX7_patrol_173 rfl (lv_at hl 1 rfl) ?_
                refine va_get (D := (dC, dI)) (ci := 7) (v := .ref a0_2) (C := RX7) (T := TX7) (N := 11) hx hb hts zi_X7_patrol_7 hown hK hP 0 rfl rfl 2 (by decide) (hts (.fieldLink RX7 23 "WaxTurns" "ahead" "LWaxTurns$Scene;") (zm_X7_patrol_r1 (List.mem_of_getElem? (i := 6) rfl))) (fun _ h9 => h9) rfl dX7_patrol_174 ?_
                refine va_get (D := (dC, dI)) (ci := 5) (v := .int v116na0_2_4) (C := RX5) (T := TX5) (N := 7) hx hb hts zi_X7_patrol_5 hown hK hP 8 rfl rfl 4 (by decide) (hts (.fieldLink RX7 167 "WaxTurns$Scene" "catchCount" "I") (zm_X7_patrol_r1 (List.mem_of_getElem? (i := 8) rfl))) (fun _ h9 => h9) rfl dX7_patrol_177 ?_
                refine lv_istore (lv' := [(5, .int v116na0_2_4), (4, .int r126), (0, .ref a0), (1, .int a1), (2, .int a2), (6, .int j56l6), (7, .int r126)]) hx hb dX7_patrol_180 hl (by decide) rfl (fun ls hl => ?_)
                refine lv_bipush (v := 10) hx hb dX7_patrol_182 zk_bipush_10 ?_
                refine lv_aload_n hx hb dX7_patrol_184 rfl (lv_at hl 2 rfl) ?_
                refine va_get (D := (dC, dI)) (ci := 7) (v := .ref a0_3) (C := RX7) (T := TX7) (N := 11) hx hb hts zi_X7_patrol_7 hown hK hP 0 rfl rfl 3 (by decide) (hts (.fieldLink RX7 29 "WaxTurns" "trial" "LWaxTurns$Watchers;") (zm_X7_patrol_r1 (List.mem_of_getElem? (i := 0) rfl))) (fun _ h9 => h9) rfl dX7_patrol_185 ?_
                refine va_get (D := (dC, dI)) (ci := 6) (v := .ref a0_3_2) (C := RX6) (T := TX6) (N := 4) hx hb hts zi_X7_patrol_6 hown hK hP 3 rfl rfl 2 (by decide) (hts (.fieldLink RX7 141 "WaxTurns$Watchers" "from" "[I") (zm_X7_patrol_r1 (List.mem_of_getElem? (i := 4) rfl))) (fun _ h9 => h9) rfl dX7_patrol_188 ?_
                refine lv_iload_n hx hb dX7_patrol_191 rfl (lv_at hl 3 rfl) ?_
                refine va_iald hx hb hK hP 5 1 rfl rfl (ai_in l2k0_a1 u2k0_a1 (by decide) (by decide)) dX7_patrol_192 ?_
                refine lv_topi (fun x192 ex192 => ?_)
                have bx192 : (0 : Int) ≤ x192.toInt ∧ x192.toInt ≤ 80 := by rw [ex192]; exact bf94 _
                refine lv_imul hx hb dX7_patrol_193 ?_
                refine lv_topi (fun x193 ex193 => ?_)
                have qx193 : x193.toInt = (10 : Int32).toInt * x192.toInt ∧ (0 : Int) ≤ x193.toInt ∧ x193.toInt ≤ 800 := ai_mul ex193 ⟨zq26, zq27⟩ ⟨bx192.1, bx192.2⟩ (by decide) (by decide) zq91
                have wx193 : x193.toInt = 10 * x192.toInt := qx193.1
                refine lv_aload_n hx hb dX7_patrol_194 rfl (lv_at hl 2 rfl) ?_
                refine va_get (D := (dC, dI)) (ci := 7) (v := .ref a0_3) (C := RX7) (T := TX7) (N := 11) hx hb hts zi_X7_patrol_7 hown hK hP 0 rfl rfl 3 (by decide) (hts (.fieldLink RX7 29 "WaxTurns" "trial" "LWaxTurns$Watchers;") (zm_X7_patrol_r1 (List.mem_of_getElem? (i := 0) rfl))) (fun _ h9 => h9) rfl dX7_patrol_195 ?_
                refine va_get (D := (dC, dI)) (ci := 6) (v := .ref a0_3_3) (C := RX6) (T := TX6) (N := 4) hx hb hts zi_X7_patrol_6 hown hK hP 3 rfl rfl 3 (by decide) (hts (.fieldLink RX7 144 "WaxTurns$Watchers" "to" "[I") (zm_X7_patrol_r1 (List.mem_of_getElem? (i := 5) rfl))) (fun _ h9 => h9) rfl dX7_patrol_198 ?_
                refine lv_iload_n hx hb dX7_patrol_201 rfl (lv_at hl 3 rfl) ?_
                refine va_iald hx hb hK hP 7 3 rfl rfl (ai_in l2k0_a1 u2k0_a1 (by decide) (by decide)) dX7_patrol_202 ?_
                refine lv_topi (fun x202 ex202 => ?_)
                have bx202 : (0 : Int) ≤ x202.toInt ∧ x202.toInt ≤ 80 := by rw [ex202]; exact bf113 _
                refine lv_iadd hx hb dX7_patrol_203 ?_
                refine lv_topi (fun x203 ex203 => ?_)
                have qx203 : x203.toInt = x193.toInt + x202.toInt := ai_add ex203 ⟨qx193.2.1, qx193.2.2⟩ ⟨bx202.1, bx202.2⟩ (by decide) (by decide)
                have bx203 : (0 : Int) ≤ x203.toInt ∧ x203.toInt ≤ 880 := ⟨by rw [qx203]; exact Int.add_le_add qx193.2.1 bx202.1, by rw [qx203]; exact Int.add_le_add qx193.2.2 bx202.2⟩
                refine lv_istore_n (lv' := [(3, .int x203), (5, .int v116na0_2_4), (4, .int r126), (0, .ref a0), (1, .int a1), (2, .int a2), (6, .int j56l6), (7, .int r126)]) hx hb dX7_patrol_204 rfl hl (by decide) rfl (fun ls hl => ?_)
                exact (hK0 _ _ _).mp (J205 x203 r126 v116na0_2_4 _ _ _  bx203.1 bx203.2 hP hD hS (lv_sub hl [3, 4, 5, 0, 2, 1, 6] rfl))
              refine lv_if_ne (tgt := 169) hx hb dX7_patrol_147 (by decide) (fun c147 => ?_) (fun c147 => ?_)
              · have gc147 := ai_ne c147
                have l147t_j143s0 : (1 : Int) ≤ j143s0.toInt := (by have h1 := bj143s0_l; have h2 : (0 : Int32).toInt = 0 := (by decide); rw [h2] at gc147; omega)
                exact (hK0 _ _ _).mp (J169  _ _ _   hP hD hS (lv_sub hl [1, 2, 3, 7, 8] rfl))
              · have gc147 := ai_eq c147
                have u147f_j143s0 : j143s0.toInt ≤ (0 : Int) := Int.le_trans (Int.le_of_eq gc147) zq6
                have l147f_j143s0 : (0 : Int) ≤ j143s0.toInt := bj143s0_l
                refine lv_iload hx hb dX7_patrol_150 (lv_at hl 8 rfl) ?_
                refine lv_iload hx hb dX7_patrol_152 (lv_at hl 5 rfl) ?_
                refine lv_icmp_ne (tgt := 205) hx hb dX7_patrol_154 (by decide) (fun c154 => ?_) (fun c154 => ?_)
                · have gc154 := ai_ne c154
                  exact (hK0 _ _ _).mp (J205 j56l3 j56l4 j56l5 _ _ _  bj56l3_l bj56l3_u hP hD hS (lv_sub hl [1, 2, 3, 4, 5, 6, 7] rfl))
                · have gc154 := ai_eq c154
                  refine lv_aload_n hx hb dX7_patrol_157 rfl (lv_at hl 1 rfl) ?_
                  refine va_get (D := (dC, dI)) (ci := 7) (v := .ref a0_2) (C := RX7) (T := TX7) (N := 11) hx hb hts zi_X7_patrol_7 hown hK hP 0 rfl rfl 2 (by decide) (hts (.fieldLink RX7 23 "WaxTurns" "ahead" "LWaxTurns$Scene;") (zm_X7_patrol_r1 (List.mem_of_getElem? (i := 6) rfl))) (fun _ h9 => h9) rfl dX7_patrol_158 ?_
                  refine va_get (D := (dC, dI)) (ci := 5) (v := .int v116na0_2_4) (C := RX5) (T := TX5) (N := 7) hx hb hts zi_X7_patrol_5 hown hK hP 8 rfl rfl 4 (by decide) (hts (.fieldLink RX7 167 "WaxTurns$Scene" "catchCount" "I") (zm_X7_patrol_r1 (List.mem_of_getElem? (i := 8) rfl))) (fun _ h9 => h9) rfl dX7_patrol_161 ?_
                  refine lv_iload hx hb dX7_patrol_164 (lv_at hl 6 rfl) ?_
                  refine lv_icmp_le (tgt := 205) hx hb dX7_patrol_166 (by decide) (fun c166 => ?_) (fun c166 => ?_)
                  · have gc166 := ai_le c166
                    exact (hK0 _ _ _).mp (J205 j56l3 j56l4 j56l5 _ _ _  bj56l3_l bj56l3_u hP hD hS (lv_sub hl [1, 2, 3, 4, 5, 6, 7] rfl))
                  · have gc166 := ai_nle c166
                    have u166f_j56l5 : j56l5.toInt ≤ (2147483646 : Int) := ai_lthi gc166 (ai_max v116na0_2_4)
                    have l166f_v116na0_2_4 : (-2147483647 : Int) ≤ v116na0_2_4.toInt := ai_ltlo gc166 (ai_min j56l5)
                    exact (hK0 _ _ _).mp (J169  _ _ _   hP hD hS (lv_sub hl [1, 2, 3, 7, 8] rfl))
            refine lv_icmp_ge (tgt := 142) hx hb dX7_patrol_135 (by decide) (fun c135 => ?_) (fun c135 => ?_)
            · have gc135 := ai_le c135
              refine lv_iconst (v := 0) hx hb dX7_patrol_142 zk_iconst_0 ?_
              exact (hK0 _ _ _).mp (J143 0 _ _ _  zq5 (Int.le_trans zq6 zq4) hP hD hS (lv_sub hl [1, 2, 3, 4, 5, 6, 7, 0] rfl))
            · have gc135 := ai_nle c135
              have u135f_r126 : r126.toInt ≤ (2147483646 : Int) := ai_lthi gc135 (ai_max j56l4)
              have l135f_j56l4 : (-2147483647 : Int) ≤ j56l4.toInt := ai_ltlo gc135 (ai_min r126)
              refine lv_iconst (v := 1) hx hb dX7_patrol_138 zk_iconst_1 ?_
              refine lv_goto (tgt := 143) hx hb dX7_patrol_139 (by decide) ?_
              exact (hK0 _ _ _).mp (J143 1 _ _ _  (Int.le_trans zq4 zq1) zq0 hP hD hS (lv_sub hl [1, 2, 3, 4, 5, 6, 7, 0] rfl))
      exact (hK0 _ _ _).mp (J56 82 0 0 10 0 v41nfa0_2 v41nfa0_3 a0_2_0 a0_2_1 a0_2_2 a0_2_3 a0_2_4 fa0_2_5 fa0_2_6 _ _ _ (by have h1 : (0 : Int) ≤ (0 : Int32).toInt := zq5; have h2 : (0 : Int32).toInt ≤ (0 : Int) := zq6; omega) zq5 (Int.le_trans zq6 zq92) zq5 (Int.le_trans zq6 zq93) bv41nfa0_2 bv41nfa0_3 ba0_2_1_l ba0_2_1_u hP hD hS (lv_sub hl [4, 5, 6, 3, 2, 1, 0] rfl))
    · obtain ⟨hw, h18⟩ := hw
      subst hw
      refine lv_if_ne (tgt := 30) hx hb dX7_patrol_21 (by decide) (fun c21 => absurd (by decide +kernel) c21) (fun _ => ?_)
      refine lv_aload_n hx hb dX7_patrol_24 rfl (lv_at hl 0 rfl) ?_
      refine lv_iconst (v := 2) hx hb dX7_patrol_25 zk_iconst_2 ?_
      refine va_calli (va_runV (As := [.int 2]) (rest := []) ⟨hx, hb, hml, hown, hts⟩ (c_X7_refused l dC dI H.size a0 2 a0g_0 (.ref a0_1) (.ref a0_2) (.ref a0_3) a0g_4 a0g_5 a0g_6 (.ref a0_7) a0g_9 a0g_10 a0_8 ) (cwV 1 hts gX7_patrol_X7_refused rfl rfl rfl zd_X7_refused ⟨Nat.le_of_ble_eq_true rfl, Nat.le_of_ble_eq_true rfl⟩) ⟨ax_blind (fun _ _ _ _ _ => trivial), zr_7 (zp_K hK) (zp_P1 hP) (q0 := 0) rfl, ax_pre (zp_P1 hP) (zp_K hK) (zp_D1 hD) (fun _ _ => trivial)⟩ rfl rfl hl.1 rfl (lv_room (Nat.le_of_ble_eq_true rfl)) dX7_patrol_26 ⟨Nat.le_of_ble_eq_true rfl, Nat.le_of_ble_eq_true rfl⟩) hS (fun q _ h => zp_F1 hD hS hA q h) (zp_F1 hD hS hA) (fun r26 u t H locs ht hvm hw hB hz1 hk1 hS1 => zx_1 hB (fun v26na0_8 hB => zo1 hB ht hP hD hk1 (zp_F1 hD hS hA) hS1 (fun hP hK1 hD hS => ?_)))
      have hw : r26 = (-1) := hw
      have hw := hw.symm
      subst hw
      exact W.iret (v := (-1)) hx hb hr (fun t ht hW => ⟨⟨(-1), (), rfl, ⟨zq70, (Int.le_trans zq71 zq94)⟩, v26na0_8, a0_3_0, a0_3_1, fa0_3_2, fa0_3_3, a0_2_0, a0_2_1, a0_2_2, a0_2_3, a0_2_4, fa0_2_5, fa0_2_6, ⟨ba0_3_0_l, ba0_3_0_u⟩, ⟨ba0_2_1_l, ba0_2_1_u⟩, bfa0_3_2, bfa0_3_3, by rw [ht]; exact hP, va_K.moved hW.alike hK, hD⟩, hS.F ht⟩) hS.2.2 dX7_patrol_29
  · subst hw
    refine lv_if_ne (tgt := 14) hx hb dX7_patrol_5 (by decide) (fun c5 => absurd (by decide +kernel) c5) (fun _ => ?_)
    refine lv_aload_n hx hb dX7_patrol_8 rfl (lv_at hl 0 rfl) ?_
    refine lv_iconst (v := 1) hx hb dX7_patrol_9 zk_iconst_1 ?_
    refine va_calli (va_runV (As := [.int 1]) (rest := []) ⟨hx, hb, hml, hown, hts⟩ (c_X7_refused l dC dI H.size a0 1 a0g_0 (.ref a0_1) (.ref a0_2) (.ref a0_3) a0g_4 a0g_5 a0g_6 (.ref a0_7) a0g_9 a0g_10 a0_8 ) (cwV 1 hts gX7_patrol_X7_refused rfl rfl rfl zd_X7_refused ⟨Nat.le_of_ble_eq_true rfl, Nat.le_of_ble_eq_true rfl⟩) ⟨ax_blind (fun _ _ _ _ _ => trivial), zr_7 (zp_K hK) (zp_P1 hP) (q0 := 0) rfl, ax_pre (zp_P1 hP) (zp_K hK) (zp_D1 hD) (fun _ _ => trivial)⟩ rfl rfl hl.1 rfl (lv_room (Nat.le_of_ble_eq_true rfl)) dX7_patrol_10 ⟨Nat.le_of_ble_eq_true rfl, Nat.le_of_ble_eq_true rfl⟩) hS (fun q _ h => zp_F1 hD hS hA q h) (zp_F1 hD hS hA) (fun r10 u t H locs ht hvm hw hB hz1 hk1 hS1 => zx_1 hB (fun v10na0_8 hB => zo1 hB ht hP hD hk1 (zp_F1 hD hS hA) hS1 (fun hP hK1 hD hS => ?_)))
    have hw : r10 = (-1) := hw
    have hw := hw.symm
    subst hw
    exact W.iret (v := (-1)) hx hb hr (fun t ht hW => ⟨⟨(-1), (), rfl, ⟨zq70, (Int.le_trans zq71 zq94)⟩, v10na0_8, a0_3_0, a0_3_1, fa0_3_2, fa0_3_3, a0_2_0, a0_2_1, a0_2_2, a0_2_3, a0_2_4, fa0_2_5, fa0_2_6, ⟨ba0_3_0_l, ba0_3_0_u⟩, ⟨ba0_2_1_l, ba0_2_1_u⟩, bfa0_3_2, bfa0_3_3, by rw [ht]; exact hP, va_K.moved hW.alike hK, hD⟩, hS.F ht⟩) hS.2.2 dX7_patrol_13

set_option maxHeartbeats 4000000 in
set_option maxRecDepth 100000 in
theorem c_X7_fits (l : Launch) (dC : Nat → ClassId) (dI : Nat → Nat → Nat) (sz : Nat) (a0 : Nat) (a0g_0 a0g_1 a0g_2 a0g_3 a0g_4 a0g_6 a0g_9 a0g_10 : Value) (a0_5 : Nat) (a0_7 : Nat) (a0_8 : Int32) (a0_7_0 : Int32) (a0_7_1 : Int32) (a0_7g_2 a0_7g_3 a0_7g_4 a0_7g_5 a0_7g_6 a0_7g_7 a0_7g_8 a0_7g_10 a0_7g_11 a0_7g_14 : Value) (a0_7_9 : Int32) (a0_7_12 : Nat) (a0_7_13 : Nat) (a0_5_0 : Int32) (a0_5g_1 a0_5g_2 a0_5g_4 a0_5g_6 : Value) (a0_5_3 : Nat) (a0_5_5 : Int32) (ka0_5_3 : ClassId) (fa0_5_3 : Nat → Int32) (ka0_7_13 : ClassId) (fa0_7_13 : Nat → Int32) (ka0_7_12 : ClassId) (fa0_7_12 : Nat → Int32) (ba0_7_0_l : (0 : Int) ≤ a0_7_0.toInt) (ba0_7_0_u : a0_7_0.toInt ≤ (9 : Int)) (ba0_7_9_l : (0 : Int) ≤ a0_7_9.toInt) (ba0_7_9_u : a0_7_9.toInt ≤ (6 : Int)) (ba0_5_0_l : (0 : Int) ≤ a0_5_0.toInt) (ba0_5_0_u : a0_5_0.toInt ≤ (729 : Int)) (ba0_5_5_l : (0 : Int) ≤ a0_5_5.toInt) (ba0_5_5_u : a0_5_5.toInt ≤ (1 : Int)) (bfa0_5_3 : (∀ k, (0 : Int) ≤ (fa0_5_3 k).toInt ∧ (fa0_5_3 k).toInt ≤ 888 ∧ (fa0_5_3 k).toInt % 10 ≤ 8)) (bfa0_7_13 : (∀ k, (0 : Int) ≤ (fa0_7_13 k).toInt ∧ (fa0_7_13 k).toInt ≤ 999)) : zm l yX7_fits wsX7_fits ({ frames := 4, cells := 0, slots := 0, locals := 98 }) [.ref a0] dC dI sz [(a0, .inr (7, [a0g_0, a0g_1, a0g_2, a0g_3, a0g_4, .ref a0_5, a0g_6, .ref a0_7, .int a0_8, a0g_9, a0g_10])), (a0_7, .inr (0, [.int a0_7_0, .int a0_7_1, a0_7g_2, a0_7g_3, a0_7g_4, a0_7g_5, a0_7g_6, a0_7g_7, a0_7g_8, .int a0_7_9, a0_7g_10, a0_7g_11, .ref a0_7_12, .ref a0_7_13, a0_7g_14])), (a0_5, .inr (2, [.int a0_5_0, a0_5g_1, a0_5g_2, .ref a0_5_3, a0_5g_4, .int a0_5_5, a0_5g_6])), (a0_5_3, .inl (ka0_5_3, 729, .inl (fa0_5_3))), (a0_7_13, .inl (ka0_7_13, 6, .inl (fa0_7_13))), (a0_7_12, .inl (ka0_7_12, 6, .inl (fa0_7_12)))] [(ka0_5_3, .int), (ka0_7_13, .int), (ka0_7_12, .int)] (fun A U => va_Nw (.methodLinkNest RX0 72 yX7_laterTurn RX7) U) (fun A => va_Qi (fun (r : Int32) (_ : Unit) => (-1 : Int) ≤ r.toInt ∧ r.toInt ≤ (729 : Int)) (fun (_ : Unit) (t : State) => ∃ na0_8 : Int32, ∃ na0_5_0 : Int32, ∃ na0_5_5 : Int32, ∃ nfa0_5_3 : Nat → Int32, ((0 : Int) ≤ na0_5_0.toInt ∧ na0_5_0.toInt ≤ 729) ∧ ((0 : Int) ≤ na0_5_5.toInt ∧ na0_5_5.toInt ≤ 1) ∧ (∀ k, (0 : Int) ≤ (nfa0_5_3 k).toInt ∧ (nfa0_5_3 k).toInt ≤ 888 ∧ (nfa0_5_3 k).toInt % 10 ≤ 8) ∧ ax_B dC dI A [(a0, .inr (7, [a0g_0, a0g_1, a0g_2, a0g_3, a0g_4, .ref a0_5, a0g_6, .ref a0_7, .int na0_8, a0g_9, a0g_10])), (a0_7, .inr (0, [.int a0_7_0, .int a0_7_1, a0_7g_2, a0_7g_3, a0_7g_4, a0_7g_5, a0_7g_6, a0_7g_7, a0_7g_8, .int a0_7_9, a0_7g_10, a0_7g_11, .ref a0_7_12, .ref a0_7_13, a0_7g_14])), (a0_5, .inr (2, [.int na0_5_0, a0_5g_1, a0_5g_2, .ref a0_5_3, a0_5g_4, .int na0_5_5, a0_5g_6])), (a0_5_3, .inl (ka0_5_3, 729, .inl (nfa0_5_3))), (a0_7_13, .inl (ka0_7_13, 6, .inl (fa0_7_13))), (a0_7_12, .inl (ka0_7_12, 6, .inl (fa0_7_12)))] [(ka0_5_3, .int), (ka0_7_13, .int), (ka0_7_12, .int)] t) A) := by
  refine zh (cc := cX7_fits) (maxL := 1) (ret := (some .int)) zn_RX7 rfl (Nat.le_of_ble_eq_true rfl) (fun p e s m below meth c A ls hx hb hml hr hts (hown : s.vm.findClass RX7 = some m.cls) hlocks hA hS hP hK hD hE (hl : lv_has ls 1 [(0, .ref a0)]) => ?_)
  have hE0 := hE
  refine lv_aload_n hx hb dX7_fits_0 rfl (lv_at hl 0 rfl) ?_
  refine va_calli (va_runV (As := []) (rest := []) ⟨hx, hb, hml, hown, hts⟩ (c_X7_hasGallery l dC dI s.heap.size a0 a0g_0 a0g_1 a0g_2 a0g_3 a0g_4 (.ref a0_5) a0g_6 (.int a0_8) a0g_9 a0g_10 a0_7 a0_7_0 (.int a0_7_1) a0_7g_2 a0_7g_3 a0_7g_4 a0_7g_5 a0_7g_6 a0_7g_7 a0_7g_8 (.int a0_7_9) a0_7g_10 a0_7g_11 (.ref a0_7_12) (.ref a0_7_13) a0_7g_14 ba0_7_0_l ba0_7_0_u) (cwV 0 hts gX7_fits_X7_hasGallery rfl rfl rfl zd_X7_hasGallery ⟨Nat.le_of_ble_eq_true rfl, Nat.le_of_ble_eq_true rfl⟩) ⟨ax_blind (fun _ _ _ _ _ => trivial), zr_7 (zp_K hK) (zp_P2 hP) (q0 := 0) rfl, ax_pre (zp_P2 hP) (zp_K hK) (zp_D2 hD) (fun _ _ => trivial)⟩ rfl rfl hl.1 rfl (lv_room (Nat.le_of_ble_eq_true rfl)) dX7_fits_1 ⟨Nat.le_of_ble_eq_true rfl, Nat.le_of_ble_eq_true rfl⟩) hS (fun q _ h => zp_F2 hD hS hA q h) (zp_F2 hD hS hA) (fun r1 u t H locs ht hvm hw hB hz1 hk1 hS1 => zo2 hB ht hP hD hk1 (zp_F2 hD hS hA) hS1 (fun hP hK1 hD hS => ?_))
  rcases hw with hw | hw
  · obtain ⟨hw, h1_0, h1_1⟩ := hw
    subst hw
    have l1k0_a0_7_0 : (1 : Int) ≤ a0_7_0.toInt := h1_0
    have u1k0_a0_7_0 : a0_7_0.toInt ≤ (9 : Int) := ba0_7_0_u
    refine lv_if_ne (tgt := 13) hx hb dX7_fits_4 (by decide) (fun _ => ?_) (fun c4 => absurd c4 (by decide +kernel))
    refine lv_aload_n hx hb dX7_fits_13 rfl (lv_at hl 0 rfl) ?_
    refine va_get (D := (dC, dI)) (ci := 7) (v := .ref a0_5) (C := RX7) (T := TX7) (N := 11) hx hb hts zi_X7_fits_7 hown hK hP 0 rfl rfl 5 (by decide) (hts (.fieldLink RX7 43 "WaxTurns" "laws" "LWaxTurns$Laws;") (zm_X7_fits_r1 (List.mem_of_getElem? (i := 0) rfl))) (fun _ h9 => h9) rfl dX7_fits_14 ?_
    refine lv_aload_n hx hb dX7_fits_17 rfl (lv_at hl 0 rfl) ?_
    refine va_get (D := (dC, dI)) (ci := 7) (v := .ref a0_7) (C := RX7) (T := TX7) (N := 11) hx hb hts zi_X7_fits_7 hown hK hP 0 rfl rfl 7 (by decide) (hts (.fieldLink RX7 57 "WaxTurns" "hall" "LWaxTurns$Hall;") (zm_X7_fits_r1 (List.mem_of_getElem? (i := 1) rfl))) (fun _ h9 => h9) rfl dX7_fits_18 ?_
    refine zc_cutc (wc := [(a0_5, .inr (2, [.int a0_5_0, a0_5g_1, a0_5g_2, .ref a0_5_3, a0_5g_4, .int a0_5_5, a0_5g_6])), (a0_7, .inr (0, [.int a0_7_0, .int a0_7_1, a0_7g_2, a0_7g_3, a0_7g_4, a0_7g_5, a0_7g_6, a0_7g_7, a0_7g_8, .int a0_7_9, a0_7g_10, a0_7g_11, .ref a0_7_12, .ref a0_7_13, a0_7g_14])), (a0_5_3, .inl (ka0_5_3, 729, .inl (fa0_5_3))), (a0_7_13, .inl (ka0_7_13, 6, .inl (fa0_7_13))), (a0_7_12, .inl (ka0_7_12, 6, .inl (fa0_7_12)))]) hP hD hS hA [2, 1, 3, 4, 5] (by decide +kernel) rfl (fun hPc hDc hFc hCc => ?_)
    have hKc := hK.sub (tys' := [(ka0_5_3, .int), (ka0_7_13, .int), (ka0_7_12, .int)]) [0, 1, 2] rfl
    refine va_callv (va_runV (As := [.ref a0_7]) (rest := []) ⟨hx, hb, hml, hown, hts⟩ (c_X2_list l dC dI H.size a0_5 a0_7 a0_5_0 a0_5g_1 a0_5g_2 a0_5g_4 a0_5g_6 a0_5_3 a0_5_5 a0_7_0 a0_7_1 a0_7g_2 a0_7g_3 a0_7g_4 a0_7g_5 a0_7g_6 a0_7g_7 a0_7g_8 a0_7g_10 a0_7g_11 a0_7g_14 a0_7_9 a0_7_12 a0_7_13 ka0_5_3 fa0_5_3 ka0_7_13 fa0_7_13 ka0_7_12 fa0_7_12 ba0_5_0_l ba0_5_0_u ba0_5_5_l ba0_5_5_u (Int.le_trans zq4 l1k0_a0_7_0) u1k0_a0_7_0 ba0_7_9_l ba0_7_9_u bfa0_5_3 bfa0_7_13) (cwV 1 hts gX7_fits_X2_list rfl rfl rfl zd_X2_list ⟨Nat.le_of_ble_eq_true rfl, Nat.le_of_ble_eq_true rfl⟩) ⟨ax_blind (fun _ _ _ _ hq => va_Nw.same rfl rfl (hq)), zr_2 hKc hPc (q0 := 0) rfl, ax_pre hPc hKc hDc (fun _ hW => va_Nw.warmM hW hE0)⟩ rfl rfl hl.1 rfl (lv_room (Nat.le_of_ble_eq_true rfl)) dX7_fits_21 ⟨Nat.le_of_ble_eq_true rfl, Nat.le_of_ble_eq_true rfl⟩) hS (fun q _ h => hFc q h) hFc (fun u t H locs ht hvm hw hB hz1 hk1 hS => zx_3 hB (fun v21na0_0 v21na0_5 v21nfa0_3 hB => zy_3 hB (fun bv21na0_0 bv21na0_5 bv21nfa0_3 hB => zo hB ht (fun hP1 hK1 hD1 => ?_))))
    refine zc_backc (w := [(a0, .inr (7, [a0g_0, a0g_1, a0g_2, a0g_3, a0g_4, .ref a0_5, a0g_6, .ref a0_7, .int a0_8, a0g_9, a0g_10])), (a0_7, .inr (0, [.int a0_7_0, .int a0_7_1, a0_7g_2, a0_7g_3, a0_7g_4, a0_7g_5, a0_7g_6, a0_7g_7, a0_7g_8, .int a0_7_9, a0_7g_10, a0_7g_11, .ref a0_7_12, .ref a0_7_13, a0_7g_14])), (a0_5, .inr (2, [.int v21na0_0, a0_5g_1, a0_5g_2, .ref a0_5_3, a0_5g_4, .int v21na0_5, a0_5g_6])), (a0_5_3, .inl (ka0_5_3, 729, .inl (v21nfa0_3))), (a0_7_13, .inl (ka0_7_13, 6, .inl (fa0_7_13))), (a0_7_12, .inl (ka0_7_12, 6, .inl (fa0_7_12)))]) hP hD hCc hk1 hFc hP1 hD1 [.inl 0, .inr 1, .inr 0, .inr 2, .inr 3, .inr 4] (by decide +kernel) rfl (fun hP hD => ?_)
    refine lv_aload_n hx hb dX7_fits_24 rfl (lv_at hl 0 rfl) ?_
    refine lv_aload_n hx hb dX7_fits_25 rfl (lv_at hl 0 rfl) ?_
    refine va_get (D := (dC, dI)) (ci := 7) (v := .ref a0_5) (C := RX7) (T := TX7) (N := 11) hx hb hts zi_X7_fits_7 hown hK hP 0 rfl rfl 5 (by decide) (hts (.fieldLink RX7 43 "WaxTurns" "laws" "LWaxTurns$Laws;") (zm_X7_fits_r1 (List.mem_of_getElem? (i := 0) rfl))) (fun _ h9 => h9) rfl dX7_fits_26 ?_
    refine va_get (D := (dC, dI)) (ci := 2) (v := .int v21na0_0) (C := RX2) (T := TX2) (N := 7) hx hb hts zi_X7_fits_2 hown hK hP 2 rfl rfl 0 (by decide) (hts (.fieldLink RX7 263 "WaxTurns$Laws" "fitCount" "I") (zm_X7_fits_r1 (List.mem_of_getElem? (i := 2) rfl))) (fun _ h9 => h9) rfl dX7_fits_29 ?_
    refine va_calli (va_runV (As := [.int v21na0_0]) (rest := []) ⟨hx, hb, hml, hown, hts⟩ (c_X7_answered l dC dI H.size a0 v21na0_0 a0g_0 a0g_1 a0g_2 a0g_3 a0g_4 (.ref a0_5) a0g_6 (.ref a0_7) a0g_9 a0g_10 a0_8 ) (cwV 1 hts gX7_fits_X7_answered rfl rfl rfl zd_X7_answered ⟨Nat.le_of_ble_eq_true rfl, Nat.le_of_ble_eq_true rfl⟩) ⟨ax_blind (fun _ _ _ _ _ => trivial), zr_7 (zp_K hK) (zp_P1 hP) (q0 := 0) rfl, ax_pre (zp_P1 hP) (zp_K hK) (zp_D1 hD) (fun _ _ => trivial)⟩ rfl rfl hl.1 rfl (lv_room (Nat.le_of_ble_eq_true rfl)) dX7_fits_32 ⟨Nat.le_of_ble_eq_true rfl, Nat.le_of_ble_eq_true rfl⟩) hS (fun q _ h => zp_F1 hD hS hA q h) (zp_F1 hD hS hA) (fun r32 u t H locs ht hvm hw hB hz1 hk1 hS1 => zx_1 hB (fun v32na0_8 hB => zo1 hB ht hP hD hk1 (zp_F1 hD hS hA) hS1 (fun hP hK1 hD hS => ?_)))
    have hw : r32 = v21na0_0 := hw
    have hw := hw.symm
    subst hw
    exact W.iret (v := v21na0_0) hx hb hr (fun t ht hW => ⟨⟨v21na0_0, (), rfl, ⟨(Int.le_trans zq69 bv21na0_0.1), bv21na0_0.2⟩, v32na0_8, v21na0_0, v21na0_5, v21nfa0_3, ⟨bv21na0_0.1, bv21na0_0.2⟩, ⟨bv21na0_5.1, bv21na0_5.2⟩, bv21nfa0_3, by rw [ht]; exact hP, va_K.moved hW.alike hK, hD⟩, hS.F ht⟩) hS.2.2 dX7_fits_35
  · obtain ⟨hw, h1_0, h1_1⟩ := hw
    subst hw
    have l1k1_a0_7_0 : (0 : Int) ≤ a0_7_0.toInt := ba0_7_0_l
    have u1k1_a0_7_0 : a0_7_0.toInt ≤ (0 : Int) := h1_1
    refine lv_if_ne (tgt := 13) hx hb dX7_fits_4 (by decide) (fun c4 => absurd (by decide +kernel) c4) (fun _ => ?_)
    refine lv_aload_n hx hb dX7_fits_7 rfl (lv_at hl 0 rfl) ?_
    refine lv_iconst (v := 1) hx hb dX7_fits_8 zk_iconst_1 ?_
    refine va_calli (va_runV (As := [.int 1]) (rest := []) ⟨hx, hb, hml, hown, hts⟩ (c_X7_refused l dC dI H.size a0 1 a0g_0 a0g_1 a0g_2 a0g_3 a0g_4 (.ref a0_5) a0g_6 (.ref a0_7) a0g_9 a0g_10 a0_8 ) (cwV 1 hts gX7_fits_X7_refused rfl rfl rfl zd_X7_refused ⟨Nat.le_of_ble_eq_true rfl, Nat.le_of_ble_eq_true rfl⟩) ⟨ax_blind (fun _ _ _ _ _ => trivial), zr_7 (zp_K hK) (zp_P1 hP) (q0 := 0) rfl, ax_pre (zp_P1 hP) (zp_K hK) (zp_D1 hD) (fun _ _ => trivial)⟩ rfl rfl hl.1 rfl (lv_room (Nat.le_of_ble_eq_true rfl)) dX7_fits_9 ⟨Nat.le_of_ble_eq_true rfl, Nat.le_of_ble_eq_true rfl⟩) hS (fun q _ h => zp_F1 hD hS hA q h) (zp_F1 hD hS hA) (fun r9 u t H locs ht hvm hw hB hz1 hk1 hS1 => zx_1 hB (fun v9na0_8 hB => zo1 hB ht hP hD hk1 (zp_F1 hD hS hA) hS1 (fun hP hK1 hD hS => ?_)))
    have hw : r9 = (-1) := hw
    have hw := hw.symm
    subst hw
    exact W.iret (v := (-1)) hx hb hr (fun t ht hW => ⟨⟨(-1), (), rfl, ⟨zq70, (Int.le_trans zq71 zq95)⟩, v9na0_8, a0_5_0, a0_5_5, fa0_5_3, ⟨ba0_5_0_l, ba0_5_0_u⟩, ⟨ba0_5_5_l, ba0_5_5_u⟩, bfa0_5_3, by rw [ht]; exact hP, va_K.moved hW.alike hK, hD⟩, hS.F ht⟩) hS.2.2 dX7_fits_12
end P118_safe
section P119_safe
set_option maxHeartbeats 4000000 in
set_option maxRecDepth 100000 in
theorem c_X7_fitAt (l : Launch) (dC : Nat → ClassId) (dI : Nat → Nat → Nat) (sz : Nat) (a0 : Nat) (a1 : Int32) (a0g_0 a0g_1 a0g_2 a0g_3 a0g_4 a0g_6 a0g_9 a0g_10 : Value) (a0_5 : Nat) (a0_7 : Nat) (a0_8 : Int32) (a0_7_0 : Int32) (a0_7_1 : Int32) (a0_7g_2 a0_7g_3 a0_7g_4 a0_7g_5 a0_7g_6 a0_7g_7 a0_7g_8 a0_7g_10 a0_7g_11 a0_7g_14 : Value) (a0_7_9 : Int32) (a0_7_12 : Nat) (a0_7_13 : Nat) (a0_5_0 : Int32) (a0_5g_1 a0_5g_2 a0_5g_4 a0_5g_6 : Value) (a0_5_3 : Nat) (a0_5_5 : Int32) (ka0_5_3 : ClassId) (fa0_5_3 : Nat → Int32) (ka0_7_13 : ClassId) (fa0_7_13 : Nat → Int32) (ka0_7_12 : ClassId) (fa0_7_12 : Nat → Int32) (ba0_7_0_l : (0 : Int) ≤ a0_7_0.toInt) (ba0_7_0_u : a0_7_0.toInt ≤ (9 : Int)) (ba0_7_9_l : (0 : Int) ≤ a0_7_9.toInt) (ba0_7_9_u : a0_7_9.toInt ≤ (6 : Int)) (ba0_5_0_l : (0 : Int) ≤ a0_5_0.toInt) (ba0_5_0_u : a0_5_0.toInt ≤ (729 : Int)) (ba0_5_5_l : (0 : Int) ≤ a0_5_5.toInt) (ba0_5_5_u : a0_5_5.toInt ≤ (1 : Int)) (bfa0_5_3 : (∀ k, (0 : Int) ≤ (fa0_5_3 k).toInt ∧ (fa0_5_3 k).toInt ≤ 888 ∧ (fa0_5_3 k).toInt % 10 ≤ 8)) (bfa0_7_13 : (∀ k, (0 : Int) ≤ (fa0_7_13 k).toInt ∧ (fa0_7_13 k).toInt ≤ 999)) : zm l yX7_fitAt wsX7_fitAt ({ frames := 4, cells := 0, slots := 0, locals := 98 }) [.ref a0, .int a1] dC dI sz [(a0, .inr (7, [a0g_0, a0g_1, a0g_2, a0g_3, a0g_4, .ref a0_5, a0g_6, .ref a0_7, .int a0_8, a0g_9, a0g_10])), (a0_7, .inr (0, [.int a0_7_0, .int a0_7_1, a0_7g_2, a0_7g_3, a0_7g_4, a0_7g_5, a0_7g_6, a0_7g_7, a0_7g_8, .int a0_7_9, a0_7g_10, a0_7g_11, .ref a0_7_12, .ref a0_7_13, a0_7g_14])), (a0_5, .inr (2, [.int a0_5_0, a0_5g_1, a0_5g_2, .ref a0_5_3, a0_5g_4, .int a0_5_5, a0_5g_6])), (a0_5_3, .inl (ka0_5_3, 729, .inl (fa0_5_3))), (a0_7_13, .inl (ka0_7_13, 6, .inl (fa0_7_13))), (a0_7_12, .inl (ka0_7_12, 6, .inl (fa0_7_12)))] [(ka0_5_3, .int), (ka0_7_13, .int), (ka0_7_12, .int)] (fun A U => va_Nw (.methodLinkNest RX0 72 yX7_laterTurn RX7) U) (fun A => va_Qi (fun (r : Int32) (_ : Unit) => (-1 : Int) ≤ r.toInt ∧ r.toInt ≤ (888 : Int)) (fun (_ : Unit) (t : State) => ∃ na0_8 : Int32, ∃ na0_5_0 : Int32, ∃ na0_5_5 : Int32, ∃ nfa0_5_3 : Nat → Int32, ((0 : Int) ≤ na0_5_0.toInt ∧ na0_5_0.toInt ≤ 729) ∧ ((0 : Int) ≤ na0_5_5.toInt ∧ na0_5_5.toInt ≤ 1) ∧ (∀ k, (0 : Int) ≤ (nfa0_5_3 k).toInt ∧ (nfa0_5_3 k).toInt ≤ 888 ∧ (nfa0_5_3 k).toInt % 10 ≤ 8) ∧ ax_B dC dI A [(a0, .inr (7, [a0g_0, a0g_1, a0g_2, a0g_3, a0g_4, .ref a0_5, a0g_6, .ref a0_7, .int na0_8, a0g_9, a0g_10])), (a0_7, .inr (0, [.int a0_7_0, .int a0_7_1, a0_7g_2, a0_7g_3, a0_7g_4, a0_7g_5, a0_7g_6, a0_7g_7, a0_7g_8, .int a0_7_9, a0_7g_10, a0_7g_11, .ref a0_7_12, .ref a0_7_13, a0_7g_14])), (a0_5, .inr (2, [.int na0_5_0, a0_5g_1, a0_5g_2, .ref a0_5_3, a0_5g_4, .int na0_5_5, a0_5g_6])), (a0_5_3, .inl (ka0_5_3, 729, .inl (nfa0_5_3))), (a0_7_13, .inl (ka0_7_13, 6, .inl (fa0_7_13))), (a0_7_12, .inl (ka0_7_12, 6, .inl (fa0_7_12)))] [(ka0_5_3, .int), (ka0_7_13, .int), (ka0_7_12, .int)] t) A) := by
  refine zh (cc := cX7_fitAt) (maxL := 2) (ret := (some .int)) zn_RX7 rfl (Nat.le_of_ble_eq_true rfl) (fun p e s m below meth c A ls hx hb hml hr hts (hown : s.vm.findClass RX7 = some m.cls) hlocks hA hS hP hK hD hE (hl : lv_has ls 2 [(0, .ref a0), (1, .int a1)]) => ?_)
  have hE0 := hE
  refine lv_aload_n hx hb dX7_fitAt_0 rfl (lv_at hl 0 rfl) ?_
  refine va_calli (va_runV (As := []) (rest := []) ⟨hx, hb, hml, hown, hts⟩ (c_X7_hasGallery l dC dI s.heap.size a0 a0g_0 a0g_1 a0g_2 a0g_3 a0g_4 (.ref a0_5) a0g_6 (.int a0_8) a0g_9 a0g_10 a0_7 a0_7_0 (.int a0_7_1) a0_7g_2 a0_7g_3 a0_7g_4 a0_7g_5 a0_7g_6 a0_7g_7 a0_7g_8 (.int a0_7_9) a0_7g_10 a0_7g_11 (.ref a0_7_12) (.ref a0_7_13) a0_7g_14 ba0_7_0_l ba0_7_0_u) (cwV 0 hts gX7_fitAt_X7_hasGallery rfl rfl rfl zd_X7_hasGallery ⟨Nat.le_of_ble_eq_true rfl, Nat.le_of_ble_eq_true rfl⟩) ⟨ax_blind (fun _ _ _ _ _ => trivial), zr_7 (zp_K hK) (zp_P2 hP) (q0 := 0) rfl, ax_pre (zp_P2 hP) (zp_K hK) (zp_D2 hD) (fun _ _ => trivial)⟩ rfl rfl hl.1 rfl (lv_room (Nat.le_of_ble_eq_true rfl)) dX7_fitAt_1 ⟨Nat.le_of_ble_eq_true rfl, Nat.le_of_ble_eq_true rfl⟩) hS (fun q _ h => zp_F2 hD hS hA q h) (zp_F2 hD hS hA) (fun r1 u t H locs ht hvm hw hB hz1 hk1 hS1 => zo2 hB ht hP hD hk1 (zp_F2 hD hS hA) hS1 (fun hP hK1 hD hS => ?_))
  rcases hw with hw | hw
  · obtain ⟨hw, h1_0, h1_1⟩ := hw
    subst hw
    have l1k0_a0_7_0 : (1 : Int) ≤ a0_7_0.toInt := h1_0
    have u1k0_a0_7_0 : a0_7_0.toInt ≤ (9 : Int) := ba0_7_0_u
    refine lv_if_ne (tgt := 13) hx hb dX7_fitAt_4 (by decide) (fun _ => ?_) (fun c4 => absurd c4 (by decide +kernel))
    refine lv_aload_n hx hb dX7_fitAt_13 rfl (lv_at hl 0 rfl) ?_
    refine va_get (D := (dC, dI)) (ci := 7) (v := .ref a0_5) (C := RX7) (T := TX7) (N := 11) hx hb hts zi_X7_fitAt_7 hown hK hP 0 rfl rfl 5 (by decide) (hts (.fieldLink RX7 43 "WaxTurns" "laws" "LWaxTurns$Laws;") (zm_X7_fitAt_r1 (List.mem_of_getElem? (i := 0) rfl))) (fun _ h9 => h9) rfl dX7_fitAt_14 ?_
    refine lv_aload_n hx hb dX7_fitAt_17 rfl (lv_at hl 0 rfl) ?_
    refine va_get (D := (dC, dI)) (ci := 7) (v := .ref a0_7) (C := RX7) (T := TX7) (N := 11) hx hb hts zi_X7_fitAt_7 hown hK hP 0 rfl rfl 7 (by decide) (hts (.fieldLink RX7 57 "WaxTurns" "hall" "LWaxTurns$Hall;") (zm_X7_fitAt_r1 (List.mem_of_getElem? (i := 1) rfl))) (fun _ h9 => h9) rfl dX7_fitAt_18 ?_
    refine zc_cutc (wc := [(a0_5, .inr (2, [.int a0_5_0, a0_5g_1, a0_5g_2, .ref a0_5_3, a0_5g_4, .int a0_5_5, a0_5g_6])), (a0_7, .inr (0, [.int a0_7_0, .int a0_7_1, a0_7g_2, a0_7g_3, a0_7g_4, a0_7g_5, a0_7g_6, a0_7g_7, a0_7g_8, .int a0_7_9, a0_7g_10, a0_7g_11, .ref a0_7_12, .ref a0_7_13, a0_7g_14])), (a0_5_3, .inl (ka0_5_3, 729, .inl (fa0_5_3))), (a0_7_13, .inl (ka0_7_13, 6, .inl (fa0_7_13))), (a0_7_12, .inl (ka0_7_12, 6, .inl (fa0_7_12)))]) hP hD hS hA [2, 1, 3, 4, 5] (by decide +kernel) rfl (fun hPc hDc hFc hCc => ?_)
    have hKc := hK.sub (tys' := [(ka0_5_3, .int), (ka0_7_13, .int), (ka0_7_12, .int)]) [0, 1, 2] rfl
    refine va_callv (va_runV (As := [.ref a0_7]) (rest := []) ⟨hx, hb, hml, hown, hts⟩ (c_X2_list l dC dI H.size a0_5 a0_7 a0_5_0 a0_5g_1 a0_5g_2 a0_5g_4 a0_5g_6 a0_5_3 a0_5_5 a0_7_0 a0_7_1 a0_7g_2 a0_7g_3 a0_7g_4 a0_7g_5 a0_7g_6 a0_7g_7 a0_7g_8 a0_7g_10 a0_7g_11 a0_7g_14 a0_7_9 a0_7_12 a0_7_13 ka0_5_3 fa0_5_3 ka0_7_13 fa0_7_13 ka0_7_12 fa0_7_12 ba0_5_0_l ba0_5_0_u ba0_5_5_l ba0_5_5_u (Int.le_trans zq4 l1k0_a0_7_0) u1k0_a0_7_0 ba0_7_9_l ba0_7_9_u bfa0_5_3 bfa0_7_13) (cwV 1 hts gX7_fitAt_X2_list rfl rfl rfl zd_X2_list ⟨Nat.le_of_ble_eq_true rfl, Nat.le_of_ble_eq_true rfl⟩) ⟨ax_blind (fun _ _ _ _ hq => va_Nw.same rfl rfl (hq)), zr_2 hKc hPc (q0 := 0) rfl, ax_pre hPc hKc hDc (fun _ hW => va_Nw.warmM hW hE0)⟩ rfl rfl hl.1 rfl (lv_room (Nat.le_of_ble_eq_true rfl)) dX7_fitAt_21 ⟨Nat.le_of_ble_eq_true rfl, Nat.le_of_ble_eq_true rfl⟩) hS (fun q _ h => hFc q h) hFc (fun u t H locs ht hvm hw hB hz1 hk1 hS => zx_3 hB (fun v21na0_0 v21na0_5 v21nfa0_3 hB => zy_3 hB (fun bv21na0_0 bv21na0_5 bv21nfa0_3 hB => zo hB ht (fun hP1 hK1 hD1 => ?_))))
    refine zc_backc (w := [(a0, .inr (7, [a0g_0, a0g_1, a0g_2, a0g_3, a0g_4, .ref a0_5, a0g_6, .ref a0_7, .int a0_8, a0g_9, a0g_10])), (a0_7, .inr (0, [.int a0_7_0, .int a0_7_1, a0_7g_2, a0_7g_3, a0_7g_4, a0_7g_5, a0_7g_6, a0_7g_7, a0_7g_8, .int a0_7_9, a0_7g_10, a0_7g_11, .ref a0_7_12, .ref a0_7_13, a0_7g_14])), (a0_5, .inr (2, [.int v21na0_0, a0_5g_1, a0_5g_2, .ref a0_5_3, a0_5g_4, .int v21na0_5, a0_5g_6])), (a0_5_3, .inl (ka0_5_3, 729, .inl (v21nfa0_3))), (a0_7_13, .inl (ka0_7_13, 6, .inl (fa0_7_13))), (a0_7_12, .inl (ka0_7_12, 6, .inl (fa0_7_12)))]) hP hD hCc hk1 hFc hP1 hD1 [.inl 0, .inr 1, .inr 0, .inr 2, .inr 3, .inr 4] (by decide +kernel) rfl (fun hP hD => ?_)
    refine lv_iload_n hx hb dX7_fitAt_24 rfl (lv_at hl 1 rfl) ?_
    refine lv_iconst (v := 0) hx hb dX7_fitAt_25 zk_iconst_0 ?_
    refine lv_aload_n hx hb dX7_fitAt_26 rfl (lv_at hl 0 rfl) ?_
    refine va_get (D := (dC, dI)) (ci := 7) (v := .ref a0_5) (C := RX7) (T := TX7) (N := 11) hx hb hts zi_X7_fitAt_7 hown hK hP 0 rfl rfl 5 (by decide) (hts (.fieldLink RX7 43 "WaxTurns" "laws" "LWaxTurns$Laws;") (zm_X7_fitAt_r1 (List.mem_of_getElem? (i := 0) rfl))) (fun _ h9 => h9) rfl dX7_fitAt_27 ?_
    refine va_get (D := (dC, dI)) (ci := 2) (v := .int v21na0_0) (C := RX2) (T := TX2) (N := 7) hx hb hts zi_X7_fitAt_2 hown hK hP 2 rfl rfl 0 (by decide) (hts (.fieldLink RX7 263 "WaxTurns$Laws" "fitCount" "I") (zm_X7_fitAt_r1 (List.mem_of_getElem? (i := 2) rfl))) (fun _ h9 => h9) rfl dX7_fitAt_30 ?_
    refine lv_iconst (v := 1) hx hb dX7_fitAt_33 zk_iconst_1 ?_
    refine lv_isub hx hb dX7_fitAt_34 ?_
    refine lv_topi (fun x34 ex34 => ?_)
    have qx34 : x34.toInt = v21na0_0.toInt - (1 : Int32).toInt := ai_sub ex34 ⟨bv21na0_0.1, bv21na0_0.2⟩ ⟨zq1, zq0⟩ (by decide) (by decide)
    have bx34 : (-1 : Int) ≤ x34.toInt ∧ x34.toInt ≤ 728 := ⟨by rw [qx34]; exact Int.sub_le_sub bv21na0_0.1 zq0, by rw [qx34]; exact Int.sub_le_sub bv21na0_0.2 zq1⟩
    have wx34 : x34.toInt = v21na0_0.toInt - 1 := qx34
    refine va_calli (va_runS (As := [.int a1, .int 0, .int x34]) (rest := []) ⟨hx, hb, hml, hown, hts⟩ (c_X7_within l dC dI H.size a1 0 x34 ) (va_cwS 3 hts gX7_fitAt_X7_within rfl rfl rfl zd_X7_within.2 ⟨Nat.le_of_ble_eq_true rfl, Nat.le_of_ble_eq_true rfl⟩) ⟨ax_blind (fun _ _ _ _ _ => trivial), ax_pre (zp_P0 hP) (zp_K hK) (zp_D0 hD) (fun _ _ => trivial)⟩ rfl rfl hl.1 rfl (lv_room (Nat.le_of_ble_eq_true rfl)) dX7_fitAt_35 ⟨Nat.le_of_ble_eq_true rfl, Nat.le_of_ble_eq_true rfl⟩) hS (fun q _ h => zp_F0 hD hS hA q h) (zp_F0 hD hS hA) (fun r35 u t H locs ht hvm hw hB hz1 hk1 hS1 => zo0 hB ht hP hD hk1 (zp_F0 hD hS hA) hS1 (fun hP hK1 hD hS => ?_))
    rcases hw with hw | hw
    · obtain ⟨hw, h35⟩ := hw
      subst hw
      have l35k0_a1 : (0 : Int) ≤ a1.toInt := Int.le_trans zq5 h35.1
      have u35k0_a1 : a1.toInt ≤ (728 : Int) := Int.le_trans h35.2 bx34.2
      have l35k0_x34 : (0 : Int) ≤ x34.toInt := Int.le_trans zq5 (Int.le_trans h35.1 h35.2)
      have l35k0_v21na0_0 : (1 : Int) ≤ v21na0_0.toInt := by have h1 := wx34; have h2 := l35k0_x34; omega
      refine lv_if_ne (tgt := 47) hx hb dX7_fitAt_38 (by decide) (fun _ => ?_) (fun c38 => absurd c38 (by decide +kernel))
      refine lv_aload_n hx hb dX7_fitAt_47 rfl (lv_at hl 0 rfl) ?_
      refine lv_aload_n hx hb dX7_fitAt_48 rfl (lv_at hl 0 rfl) ?_
      refine va_get (D := (dC, dI)) (ci := 7) (v := .ref a0_5) (C := RX7) (T := TX7) (N := 11) hx hb hts zi_X7_fitAt_7 hown hK hP 0 rfl rfl 5 (by decide) (hts (.fieldLink RX7 43 "WaxTurns" "laws" "LWaxTurns$Laws;") (zm_X7_fitAt_r1 (List.mem_of_getElem? (i := 0) rfl))) (fun _ h9 => h9) rfl dX7_fitAt_49 ?_
      refine va_get (D := (dC, dI)) (ci := 2) (v := .ref a0_5_3) (C := RX2) (T := TX2) (N := 7) hx hb hts zi_X7_fitAt_2 hown hK hP 2 rfl rfl 3 (by decide) (hts (.fieldLink RX7 266 "WaxTurns$Laws" "fitting" "[I") (zm_X7_fitAt_r1 (List.mem_of_getElem? (i := 3) rfl))) (fun _ h9 => h9) rfl dX7_fitAt_52 ?_
      refine lv_iload_n hx hb dX7_fitAt_55 rfl (lv_at hl 1 rfl) ?_
      refine va_iald hx hb hK hP 3 0 rfl rfl (ai_in l35k0_a1 u35k0_a1 (by decide) (by decide)) dX7_fitAt_56 ?_
      refine lv_topi (fun x56 ex56 => ?_)
      have bx56 : (0 : Int) ≤ x56.toInt ∧ x56.toInt ≤ 888 ∧ x56.toInt % 10 ≤ 8 := by rw [ex56]; exact bv21nfa0_3 _
      refine va_calli (va_runV (As := [.int x56]) (rest := []) ⟨hx, hb, hml, hown, hts⟩ (c_X7_answered l dC dI H.size a0 x56 a0g_0 a0g_1 a0g_2 a0g_3 a0g_4 (.ref a0_5) a0g_6 (.ref a0_7) a0g_9 a0g_10 a0_8 ) (cwV 1 hts gX7_fitAt_X7_answered rfl rfl rfl zd_X7_answered ⟨Nat.le_of_ble_eq_true rfl, Nat.le_of_ble_eq_true rfl⟩) ⟨ax_blind (fun _ _ _ _ _ => trivial), zr_7 (zp_K hK) (zp_P1 hP) (q0 := 0) rfl, ax_pre (zp_P1 hP) (zp_K hK) (zp_D1 hD) (fun _ _ => trivial)⟩ rfl rfl hl.1 rfl (lv_room (Nat.le_of_ble_eq_true rfl)) dX7_fitAt_57 ⟨Nat.le_of_ble_eq_true rfl, Nat.le_of_ble_eq_true rfl⟩) hS (fun q _ h => zp_F1 hD hS hA q h) (zp_F1 hD hS hA) (fun r57 u t H locs ht hvm hw hB hz1 hk1 hS1 => zx_1 hB (fun v57na0_8 hB => zo1 hB ht hP hD hk1 (zp_F1 hD hS hA) hS1 (fun hP hK1 hD hS => ?_)))
      have hw : r57 = x56 := hw
      have hw := hw.symm
      subst hw
      exact W.iret (v := x56) hx hb hr (fun t ht hW => ⟨⟨x56, (), rfl, ⟨(Int.le_trans zq69 bx56.1), bx56.2.1⟩, v57na0_8, v21na0_0, v21na0_5, v21nfa0_3, ⟨Int.le_trans (by decide) l35k0_v21na0_0, bv21na0_0.2⟩, ⟨bv21na0_5.1, bv21na0_5.2⟩, bv21nfa0_3, by rw [ht]; exact hP, va_K.moved hW.alike hK, hD⟩, hS.F ht⟩) hS.2.2 dX7_fitAt_60
    · obtain ⟨hw, h35⟩ := hw
      subst hw
      refine lv_if_ne (tgt := 47) hx hb dX7_fitAt_38 (by decide) (fun c38 => absurd (by decide +kernel) c38) (fun _ => ?_)
      refine lv_aload_n hx hb dX7_fitAt_41 rfl (lv_at hl 0 rfl) ?_
      refine lv_iconst (v := 1) hx hb dX7_fitAt_42 zk_iconst_1 ?_
      refine va_calli (va_runV (As := [.int 1]) (rest := []) ⟨hx, hb, hml, hown, hts⟩ (c_X7_refused l dC dI H.size a0 1 a0g_0 a0g_1 a0g_2 a0g_3 a0g_4 (.ref a0_5) a0g_6 (.ref a0_7) a0g_9 a0g_10 a0_8 ) (cwV 1 hts gX7_fitAt_X7_refused rfl rfl rfl zd_X7_refused ⟨Nat.le_of_ble_eq_true rfl, Nat.le_of_ble_eq_true rfl⟩) ⟨ax_blind (fun _ _ _ _ _ => trivial), zr_7 (zp_K hK) (zp_P1 hP) (q0 := 0) rfl, ax_pre (zp_P1 hP) (zp_K hK) (zp_D1 hD) (fun _ _ => trivial)⟩ rfl rfl hl.1 rfl (lv_room (Nat.le_of_ble_eq_true rfl)) dX7_fitAt_43 ⟨Nat.le_of_ble_eq_true rfl, Nat.le_of_ble_eq_true rfl⟩) hS (fun q _ h => zp_F1 hD hS hA q h) (zp_F1 hD hS hA) (fun r43 u t H locs ht hvm hw hB hz1 hk1 hS1 => zx_1 hB (fun v43na0_8 hB => zo1 hB ht hP hD hk1 (zp_F1 hD hS hA) hS1 (fun hP hK1 hD hS => ?_)))
      have hw : r43 = (-1) := hw
      have hw := hw.symm
      subst hw
      exact W.iret (v := (-1)) hx hb hr (fun t ht hW => ⟨⟨(-1), (), rfl, ⟨zq70, (Int.le_trans zq71 zq96)⟩, v43na0_8, v21na0_0, v21na0_5, v21nfa0_3, ⟨bv21na0_0.1, bv21na0_0.2⟩, ⟨bv21na0_5.1, bv21na0_5.2⟩, bv21nfa0_3, by rw [ht]; exact hP, va_K.moved hW.alike hK, hD⟩, hS.F ht⟩) hS.2.2 dX7_fitAt_46
  · obtain ⟨hw, h1_0, h1_1⟩ := hw
    subst hw
    have l1k1_a0_7_0 : (0 : Int) ≤ a0_7_0.toInt := ba0_7_0_l
    have u1k1_a0_7_0 : a0_7_0.toInt ≤ (0 : Int) := h1_1
    refine lv_if_ne (tgt := 13) hx hb dX7_fitAt_4 (by decide) (fun c4 => absurd (by decide +kernel) c4) (fun _ => ?_)
    refine lv_aload_n hx hb dX7_fitAt_7 rfl (lv_at hl 0 rfl) ?_
    refine lv_iconst (v := 1) hx hb dX7_fitAt_8 zk_iconst_1 ?_
    refine va_calli (va_runV (As := [.int 1]) (rest := []) ⟨hx, hb, hml, hown, hts⟩ (c_X7_refused l dC dI H.size a0 1 a0g_0 a0g_1 a0g_2 a0g_3 a0g_4 (.ref a0_5) a0g_6 (.ref a0_7) a0g_9 a0g_10 a0_8 ) (cwV 1 hts gX7_fitAt_X7_refused rfl rfl rfl zd_X7_refused ⟨Nat.le_of_ble_eq_true rfl, Nat.le_of_ble_eq_true rfl⟩) ⟨ax_blind (fun _ _ _ _ _ => trivial), zr_7 (zp_K hK) (zp_P1 hP) (q0 := 0) rfl, ax_pre (zp_P1 hP) (zp_K hK) (zp_D1 hD) (fun _ _ => trivial)⟩ rfl rfl hl.1 rfl (lv_room (Nat.le_of_ble_eq_true rfl)) dX7_fitAt_9 ⟨Nat.le_of_ble_eq_true rfl, Nat.le_of_ble_eq_true rfl⟩) hS (fun q _ h => zp_F1 hD hS hA q h) (zp_F1 hD hS hA) (fun r9 u t H locs ht hvm hw hB hz1 hk1 hS1 => zx_1 hB (fun v9na0_8 hB => zo1 hB ht hP hD hk1 (zp_F1 hD hS hA) hS1 (fun hP hK1 hD hS => ?_)))
    have hw : r9 = (-1) := hw
    have hw := hw.symm
    subst hw
    exact W.iret (v := (-1)) hx hb hr (fun t ht hW => ⟨⟨(-1), (), rfl, ⟨zq70, (Int.le_trans zq71 zq96)⟩, v9na0_8, a0_5_0, a0_5_5, fa0_5_3, ⟨ba0_5_0_l, ba0_5_0_u⟩, ⟨ba0_5_5_l, ba0_5_5_u⟩, bfa0_5_3, by rw [ht]; exact hP, va_K.moved hW.alike hK, hD⟩, hS.F ht⟩) hS.2.2 dX7_fitAt_12

set_option maxHeartbeats 4000000 in
set_option maxRecDepth 100000 in
theorem c_X7_could (l : Launch) (dC : Nat → ClassId) (dI : Nat → Nat → Nat) (sz : Nat) (a0 : Nat) (a1 : Int32) (a0g_0 a0g_1 a0g_2 a0g_3 a0g_4 a0g_6 a0g_9 a0g_10 : Value) (a0_5 : Nat) (a0_7 : Nat) (a0_8 : Int32) (a0_7_0 : Int32) (a0_7_1 : Int32) (a0_7g_2 a0_7g_3 a0_7g_4 a0_7g_5 a0_7g_6 a0_7g_7 a0_7g_8 a0_7g_10 a0_7g_11 a0_7g_14 : Value) (a0_7_9 : Int32) (a0_7_12 : Nat) (a0_7_13 : Nat) (a0_5_0 : Int32) (a0_5g_1 a0_5g_2 a0_5g_4 a0_5g_6 : Value) (a0_5_3 : Nat) (a0_5_5 : Int32) (ka0_5_3 : ClassId) (fa0_5_3 : Nat → Int32) (ka0_7_13 : ClassId) (fa0_7_13 : Nat → Int32) (ka0_7_12 : ClassId) (fa0_7_12 : Nat → Int32) (ba0_7_0_l : (0 : Int) ≤ a0_7_0.toInt) (ba0_7_0_u : a0_7_0.toInt ≤ (9 : Int)) (ba0_7_9_l : (0 : Int) ≤ a0_7_9.toInt) (ba0_7_9_u : a0_7_9.toInt ≤ (6 : Int)) (ba0_5_0_l : (0 : Int) ≤ a0_5_0.toInt) (ba0_5_0_u : a0_5_0.toInt ≤ (729 : Int)) (ba0_5_5_l : (0 : Int) ≤ a0_5_5.toInt) (ba0_5_5_u : a0_5_5.toInt ≤ (1 : Int)) (bfa0_5_3 : (∀ k, (0 : Int) ≤ (fa0_5_3 k).toInt ∧ (fa0_5_3 k).toInt ≤ 888 ∧ (fa0_5_3 k).toInt % 10 ≤ 8)) (bfa0_7_13 : (∀ k, (0 : Int) ≤ (fa0_7_13 k).toInt ∧ (fa0_7_13 k).toInt ≤ 999)) : zm l yX7_could wsX7_could ({ frames := 4, cells := 0, slots := 0, locals := 98 }) [.ref a0, .int a1] dC dI sz [(a0, .inr (7, [a0g_0, a0g_1, a0g_2, a0g_3, a0g_4, .ref a0_5, a0g_6, .ref a0_7, .int a0_8, a0g_9, a0g_10])), (a0_7, .inr (0, [.int a0_7_0, .int a0_7_1, a0_7g_2, a0_7g_3, a0_7g_4, a0_7g_5, a0_7g_6, a0_7g_7, a0_7g_8, .int a0_7_9, a0_7g_10, a0_7g_11, .ref a0_7_12, .ref a0_7_13, a0_7g_14])), (a0_5, .inr (2, [.int a0_5_0, a0_5g_1, a0_5g_2, .ref a0_5_3, a0_5g_4, .int a0_5_5, a0_5g_6])), (a0_5_3, .inl (ka0_5_3, 729, .inl (fa0_5_3))), (a0_7_13, .inl (ka0_7_13, 6, .inl (fa0_7_13))), (a0_7_12, .inl (ka0_7_12, 6, .inl (fa0_7_12)))] [(ka0_5_3, .int), (ka0_7_13, .int), (ka0_7_12, .int)] (fun A U => va_Nw (.methodLinkNest RX0 72 yX7_laterTurn RX7) U) (fun A => va_Qi (fun (r : Int32) (_ : Unit) => True) (fun (_ : Unit) (t : State) => ∃ na0_8 : Int32, ∃ na0_5_0 : Int32, ∃ na0_5_5 : Int32, ∃ nfa0_5_3 : Nat → Int32, ((0 : Int) ≤ na0_5_0.toInt ∧ na0_5_0.toInt ≤ 729) ∧ ((0 : Int) ≤ na0_5_5.toInt ∧ na0_5_5.toInt ≤ 1) ∧ (∀ k, (0 : Int) ≤ (nfa0_5_3 k).toInt ∧ (nfa0_5_3 k).toInt ≤ 888 ∧ (nfa0_5_3 k).toInt % 10 ≤ 8) ∧ ax_B dC dI A [(a0, .inr (7, [a0g_0, a0g_1, a0g_2, a0g_3, a0g_4, .ref a0_5, a0g_6, .ref a0_7, .int na0_8, a0g_9, a0g_10])), (a0_7, .inr (0, [.int a0_7_0, .int a0_7_1, a0_7g_2, a0_7g_3, a0_7g_4, a0_7g_5, a0_7g_6, a0_7g_7, a0_7g_8, .int a0_7_9, a0_7g_10, a0_7g_11, .ref a0_7_12, .ref a0_7_13, a0_7g_14])), (a0_5, .inr (2, [.int na0_5_0, a0_5g_1, a0_5g_2, .ref a0_5_3, a0_5g_4, .int na0_5_5, a0_5g_6])), (a0_5_3, .inl (ka0_5_3, 729, .inl (nfa0_5_3))), (a0_7_13, .inl (ka0_7_13, 6, .inl (fa0_7_13))), (a0_7_12, .inl (ka0_7_12, 6, .inl (fa0_7_12)))] [(ka0_5_3, .int), (ka0_7_13, .int), (ka0_7_12, .int)] t) A) := by
  refine zh (cc := cX7_could) (maxL := 5) (ret := (some .int)) zn_RX7 rfl (Nat.le_of_ble_eq_true rfl) (fun p e s m below meth c A ls hx hb hml hr hts (hown : s.vm.findClass RX7 = some m.cls) hlocks hA hS hP hK hD hE (hl : lv_has ls 5 [(0, .ref a0), (1, .int a1)]) => ?_)
  have hE0 := hE
  refine ai_open (fun K hK0 => ?_)
  refine (hK0 _ _ _).mpr ?_
  refine lv_aload_n hx hb dX7_could_0 rfl (lv_at hl 0 rfl) ?_
  refine lv_iload_n hx hb dX7_could_1 rfl (lv_at hl 1 rfl) ?_
  refine lv_iconst (v := 0) hx hb dX7_could_2 zk_iconst_0 ?_
  refine lv_sipush (v := 999) hx hb dX7_could_3 zk_sipush_999 ?_
  refine va_calli (va_runV (As := [.int a1, .int 0, .int 999]) (rest := []) ⟨hx, hb, hml, hown, hts⟩ (c_X7_troubleOfNumber l dC dI s.heap.size a0 a1 0 999 a0g_0 a0g_1 a0g_2 a0g_3 a0g_4 (.ref a0_5) a0g_6 (.int a0_8) a0g_9 a0g_10 a0_7 a0_7_0 (.int a0_7_1) a0_7g_2 a0_7g_3 a0_7g_4 a0_7g_5 a0_7g_6 a0_7g_7 a0_7g_8 (.int a0_7_9) a0_7g_10 a0_7g_11 (.ref a0_7_12) (.ref a0_7_13) a0_7g_14 ba0_7_0_l ba0_7_0_u) (cwV 3 hts gX7_could_X7_troubleOfNumber rfl rfl rfl zd_X7_troubleOfNumber ⟨Nat.le_of_ble_eq_true rfl, Nat.le_of_ble_eq_true rfl⟩) ⟨ax_blind (fun _ _ _ _ _ => trivial), zr_7 (zp_K hK) (zp_P2 hP) (q0 := 0) rfl, ax_pre (zp_P2 hP) (zp_K hK) (zp_D2 hD) (fun _ _ => trivial)⟩ rfl rfl hl.1 rfl (lv_room (Nat.le_of_ble_eq_true rfl)) dX7_could_6 ⟨Nat.le_of_ble_eq_true rfl, Nat.le_of_ble_eq_true rfl⟩) hS (fun q _ h => zp_F2 hD hS hA q h) (zp_F2 hD hS hA) (fun r6 u t H locs ht hvm hw hB hz1 hk1 hS1 => zo2 hB ht hP hD hk1 (zp_F2 hD hS hA) hS1 (fun hP hK1 hD hS => ?_))
  rcases hw with hw | hw | hw
  · obtain ⟨hw, fh6, h6⟩ := hw
    subst hw
    have l6k0_a0_7_0 : (1 : Int) ≤ a0_7_0.toInt := fh6
    have l6k0_a1 : (0 : Int) ≤ a1.toInt := Int.le_trans zq5 h6.1
    have u6k0_a1 : a1.toInt ≤ (999 : Int) := Int.le_trans h6.2 zq79
    refine lv_istore_n (lv' := [(2, .int 0), (0, .ref a0), (1, .int a1)]) hx hb dX7_could_9 rfl hl (by decide) rfl (fun ls hl => ?_)
    refine lv_iload_n hx hb dX7_could_10 rfl (lv_at hl 0 rfl) ?_
    refine lv_if_eq (tgt := 20) hx hb dX7_could_11 (by decide) (fun _ => ?_) (fun c11 => absurd (by decide +kernel) c11)
    refine lv_aload_n hx hb dX7_could_20 rfl (lv_at hl 1 rfl) ?_
    refine va_get (D := (dC, dI)) (ci := 7) (v := .ref a0_5) (C := RX7) (T := TX7) (N := 11) hx hb hts zi_X7_could_7 hown hK hP 0 rfl rfl 5 (by decide) (hts (.fieldLink RX7 43 "WaxTurns" "laws" "LWaxTurns$Laws;") (zm_X7_could_r1 (List.mem_of_getElem? (i := 0) rfl))) (fun _ h9 => h9) rfl dX7_could_21 ?_
    refine lv_aload_n hx hb dX7_could_24 rfl (lv_at hl 1 rfl) ?_
    refine va_get (D := (dC, dI)) (ci := 7) (v := .ref a0_7) (C := RX7) (T := TX7) (N := 11) hx hb hts zi_X7_could_7 hown hK hP 0 rfl rfl 7 (by decide) (hts (.fieldLink RX7 57 "WaxTurns" "hall" "LWaxTurns$Hall;") (zm_X7_could_r1 (List.mem_of_getElem? (i := 1) rfl))) (fun _ h9 => h9) rfl dX7_could_25 ?_
    refine zc_cutc (wc := [(a0_5, .inr (2, [.int a0_5_0, a0_5g_1, a0_5g_2, .ref a0_5_3, a0_5g_4, .int a0_5_5, a0_5g_6])), (a0_7, .inr (0, [.int a0_7_0, .int a0_7_1, a0_7g_2, a0_7g_3, a0_7g_4, a0_7g_5, a0_7g_6, a0_7g_7, a0_7g_8, .int a0_7_9, a0_7g_10, a0_7g_11, .ref a0_7_12, .ref a0_7_13, a0_7g_14])), (a0_5_3, .inl (ka0_5_3, 729, .inl (fa0_5_3))), (a0_7_13, .inl (ka0_7_13, 6, .inl (fa0_7_13))), (a0_7_12, .inl (ka0_7_12, 6, .inl (fa0_7_12)))]) hP hD hS hA [2, 1, 3, 4, 5] (by decide +kernel) rfl (fun hPc hDc hFc hCc => ?_)
    have hKc := hK.sub (tys' := [(ka0_5_3, .int), (ka0_7_13, .int), (ka0_7_12, .int)]) [0, 1, 2] rfl
    refine va_callv (va_runV (As := [.ref a0_7]) (rest := []) ⟨hx, hb, hml, hown, hts⟩ (c_X2_list l dC dI H.size a0_5 a0_7 a0_5_0 a0_5g_1 a0_5g_2 a0_5g_4 a0_5g_6 a0_5_3 a0_5_5 a0_7_0 a0_7_1 a0_7g_2 a0_7g_3 a0_7g_4 a0_7g_5 a0_7g_6 a0_7g_7 a0_7g_8 a0_7g_10 a0_7g_11 a0_7g_14 a0_7_9 a0_7_12 a0_7_13 ka0_5_3 fa0_5_3 ka0_7_13 fa0_7_13 ka0_7_12 fa0_7_12 ba0_5_0_l ba0_5_0_u ba0_5_5_l ba0_5_5_u (Int.le_trans zq4 l6k0_a0_7_0) ba0_7_0_u ba0_7_9_l ba0_7_9_u bfa0_5_3 bfa0_7_13) (cwV 1 hts gX7_could_X2_list rfl rfl rfl zd_X2_list ⟨Nat.le_of_ble_eq_true rfl, Nat.le_of_ble_eq_true rfl⟩) ⟨ax_blind (fun _ _ _ _ hq => va_Nw.same rfl rfl (hq)), zr_2 hKc hPc (q0 := 0) rfl, ax_pre hPc hKc hDc (fun _ hW => va_Nw.warmM hW hE0)⟩ rfl rfl hl.1 rfl (lv_room (Nat.le_of_ble_eq_true rfl)) dX7_could_28 ⟨Nat.le_of_ble_eq_true rfl, Nat.le_of_ble_eq_true rfl⟩) hS (fun q _ h => hFc q h) hFc (fun u t H locs ht hvm hw hB hz1 hk1 hS => zx_3 hB (fun v28na0_0 v28na0_5 v28nfa0_3 hB => zy_3 hB (fun bv28na0_0 bv28na0_5 bv28nfa0_3 hB => zo hB ht (fun hP1 hK1 hD1 => ?_))))
    refine zc_backc (w := [(a0, .inr (7, [a0g_0, a0g_1, a0g_2, a0g_3, a0g_4, .ref a0_5, a0g_6, .ref a0_7, .int a0_8, a0g_9, a0g_10])), (a0_7, .inr (0, [.int a0_7_0, .int a0_7_1, a0_7g_2, a0_7g_3, a0_7g_4, a0_7g_5, a0_7g_6, a0_7g_7, a0_7g_8, .int a0_7_9, a0_7g_10, a0_7g_11, .ref a0_7_12, .ref a0_7_13, a0_7g_14])), (a0_5, .inr (2, [.int v28na0_0, a0_5g_1, a0_5g_2, .ref a0_5_3, a0_5g_4, .int v28na0_5, a0_5g_6])), (a0_5_3, .inl (ka0_5_3, 729, .inl (v28nfa0_3))), (a0_7_13, .inl (ka0_7_13, 6, .inl (fa0_7_13))), (a0_7_12, .inl (ka0_7_12, 6, .inl (fa0_7_12)))]) hP hD hCc hk1 hFc hP1 hD1 [.inl 0, .inr 1, .inr 0, .inr 2, .inr 3, .inr 4] (by decide +kernel) rfl (fun hP hD => ?_)
    refine lv_iconst (v := 0) hx hb dX7_could_31 zk_iconst_0 ?_
    refine lv_istore_n (lv' := [(3, .int 0), (2, .int 0), (0, .ref a0), (1, .int a1)]) hx hb dX7_could_32 rfl hl (by decide) rfl (fun ls hl => ?_)
    refine lv_iconst (v := 0) hx hb dX7_could_33 zk_iconst_0 ?_
    refine lv_istore (lv' := [(4, .int 0), (3, .int 0), (2, .int 0), (0, .ref a0), (1, .int a1)]) hx hb dX7_could_34 hl (by decide) rfl (fun ls hl => ?_)
    have J36 : ∀ (n : Nat) (j36l4 : Int32) (j36l3 : Int32) (H : Heap) (locs : List Loc) (ls : Array Slot), (730 : Int) - j36l4.toInt ≤ (n : Int) → (0 : Int) ≤ j36l4.toInt → j36l4.toInt ≤ (729 : Int) → va_P (dC, dI) vwCl [(a0, .inr (7, [a0g_0, a0g_1, a0g_2, a0g_3, a0g_4, .ref a0_5, a0g_6, .ref a0_7, .int a0_8, a0g_9, a0g_10])), (a0_7, .inr (0, [.int a0_7_0, .int a0_7_1, a0_7g_2, a0_7g_3, a0_7g_4, a0_7g_5, a0_7g_6, a0_7g_7, a0_7g_8, .int a0_7_9, a0_7g_10, a0_7g_11, .ref a0_7_12, .ref a0_7_13, a0_7g_14])), (a0_5, .inr (2, [.int v28na0_0, a0_5g_1, a0_5g_2, .ref a0_5_3, a0_5g_4, .int v28na0_5, a0_5g_6])), (a0_5_3, .inl (ka0_5_3, 729, .inl (v28nfa0_3))), (a0_7_13, .inl (ka0_7_13, 6, .inl (fa0_7_13))), (a0_7_12, .inl (ka0_7_12, 6, .inl (fa0_7_12)))] H → va_D A [(a0, .inr (7, [a0g_0, a0g_1, a0g_2, a0g_3, a0g_4, .ref a0_5, a0g_6, .ref a0_7, .int a0_8, a0g_9, a0g_10])), (a0_7, .inr (0, [.int a0_7_0, .int a0_7_1, a0_7g_2, a0_7g_3, a0_7g_4, a0_7g_5, a0_7g_6, a0_7g_7, a0_7g_8, .int a0_7_9, a0_7g_10, a0_7g_11, .ref a0_7_12, .ref a0_7_13, a0_7g_14])), (a0_5, .inr (2, [.int v28na0_0, a0_5g_1, a0_5g_2, .ref a0_5_3, a0_5g_4, .int v28na0_5, a0_5g_6])), (a0_5_3, .inl (ka0_5_3, 729, .inl (v28nfa0_3))), (a0_7_13, .inl (ka0_7_13, 6, .inl (fa0_7_13))), (a0_7_12, .inl (ka0_7_12, 6, .inl (fa0_7_12)))] → va_S A s.heap H locs → lv_has ls 5 [(0, .ref a0), (1, .int a1), (3, .int j36l3), (4, .int j36l4)] → K H locs (F0 m 36 ls []) := by
      intro n
      induction n with
      | zero =>
        intro j36l4 j36l3 H locs ls hm bj36l4_l bj36l4_u hP hD hS hl
        have h8 := ai_min j36l4
        have h9 := ai_max j36l4
        exact absurd hm (by omega)
      | succ n ih36 =>
        intro j36l4 j36l3 H locs ls hm bj36l4_l bj36l4_u hP hD hS hl
        refine (hK0 _ _ _).mpr ?_
        have hm36 := hm
        refine lv_iload hx hb dX7_could_36 (lv_at hl 3 rfl) ?_
        refine lv_aload_n hx hb dX7_could_38 rfl (lv_at hl 0 rfl) ?_
        refine va_get (D := (dC, dI)) (ci := 7) (v := .ref a0_5) (C := RX7) (T := TX7) (N := 11) hx hb hts zi_X7_could_7 hown hK hP 0 rfl rfl 5 (by decide) (hts (.fieldLink RX7 43 "WaxTurns" "laws" "LWaxTurns$Laws;") (zm_X7_could_r1 (List.mem_of_getElem? (i := 0) rfl))) (fun _ h9 => h9) rfl dX7_could_39 ?_
        refine va_get (D := (dC, dI)) (ci := 2) (v := .int v28na0_0) (C := RX2) (T := TX2) (N := 7) hx hb hts zi_X7_could_2 hown hK hP 2 rfl rfl 0 (by decide) (hts (.fieldLink RX7 263 "WaxTurns$Laws" "fitCount" "I") (zm_X7_could_r1 (List.mem_of_getElem? (i := 2) rfl))) (fun _ h9 => h9) rfl dX7_could_42 ?_
        refine lv_icmp_ge (tgt := 77) hx hb dX7_could_45 (by decide) (fun c45 => ?_) (fun c45 => ?_)
        · have gc45 := ai_le c45
          have u45t_v28na0_0 : v28na0_0.toInt ≤ (729 : Int) := bv28na0_0.2
          have l45t_j36l4 : (0 : Int) ≤ j36l4.toInt := bj36l4_l
          refine lv_aload_n hx hb dX7_could_77 rfl (lv_at hl 0 rfl) ?_
          refine lv_iload_n hx hb dX7_could_78 rfl (lv_at hl 2 rfl) ?_
          refine va_calli (va_runV (As := [.int j36l3]) (rest := []) ⟨hx, hb, hml, hown, hts⟩ (c_X7_answered l dC dI H.size a0 j36l3 a0g_0 a0g_1 a0g_2 a0g_3 a0g_4 (.ref a0_5) a0g_6 (.ref a0_7) a0g_9 a0g_10 a0_8 ) (cwV 1 hts gX7_could_X7_answered rfl rfl rfl zd_X7_answered ⟨Nat.le_of_ble_eq_true rfl, Nat.le_of_ble_eq_true rfl⟩) ⟨ax_blind (fun _ _ _ _ _ => trivial), zr_7 (zp_K hK) (zp_P1 hP) (q0 := 0) rfl, ax_pre (zp_P1 hP) (zp_K hK) (zp_D1 hD) (fun _ _ => trivial)⟩ rfl rfl hl.1 rfl (lv_room (Nat.le_of_ble_eq_true rfl)) dX7_could_79 ⟨Nat.le_of_ble_eq_true rfl, Nat.le_of_ble_eq_true rfl⟩) hS (fun q _ h => zp_F1 hD hS hA q h) (zp_F1 hD hS hA) (fun r79 u t H locs ht hvm hw hB hz1 hk1 hS1 => zx_1 hB (fun v79na0_8 hB => zo1 hB ht hP hD hk1 (zp_F1 hD hS hA) hS1 (fun hP hK1 hD hS => ?_)))
          have hw : r79 = j36l3 := hw
          have hw := hw.symm
          subst hw
          exact W.iret (v := j36l3) hx hb hr (fun t ht hW => ⟨⟨j36l3, (), rfl, trivial, v79na0_8, v28na0_0, v28na0_5, v28nfa0_3, ⟨bv28na0_0.1, u45t_v28na0_0⟩, ⟨bv28na0_5.1, bv28na0_5.2⟩, bv28nfa0_3, by rw [ht]; exact hP, va_K.moved hW.alike hK, hD⟩, hS.F ht⟩) hS.2.2 dX7_could_82
        · have gc45 := ai_nle c45
          have u45f_j36l4 : j36l4.toInt ≤ (728 : Int) := ai_lthi gc45 bv28na0_0.2
          have l45f_v28na0_0 : (1 : Int) ≤ v28na0_0.toInt := ai_ltlo gc45 bj36l4_l
          refine lv_iload_n hx hb dX7_could_48 rfl (lv_at hl 2 rfl) ?_
          refine lv_iconst (v := 1) hx hb dX7_could_49 zk_iconst_1 ?_
          refine lv_aload_n hx hb dX7_could_50 rfl (lv_at hl 0 rfl) ?_
          refine va_get (D := (dC, dI)) (ci := 7) (v := .ref a0_7) (C := RX7) (T := TX7) (N := 11) hx hb hts zi_X7_could_7 hown hK hP 0 rfl rfl 7 (by decide) (hts (.fieldLink RX7 57 "WaxTurns" "hall" "LWaxTurns$Hall;") (zm_X7_could_r1 (List.mem_of_getElem? (i := 1) rfl))) (fun _ h9 => h9) rfl dX7_could_51 ?_
          refine lv_aload_n hx hb dX7_could_54 rfl (lv_at hl 0 rfl) ?_
          refine va_get (D := (dC, dI)) (ci := 7) (v := .ref a0_5) (C := RX7) (T := TX7) (N := 11) hx hb hts zi_X7_could_7 hown hK hP 0 rfl rfl 5 (by decide) (hts (.fieldLink RX7 43 "WaxTurns" "laws" "LWaxTurns$Laws;") (zm_X7_could_r1 (List.mem_of_getElem? (i := 0) rfl))) (fun _ h9 => h9) rfl dX7_could_55 ?_
          refine va_get (D := (dC, dI)) (ci := 2) (v := .ref a0_5_3) (C := RX2) (T := TX2) (N := 7) hx hb hts zi_X7_could_2 hown hK hP 2 rfl rfl 3 (by decide) (hts (.fieldLink RX7 266 "WaxTurns$Laws" "fitting" "[I") (zm_X7_could_r1 (List.mem_of_getElem? (i := 3) rfl))) (fun _ h9 => h9) rfl dX7_could_58 ?_
          refine lv_iload hx hb dX7_could_61 (lv_at hl 3 rfl) ?_
          refine va_iald hx hb hK hP 3 0 rfl rfl (ai_in bj36l4_l u45f_j36l4 (by decide) (by decide)) dX7_could_63 ?_
          refine lv_topi (fun x63 ex63 => ?_)
          have bx63 : (0 : Int) ≤ x63.toInt ∧ x63.toInt ≤ 888 ∧ x63.toInt % 10 ≤ 8 := by rw [ex63]; exact bv28nfa0_3 _
          refine lv_iload_n hx hb dX7_could_64 rfl (lv_at hl 1 rfl) ?_
          refine zc_cutc (wc := [(a0_7, .inr (0, [.int a0_7_0, .int a0_7_1, a0_7g_2, a0_7g_3, a0_7g_4, a0_7g_5, a0_7g_6, a0_7g_7, a0_7g_8, .int a0_7_9, a0_7g_10, a0_7g_11, .ref a0_7_12, .ref a0_7_13, a0_7g_14]))]) hP hD hS hA [1] (by decide +kernel) rfl (fun hPc hDc hFc hCc => ?_)
          have hKc := zp_K hK
          refine va_calli (va_runV (As := [.int x63, .int a1]) (rest := [.int 1, .int j36l3]) ⟨hx, hb, hml, hown, hts⟩ (c_X0_aliveByLaw l dC dI H.size a0_7 x63 a1 a0_7_0 a0_7_1 a0_7g_2 a0_7g_3 a0_7g_4 a0_7g_5 a0_7g_6 a0_7g_7 a0_7g_8 (.int a0_7_9) a0_7g_10 a0_7g_11 (.ref a0_7_12) (.ref a0_7_13) a0_7g_14 bx63.1 (Int.le_trans bx63.2.1 zq31) l6k0_a1 u6k0_a1 (Int.le_trans zq4 l6k0_a0_7_0) ba0_7_0_u) (cwV 2 hts gX7_could_X0_aliveByLaw rfl rfl rfl zd_X0_aliveByLaw ⟨Nat.le_of_ble_eq_true rfl, Nat.le_of_ble_eq_true rfl⟩) ⟨ax_blind (fun _ _ _ _ hq => va_Nw.same rfl rfl (hq)), zr_0 hKc hPc (q0 := 0) rfl, ax_pre hPc hKc hDc (fun _ hW => va_Nw.warmM hW hE0)⟩ rfl rfl hl.1 rfl (lv_room (Nat.le_of_ble_eq_true rfl)) dX7_could_65 ⟨Nat.le_of_ble_eq_true rfl, Nat.le_of_ble_eq_true rfl⟩) hS (fun q _ h => hFc q h) hFc (fun r65 u t H locs ht hvm hw hB hz1 hk1 hS => zo hB ht (fun hP1 hK1 hD1 => ?_))
          refine zc_backc (w := [(a0, .inr (7, [a0g_0, a0g_1, a0g_2, a0g_3, a0g_4, .ref a0_5, a0g_6, .ref a0_7, .int a0_8, a0g_9, a0g_10])), (a0_7, .inr (0, [.int a0_7_0, .int a0_7_1, a0_7g_2, a0_7g_3, a0_7g_4, a0_7g_5, a0_7g_6, a0_7g_7, a0_7g_8, .int a0_7_9, a0_7g_10, a0_7g_11, .ref a0_7_12, .ref a0_7_13, a0_7g_14])), (a0_5, .inr (2, [.int v28na0_0, a0_5g_1, a0_5g_2, .ref a0_5_3, a0_5g_4, .int v28na0_5, a0_5g_6])), (a0_5_3, .inl (ka0_5_3, 729, .inl (v28nfa0_3))), (a0_7_13, .inl (ka0_7_13, 6, .inl (fa0_7_13))), (a0_7_12, .inl (ka0_7_12, 6, .inl (fa0_7_12)))]) hP hD hCc hk1 hFc hP1 hD1 [.inl 0, .inr 0, .inl 2, .inl 3, .inl 4, .inl 5] (by decide +kernel) rfl (fun hP hD => ?_)
          have hw : (0 : Int) ≤ r65.toInt ∧ r65.toInt ≤ (9 : Int) := hw
          obtain ⟨h65_0, h65_1⟩ := hw
          refine lv_ishl hx hb dX7_could_68 ?_
          refine lv_topi (fun x68 ex68 => ?_)
          refine lv_ior hx hb dX7_could_69 ?_
          refine lv_topi (fun x69 ex69 => ?_)
          refine lv_istore_n (lv' := [(3, .int x69), (0, .ref a0), (1, .int a1), (4, .int j36l4)]) hx hb dX7_could_70 rfl hl (by decide) rfl (fun ls hl => ?_)
          obtain ⟨x71, ex71⟩ : ∃ y : Int32, y = j36l4 + Int32.ofInt 1 := ⟨_, rfl⟩
          have qx71 : x71.toInt = j36l4.toInt + 1 := ai_inc ex71 (by decide) (by decide) u45f_j36l4 (by decide)
          have bx71 : (1 : Int) ≤ x71.toInt ∧ x71.toInt ≤ 729 := ⟨by rw [qx71]; exact Int.add_le_add bj36l4_l (Int.le_refl _), by rw [qx71]; exact Int.add_le_add u45f_j36l4 (Int.le_refl _)⟩
          refine lv_iinc (v := x71) (lv' := [(4, .int x71), (3, .int x69), (0, .ref a0), (1, .int a1)]) hx hb dX7_could_71 hl (k := 3) rfl ex71.symm (by decide) rfl (fun ls hl => ?_)
          refine lv_goto (tgt := 36) hx hb dX7_could_74 (by decide) ?_
          exact (hK0 _ _ _).mp (ih36 x71 x69 _ _ _ (by have h0 := qx71; omega) (Int.le_trans zq4 bx71.1) bx71.2 hP hD hS (lv_sub hl [2, 3, 1, 0] rfl))
    exact (hK0 _ _ _).mp (J36 730 0 0 _ _ _ (by have h1 : (0 : Int) ≤ (0 : Int32).toInt := zq5; have h2 : (0 : Int32).toInt ≤ (0 : Int) := zq6; omega) zq5 (Int.le_trans zq6 zq35) hP hD hS (lv_sub hl [3, 4, 1, 0] rfl))
  · subst hw
    refine lv_istore_n (lv' := [(2, .int 1), (0, .ref a0), (1, .int a1)]) hx hb dX7_could_9 rfl hl (by decide) rfl (fun ls hl => ?_)
    refine lv_iload_n hx hb dX7_could_10 rfl (lv_at hl 0 rfl) ?_
    refine lv_if_eq (tgt := 20) hx hb dX7_could_11 (by decide) (fun c11 => absurd c11 (by decide +kernel)) (fun _ => ?_)
    refine lv_aload_n hx hb dX7_could_14 rfl (lv_at hl 1 rfl) ?_
    refine lv_iload_n hx hb dX7_could_15 rfl (lv_at hl 0 rfl) ?_
    refine va_calli (va_runV (As := [.int 1]) (rest := []) ⟨hx, hb, hml, hown, hts⟩ (c_X7_refused l dC dI H.size a0 1 a0g_0 a0g_1 a0g_2 a0g_3 a0g_4 (.ref a0_5) a0g_6 (.ref a0_7) a0g_9 a0g_10 a0_8 ) (cwV 1 hts gX7_could_X7_refused rfl rfl rfl zd_X7_refused ⟨Nat.le_of_ble_eq_true rfl, Nat.le_of_ble_eq_true rfl⟩) ⟨ax_blind (fun _ _ _ _ _ => trivial), zr_7 (zp_K hK) (zp_P1 hP) (q0 := 0) rfl, ax_pre (zp_P1 hP) (zp_K hK) (zp_D1 hD) (fun _ _ => trivial)⟩ rfl rfl hl.1 rfl (lv_room (Nat.le_of_ble_eq_true rfl)) dX7_could_16 ⟨Nat.le_of_ble_eq_true rfl, Nat.le_of_ble_eq_true rfl⟩) hS (fun q _ h => zp_F1 hD hS hA q h) (zp_F1 hD hS hA) (fun r16 u t H locs ht hvm hw hB hz1 hk1 hS1 => zx_1 hB (fun v16na0_8 hB => zo1 hB ht hP hD hk1 (zp_F1 hD hS hA) hS1 (fun hP hK1 hD hS => ?_)))
    have hw : r16 = (-1) := hw
    have hw := hw.symm
    subst hw
    exact W.iret (v := (-1)) hx hb hr (fun t ht hW => ⟨⟨(-1), (), rfl, trivial, v16na0_8, a0_5_0, a0_5_5, fa0_5_3, ⟨ba0_5_0_l, ba0_5_0_u⟩, ⟨ba0_5_5_l, ba0_5_5_u⟩, bfa0_5_3, by rw [ht]; exact hP, va_K.moved hW.alike hK, hD⟩, hS.F ht⟩) hS.2.2 dX7_could_19
  · subst hw
    refine lv_istore_n (lv' := [(2, .int 2), (0, .ref a0), (1, .int a1)]) hx hb dX7_could_9 rfl hl (by decide) rfl (fun ls hl => ?_)
    refine lv_iload_n hx hb dX7_could_10 rfl (lv_at hl 0 rfl) ?_
    refine lv_if_eq (tgt := 20) hx hb dX7_could_11 (by decide) (fun c11 => absurd c11 (by decide +kernel)) (fun _ => ?_)
    refine lv_aload_n hx hb dX7_could_14 rfl (lv_at hl 1 rfl) ?_
    refine lv_iload_n hx hb dX7_could_15 rfl (lv_at hl 0 rfl) ?_
    refine va_calli (va_runV (As := [.int 2]) (rest := []) ⟨hx, hb, hml, hown, hts⟩ (c_X7_refused l dC dI H.size a0 2 a0g_0 a0g_1 a0g_2 a0g_3 a0g_4 (.ref a0_5) a0g_6 (.ref a0_7) a0g_9 a0g_10 a0_8 ) (cwV 1 hts gX7_could_X7_refused rfl rfl rfl zd_X7_refused ⟨Nat.le_of_ble_eq_true rfl, Nat.le_of_ble_eq_true rfl⟩) ⟨ax_blind (fun _ _ _ _ _ => trivial), zr_7 (zp_K hK) (zp_P1 hP) (q0 := 0) rfl, ax_pre (zp_P1 hP) (zp_K hK) (zp_D1 hD) (fun _ _ => trivial)⟩ rfl rfl hl.1 rfl (lv_room (Nat.le_of_ble_eq_true rfl)) dX7_could_16 ⟨Nat.le_of_ble_eq_true rfl, Nat.le_of_ble_eq_true rfl⟩) hS (fun q _ h => zp_F1 hD hS hA q h) (zp_F1 hD hS hA) (fun r16 u t H locs ht hvm hw hB hz1 hk1 hS1 => zx_1 hB (fun v16na0_8 hB => zo1 hB ht hP hD hk1 (zp_F1 hD hS hA) hS1 (fun hP hK1 hD hS => ?_)))
    have hw : r16 = (-1) := hw
    have hw := hw.symm
    subst hw
    exact W.iret (v := (-1)) hx hb hr (fun t ht hW => ⟨⟨(-1), (), rfl, trivial, v16na0_8, a0_5_0, a0_5_5, fa0_5_3, ⟨ba0_5_0_l, ba0_5_0_u⟩, ⟨ba0_5_5_l, ba0_5_5_u⟩, bfa0_5_3, by rw [ht]; exact hP, va_K.moved hW.alike hK, hD⟩, hS.F ht⟩) hS.2.2 dX7_could_19

set_option maxHeartbeats 4000000 in
set_option maxRecDepth 100000 in
theorem c_X7_aliveBy (l : Launch) (dC : Nat → ClassId) (dI : Nat → Nat → Nat) (sz : Nat) (a0 : Nat) (a1 : Int32) (a2 : Int32) (a0g_0 a0g_1 a0g_2 a0g_3 a0g_4 a0g_6 a0g_9 a0g_10 : Value) (a0_5 : Nat) (a0_7 : Nat) (a0_8 : Int32) (a0_7_0 : Int32) (a0_7_1 : Int32) (a0_7g_2 a0_7g_3 a0_7g_4 a0_7g_5 a0_7g_6 a0_7g_7 a0_7g_8 a0_7g_10 a0_7g_11 a0_7g_14 : Value) (a0_7_9 : Int32) (a0_7_12 : Nat) (a0_7_13 : Nat) (a0_5_0 : Int32) (a0_5g_1 a0_5g_2 a0_5g_4 a0_5g_6 : Value) (a0_5_3 : Nat) (a0_5_5 : Int32) (ka0_5_3 : ClassId) (fa0_5_3 : Nat → Int32) (ka0_7_13 : ClassId) (fa0_7_13 : Nat → Int32) (ka0_7_12 : ClassId) (fa0_7_12 : Nat → Int32) (ba0_7_0_l : (0 : Int) ≤ a0_7_0.toInt) (ba0_7_0_u : a0_7_0.toInt ≤ (9 : Int)) (ba0_7_9_l : (0 : Int) ≤ a0_7_9.toInt) (ba0_7_9_u : a0_7_9.toInt ≤ (6 : Int)) (ba0_5_0_l : (0 : Int) ≤ a0_5_0.toInt) (ba0_5_0_u : a0_5_0.toInt ≤ (729 : Int)) (ba0_5_5_l : (0 : Int) ≤ a0_5_5.toInt) (ba0_5_5_u : a0_5_5.toInt ≤ (1 : Int)) (bfa0_5_3 : (∀ k, (0 : Int) ≤ (fa0_5_3 k).toInt ∧ (fa0_5_3 k).toInt ≤ 888 ∧ (fa0_5_3 k).toInt % 10 ≤ 8)) (bfa0_7_13 : (∀ k, (0 : Int) ≤ (fa0_7_13 k).toInt ∧ (fa0_7_13 k).toInt ≤ 999)) : zm l yX7_aliveBy wsX7_aliveBy ({ frames := 4, cells := 0, slots := 0, locals := 98 }) [.ref a0, .int a1, .int a2] dC dI sz [(a0, .inr (7, [a0g_0, a0g_1, a0g_2, a0g_3, a0g_4, .ref a0_5, a0g_6, .ref a0_7, .int a0_8, a0g_9, a0g_10])), (a0_7, .inr (0, [.int a0_7_0, .int a0_7_1, a0_7g_2, a0_7g_3, a0_7g_4, a0_7g_5, a0_7g_6, a0_7g_7, a0_7g_8, .int a0_7_9, a0_7g_10, a0_7g_11, .ref a0_7_12, .ref a0_7_13, a0_7g_14])), (a0_5, .inr (2, [.int a0_5_0, a0_5g_1, a0_5g_2, .ref a0_5_3, a0_5g_4, .int a0_5_5, a0_5g_6])), (a0_5_3, .inl (ka0_5_3, 729, .inl (fa0_5_3))), (a0_7_13, .inl (ka0_7_13, 6, .inl (fa0_7_13))), (a0_7_12, .inl (ka0_7_12, 6, .inl (fa0_7_12)))] [(ka0_5_3, .int), (ka0_7_13, .int), (ka0_7_12, .int)] (fun A U => va_Nw (.methodLinkNest RX0 72 yX7_laterTurn RX7) U) (fun A => va_Qi (fun (r : Int32) (_ : Unit) => True) (fun (_ : Unit) (t : State) => ∃ na0_8 : Int32, ∃ na0_5_0 : Int32, ∃ na0_5_5 : Int32, ∃ nfa0_5_3 : Nat → Int32, ((0 : Int) ≤ na0_5_0.toInt ∧ na0_5_0.toInt ≤ 729) ∧ ((0 : Int) ≤ na0_5_5.toInt ∧ na0_5_5.toInt ≤ 1) ∧ (∀ k, (0 : Int) ≤ (nfa0_5_3 k).toInt ∧ (nfa0_5_3 k).toInt ≤ 888 ∧ (nfa0_5_3 k).toInt % 10 ≤ 8) ∧ ax_B dC dI A [(a0, .inr (7, [a0g_0, a0g_1, a0g_2, a0g_3, a0g_4, .ref a0_5, a0g_6, .ref a0_7, .int na0_8, a0g_9, a0g_10])), (a0_7, .inr (0, [.int a0_7_0, .int a0_7_1, a0_7g_2, a0_7g_3, a0_7g_4, a0_7g_5, a0_7g_6, a0_7g_7, a0_7g_8, .int a0_7_9, a0_7g_10, a0_7g_11, .ref a0_7_12, .ref a0_7_13, a0_7g_14])), (a0_5, .inr (2, [.int na0_5_0, a0_5g_1, a0_5g_2, .ref a0_5_3, a0_5g_4, .int na0_5_5, a0_5g_6])), (a0_5_3, .inl (ka0_5_3, 729, .inl (nfa0_5_3))), (a0_7_13, .inl (ka0_7_13, 6, .inl (fa0_7_13))), (a0_7_12, .inl (ka0_7_12, 6, .inl (fa0_7_12)))] [(ka0_5_3, .int), (ka0_7_13, .int), (ka0_7_12, .int)] t) A) := by
  refine zh (cc := cX7_aliveBy) (maxL := 6) (ret := (some .int)) zn_RX7 rfl (Nat.le_of_ble_eq_true rfl) (fun p e s m below meth c A ls hx hb hml hr hts (hown : s.vm.findClass RX7 = some m.cls) hlocks hA hS hP hK hD hE (hl : lv_has ls 6 [(0, .ref a0), (1, .int a1), (2, .int a2)]) => ?_)
  have hE0 := hE
  refine ai_open (fun K hK0 => ?_)
  refine (hK0 _ _ _).mpr ?_
  refine lv_aload_n hx hb dX7_aliveBy_0 rfl (lv_at hl 0 rfl) ?_
  refine lv_iload_n hx hb dX7_aliveBy_1 rfl (lv_at hl 1 rfl) ?_
  refine lv_iload_n hx hb dX7_aliveBy_2 rfl (lv_at hl 2 rfl) ?_
  refine lv_sipush (v := 999) hx hb dX7_aliveBy_3 zk_sipush_999 ?_
  refine va_calli (va_runV (As := [.int a1, .int a2, .int 999]) (rest := []) ⟨hx, hb, hml, hown, hts⟩ (c_X7_troubleOfFigureWithin l dC dI s.heap.size a0 a1 a2 999 a0g_0 a0g_1 a0g_2 a0g_3 a0g_4 (.ref a0_5) a0g_6 (.int a0_8) a0g_9 a0g_10 a0_7 a0_7_0 (.int a0_7_1) a0_7g_2 a0_7g_3 a0_7g_4 a0_7g_5 a0_7g_6 a0_7g_7 a0_7g_8 (.int a0_7_9) a0_7g_10 a0_7g_11 (.ref a0_7_12) (.ref a0_7_13) a0_7g_14 ba0_7_0_l ba0_7_0_u) (cwV 3 hts gX7_aliveBy_X7_troubleOfFigureWithin rfl rfl rfl zd_X7_troubleOfFigureWithin ⟨Nat.le_of_ble_eq_true rfl, Nat.le_of_ble_eq_true rfl⟩) ⟨ax_blind (fun _ _ _ _ _ => trivial), zr_7 (zp_K hK) (zp_P2 hP) (q0 := 0) rfl, ax_pre (zp_P2 hP) (zp_K hK) (zp_D2 hD) (fun _ _ => trivial)⟩ rfl rfl hl.1 rfl (lv_room (Nat.le_of_ble_eq_true rfl)) dX7_aliveBy_6 ⟨Nat.le_of_ble_eq_true rfl, Nat.le_of_ble_eq_true rfl⟩) hS (fun q _ h => zp_F2 hD hS hA q h) (zp_F2 hD hS hA) (fun r6 u t H locs ht hvm hw hB hz1 hk1 hS1 => zo2 hB ht hP hD hk1 (zp_F2 hD hS hA) hS1 (fun hP hK1 hD hS => ?_))
  rcases hw with hw | hw | hw
  · obtain ⟨hw, fh6, gh6, kh6, h6⟩ := hw
    subst hw
    have l6k0_a0_7_0 : (1 : Int) ≤ a0_7_0.toInt := fh6
    have l6k0_a1 : (0 : Int) ≤ a1.toInt := gh6
    have u6k0_a1 : a1.toInt ≤ (8 : Int) := kh6
    have l6k0_a2 : (0 : Int) ≤ a2.toInt := Int.le_trans zq5 h6.1
    have u6k0_a2 : a2.toInt ≤ (999 : Int) := Int.le_trans h6.2 zq79
    refine lv_istore_n (lv' := [(3, .int 0), (0, .ref a0), (1, .int a1), (2, .int a2)]) hx hb dX7_aliveBy_9 rfl hl (by decide) rfl (fun ls hl => ?_)
    refine lv_iload_n hx hb dX7_aliveBy_10 rfl (lv_at hl 0 rfl) ?_
    refine lv_if_eq (tgt := 20) hx hb dX7_aliveBy_11 (by decide) (fun _ => ?_) (fun c11 => absurd (by decide +kernel) c11)
    refine lv_aload_n hx hb dX7_aliveBy_20 rfl (lv_at hl 1 rfl) ?_
    refine va_get (D := (dC, dI)) (ci := 7) (v := .ref a0_5) (C := RX7) (T := TX7) (N := 11) hx hb hts zi_X7_aliveBy_7 hown hK hP 0 rfl rfl 5 (by decide) (hts (.fieldLink RX7 43 "WaxTurns" "laws" "LWaxTurns$Laws;") (zm_X7_aliveBy_r1 (List.mem_of_getElem? (i := 0) rfl))) (fun _ h9 => h9) rfl dX7_aliveBy_21 ?_
    refine lv_aload_n hx hb dX7_aliveBy_24 rfl (lv_at hl 1 rfl) ?_
    refine va_get (D := (dC, dI)) (ci := 7) (v := .ref a0_7) (C := RX7) (T := TX7) (N := 11) hx hb hts zi_X7_aliveBy_7 hown hK hP 0 rfl rfl 7 (by decide) (hts (.fieldLink RX7 57 "WaxTurns" "hall" "LWaxTurns$Hall;") (zm_X7_aliveBy_r1 (List.mem_of_getElem? (i := 1) rfl))) (fun _ h9 => h9) rfl dX7_aliveBy_25 ?_
    refine zc_cutc (wc := [(a0_5, .inr (2, [.int a0_5_0, a0_5g_1, a0_5g_2, .ref a0_5_3, a0_5g_4, .int a0_5_5, a0_5g_6])), (a0_7, .inr (0, [.int a0_7_0, .int a0_7_1, a0_7g_2, a0_7g_3, a0_7g_4, a0_7g_5, a0_7g_6, a0_7g_7, a0_7g_8, .int a0_7_9, a0_7g_10, a0_7g_11, .ref a0_7_12, .ref a0_7_13, a0_7g_14])), (a0_5_3, .inl (ka0_5_3, 729, .inl (fa0_5_3))), (a0_7_13, .inl (ka0_7_13, 6, .inl (fa0_7_13))), (a0_7_12, .inl (ka0_7_12, 6, .inl (fa0_7_12)))]) hP hD hS hA [2, 1, 3, 4, 5] (by decide +kernel) rfl (fun hPc hDc hFc hCc => ?_)
    have hKc := hK.sub (tys' := [(ka0_5_3, .int), (ka0_7_13, .int), (ka0_7_12, .int)]) [0, 1, 2] rfl
    refine va_callv (va_runV (As := [.ref a0_7]) (rest := []) ⟨hx, hb, hml, hown, hts⟩ (c_X2_list l dC dI H.size a0_5 a0_7 a0_5_0 a0_5g_1 a0_5g_2 a0_5g_4 a0_5g_6 a0_5_3 a0_5_5 a0_7_0 a0_7_1 a0_7g_2 a0_7g_3 a0_7g_4 a0_7g_5 a0_7g_6 a0_7g_7 a0_7g_8 a0_7g_10 a0_7g_11 a0_7g_14 a0_7_9 a0_7_12 a0_7_13 ka0_5_3 fa0_5_3 ka0_7_13 fa0_7_13 ka0_7_12 fa0_7_12 ba0_5_0_l ba0_5_0_u ba0_5_5_l ba0_5_5_u (Int.le_trans zq4 l6k0_a0_7_0) ba0_7_0_u ba0_7_9_l ba0_7_9_u bfa0_5_3 bfa0_7_13) (cwV 1 hts gX7_aliveBy_X2_list rfl rfl rfl zd_X2_list ⟨Nat.le_of_ble_eq_true rfl, Nat.le_of_ble_eq_true rfl⟩) ⟨ax_blind (fun _ _ _ _ hq => va_Nw.same rfl rfl (hq)), zr_2 hKc hPc (q0 := 0) rfl, ax_pre hPc hKc hDc (fun _ hW => va_Nw.warmM hW hE0)⟩ rfl rfl hl.1 rfl (lv_room (Nat.le_of_ble_eq_true rfl)) dX7_aliveBy_28 ⟨Nat.le_of_ble_eq_true rfl, Nat.le_of_ble_eq_true rfl⟩) hS (fun q _ h => hFc q h) hFc (fun u t H locs ht hvm hw hB hz1 hk1 hS => zx_3 hB (fun v28na0_0 v28na0_5 v28nfa0_3 hB => zy_3 hB (fun bv28na0_0 bv28na0_5 bv28nfa0_3 hB => zo hB ht (fun hP1 hK1 hD1 => ?_))))
    refine zc_backc (w := [(a0, .inr (7, [a0g_0, a0g_1, a0g_2, a0g_3, a0g_4, .ref a0_5, a0g_6, .ref a0_7, .int a0_8, a0g_9, a0g_10])), (a0_7, .inr (0, [.int a0_7_0, .int a0_7_1, a0_7g_2, a0_7g_3, a0_7g_4, a0_7g_5, a0_7g_6, a0_7g_7, a0_7g_8, .int a0_7_9, a0_7g_10, a0_7g_11, .ref a0_7_12, .ref a0_7_13, a0_7g_14])), (a0_5, .inr (2, [.int v28na0_0, a0_5g_1, a0_5g_2, .ref a0_5_3, a0_5g_4, .int v28na0_5, a0_5g_6])), (a0_5_3, .inl (ka0_5_3, 729, .inl (v28nfa0_3))), (a0_7_13, .inl (ka0_7_13, 6, .inl (fa0_7_13))), (a0_7_12, .inl (ka0_7_12, 6, .inl (fa0_7_12)))]) hP hD hCc hk1 hFc hP1 hD1 [.inl 0, .inr 1, .inr 0, .inr 2, .inr 3, .inr 4] (by decide +kernel) rfl (fun hP hD => ?_)
    refine lv_iconst (v := 0) hx hb dX7_aliveBy_31 zk_iconst_0 ?_
    refine lv_istore (lv' := [(4, .int 0), (3, .int 0), (0, .ref a0), (1, .int a1), (2, .int a2)]) hx hb dX7_aliveBy_32 hl (by decide) rfl (fun ls hl => ?_)
    refine lv_iconst (v := 0) hx hb dX7_aliveBy_34 zk_iconst_0 ?_
    refine lv_istore (lv' := [(5, .int 0), (4, .int 0), (3, .int 0), (0, .ref a0), (1, .int a1), (2, .int a2)]) hx hb dX7_aliveBy_35 hl (by decide) rfl (fun ls hl => ?_)
    have J37 : ∀ (n : Nat) (j37l5 : Int32) (j37l4 : Int32) (H : Heap) (locs : List Loc) (ls : Array Slot), (730 : Int) - j37l5.toInt ≤ (n : Int) → (0 : Int) ≤ j37l5.toInt → j37l5.toInt ≤ (729 : Int) → va_P (dC, dI) vwCl [(a0, .inr (7, [a0g_0, a0g_1, a0g_2, a0g_3, a0g_4, .ref a0_5, a0g_6, .ref a0_7, .int a0_8, a0g_9, a0g_10])), (a0_7, .inr (0, [.int a0_7_0, .int a0_7_1, a0_7g_2, a0_7g_3, a0_7g_4, a0_7g_5, a0_7g_6, a0_7g_7, a0_7g_8, .int a0_7_9, a0_7g_10, a0_7g_11, .ref a0_7_12, .ref a0_7_13, a0_7g_14])), (a0_5, .inr (2, [.int v28na0_0, a0_5g_1, a0_5g_2, .ref a0_5_3, a0_5g_4, .int v28na0_5, a0_5g_6])), (a0_5_3, .inl (ka0_5_3, 729, .inl (v28nfa0_3))), (a0_7_13, .inl (ka0_7_13, 6, .inl (fa0_7_13))), (a0_7_12, .inl (ka0_7_12, 6, .inl (fa0_7_12)))] H → va_D A [(a0, .inr (7, [a0g_0, a0g_1, a0g_2, a0g_3, a0g_4, .ref a0_5, a0g_6, .ref a0_7, .int a0_8, a0g_9, a0g_10])), (a0_7, .inr (0, [.int a0_7_0, .int a0_7_1, a0_7g_2, a0_7g_3, a0_7g_4, a0_7g_5, a0_7g_6, a0_7g_7, a0_7g_8, .int a0_7_9, a0_7g_10, a0_7g_11, .ref a0_7_12, .ref a0_7_13, a0_7g_14])), (a0_5, .inr (2, [.int v28na0_0, a0_5g_1, a0_5g_2, .ref a0_5_3, a0_5g_4, .int v28na0_5, a0_5g_6])), (a0_5_3, .inl (ka0_5_3, 729, .inl (v28nfa0_3))), (a0_7_13, .inl (ka0_7_13, 6, .inl (fa0_7_13))), (a0_7_12, .inl (ka0_7_12, 6, .inl (fa0_7_12)))] → va_S A s.heap H locs → lv_has ls 6 [(0, .ref a0), (1, .int a1), (2, .int a2), (4, .int j37l4), (5, .int j37l5)] → K H locs (F0 m 37 ls []) := by
      intro n
      induction n with
      | zero =>
        intro j37l5 j37l4 H locs ls hm bj37l5_l bj37l5_u hP hD hS hl
        have h8 := ai_min j37l5
        have h9 := ai_max j37l5
        exact absurd hm (by omega)
      | succ n ih37 =>
        intro j37l5 j37l4 H locs ls hm bj37l5_l bj37l5_u hP hD hS hl
        refine (hK0 _ _ _).mpr ?_
        have hm37 := hm
        refine lv_iload hx hb dX7_aliveBy_37 (lv_at hl 4 rfl) ?_
        refine lv_aload_n hx hb dX7_aliveBy_39 rfl (lv_at hl 0 rfl) ?_
        refine va_get (D := (dC, dI)) (ci := 7) (v := .ref a0_5) (C := RX7) (T := TX7) (N := 11) hx hb hts zi_X7_aliveBy_7 hown hK hP 0 rfl rfl 5 (by decide) (hts (.fieldLink RX7 43 "WaxTurns" "laws" "LWaxTurns$Laws;") (zm_X7_aliveBy_r1 (List.mem_of_getElem? (i := 0) rfl))) (fun _ h9 => h9) rfl dX7_aliveBy_40 ?_
        refine va_get (D := (dC, dI)) (ci := 2) (v := .int v28na0_0) (C := RX2) (T := TX2) (N := 7) hx hb hts zi_X7_aliveBy_2 hown hK hP 2 rfl rfl 0 (by decide) (hts (.fieldLink RX7 263 "WaxTurns$Laws" "fitCount" "I") (zm_X7_aliveBy_r1 (List.mem_of_getElem? (i := 2) rfl))) (fun _ h9 => h9) rfl dX7_aliveBy_43 ?_
        refine lv_icmp_ge (tgt := 80) hx hb dX7_aliveBy_46 (by decide) (fun c46 => ?_) (fun c46 => ?_)
        · have gc46 := ai_le c46
          have u46t_v28na0_0 : v28na0_0.toInt ≤ (729 : Int) := bv28na0_0.2
          have l46t_j37l5 : (0 : Int) ≤ j37l5.toInt := bj37l5_l
          refine lv_aload_n hx hb dX7_aliveBy_80 rfl (lv_at hl 0 rfl) ?_
          refine lv_iload hx hb dX7_aliveBy_81 (lv_at hl 3 rfl) ?_
          refine va_calli (va_runV (As := [.int j37l4]) (rest := []) ⟨hx, hb, hml, hown, hts⟩ (c_X7_answered l dC dI H.size a0 j37l4 a0g_0 a0g_1 a0g_2 a0g_3 a0g_4 (.ref a0_5) a0g_6 (.ref a0_7) a0g_9 a0g_10 a0_8 ) (cwV 1 hts gX7_aliveBy_X7_answered rfl rfl rfl zd_X7_answered ⟨Nat.le_of_ble_eq_true rfl, Nat.le_of_ble_eq_true rfl⟩) ⟨ax_blind (fun _ _ _ _ _ => trivial), zr_7 (zp_K hK) (zp_P1 hP) (q0 := 0) rfl, ax_pre (zp_P1 hP) (zp_K hK) (zp_D1 hD) (fun _ _ => trivial)⟩ rfl rfl hl.1 rfl (lv_room (Nat.le_of_ble_eq_true rfl)) dX7_aliveBy_83 ⟨Nat.le_of_ble_eq_true rfl, Nat.le_of_ble_eq_true rfl⟩) hS (fun q _ h => zp_F1 hD hS hA q h) (zp_F1 hD hS hA) (fun r83 u t H locs ht hvm hw hB hz1 hk1 hS1 => zx_1 hB (fun v83na0_8 hB => zo1 hB ht hP hD hk1 (zp_F1 hD hS hA) hS1 (fun hP hK1 hD hS => ?_)))
          have hw : r83 = j37l4 := hw
          have hw := hw.symm
          subst hw
          exact W.iret (v := j37l4) hx hb hr (fun t ht hW => ⟨⟨j37l4, (), rfl, trivial, v83na0_8, v28na0_0, v28na0_5, v28nfa0_3, ⟨bv28na0_0.1, u46t_v28na0_0⟩, ⟨bv28na0_5.1, bv28na0_5.2⟩, bv28nfa0_3, by rw [ht]; exact hP, va_K.moved hW.alike hK, hD⟩, hS.F ht⟩) hS.2.2 dX7_aliveBy_86
        · have gc46 := ai_nle c46
          have u46f_j37l5 : j37l5.toInt ≤ (728 : Int) := ai_lthi gc46 bv28na0_0.2
          have l46f_v28na0_0 : (1 : Int) ≤ v28na0_0.toInt := ai_ltlo gc46 bj37l5_l
          refine lv_aload_n hx hb dX7_aliveBy_49 rfl (lv_at hl 0 rfl) ?_
          refine va_get (D := (dC, dI)) (ci := 7) (v := .ref a0_7) (C := RX7) (T := TX7) (N := 11) hx hb hts zi_X7_aliveBy_7 hown hK hP 0 rfl rfl 7 (by decide) (hts (.fieldLink RX7 57 "WaxTurns" "hall" "LWaxTurns$Hall;") (zm_X7_aliveBy_r1 (List.mem_of_getElem? (i := 1) rfl))) (fun _ h9 => h9) rfl dX7_aliveBy_50 ?_
          refine lv_aload_n hx hb dX7_aliveBy_53 rfl (lv_at hl 0 rfl) ?_
          refine va_get (D := (dC, dI)) (ci := 7) (v := .ref a0_5) (C := RX7) (T := TX7) (N := 11) hx hb hts zi_X7_aliveBy_7 hown hK hP 0 rfl rfl 5 (by decide) (hts (.fieldLink RX7 43 "WaxTurns" "laws" "LWaxTurns$Laws;") (zm_X7_aliveBy_r1 (List.mem_of_getElem? (i := 0) rfl))) (fun _ h9 => h9) rfl dX7_aliveBy_54 ?_
          refine va_get (D := (dC, dI)) (ci := 2) (v := .ref a0_5_3) (C := RX2) (T := TX2) (N := 7) hx hb hts zi_X7_aliveBy_2 hown hK hP 2 rfl rfl 3 (by decide) (hts (.fieldLink RX7 266 "WaxTurns$Laws" "fitting" "[I") (zm_X7_aliveBy_r1 (List.mem_of_getElem? (i := 3) rfl))) (fun _ h9 => h9) rfl dX7_aliveBy_57 ?_
          refine lv_iload hx hb dX7_aliveBy_60 (lv_at hl 4 rfl) ?_
          refine va_iald hx hb hK hP 3 0 rfl rfl (ai_in bj37l5_l u46f_j37l5 (by decide) (by decide)) dX7_aliveBy_62 ?_
          refine lv_topi (fun x62 ex62 => ?_)
          have bx62 : (0 : Int) ≤ x62.toInt ∧ x62.toInt ≤ 888 ∧ x62.toInt % 10 ≤ 8 := by rw [ex62]; exact bv28nfa0_3 _
          refine lv_iload_n hx hb dX7_aliveBy_63 rfl (lv_at hl 2 rfl) ?_
          refine zc_cutc (wc := [(a0_7, .inr (0, [.int a0_7_0, .int a0_7_1, a0_7g_2, a0_7g_3, a0_7g_4, a0_7g_5, a0_7g_6, a0_7g_7, a0_7g_8, .int a0_7_9, a0_7g_10, a0_7g_11, .ref a0_7_12, .ref a0_7_13, a0_7g_14]))]) hP hD hS hA [1] (by decide +kernel) rfl (fun hPc hDc hFc hCc => ?_)
          have hKc := zp_K hK
          refine va_calli (va_runV (As := [.int x62, .int a2]) (rest := []) ⟨hx, hb, hml, hown, hts⟩ (c_X0_aliveByLaw l dC dI H.size a0_7 x62 a2 a0_7_0 a0_7_1 a0_7g_2 a0_7g_3 a0_7g_4 a0_7g_5 a0_7g_6 a0_7g_7 a0_7g_8 (.int a0_7_9) a0_7g_10 a0_7g_11 (.ref a0_7_12) (.ref a0_7_13) a0_7g_14 bx62.1 (Int.le_trans bx62.2.1 zq31) l6k0_a2 u6k0_a2 (Int.le_trans zq4 l6k0_a0_7_0) ba0_7_0_u) (cwV 2 hts gX7_aliveBy_X0_aliveByLaw rfl rfl rfl zd_X0_aliveByLaw ⟨Nat.le_of_ble_eq_true rfl, Nat.le_of_ble_eq_true rfl⟩) ⟨ax_blind (fun _ _ _ _ hq => va_Nw.same rfl rfl (hq)), zr_0 hKc hPc (q0 := 0) rfl, ax_pre hPc hKc hDc (fun _ hW => va_Nw.warmM hW hE0)⟩ rfl rfl hl.1 rfl (lv_room (Nat.le_of_ble_eq_true rfl)) dX7_aliveBy_64 ⟨Nat.le_of_ble_eq_true rfl, Nat.le_of_ble_eq_true rfl⟩) hS (fun q _ h => hFc q h) hFc (fun r64 u t H locs ht hvm hw hB hz1 hk1 hS => zo hB ht (fun hP1 hK1 hD1 => ?_))
          refine zc_backc (w := [(a0, .inr (7, [a0g_0, a0g_1, a0g_2, a0g_3, a0g_4, .ref a0_5, a0g_6, .ref a0_7, .int a0_8, a0g_9, a0g_10])), (a0_7, .inr (0, [.int a0_7_0, .int a0_7_1, a0_7g_2, a0_7g_3, a0_7g_4, a0_7g_5, a0_7g_6, a0_7g_7, a0_7g_8, .int a0_7_9, a0_7g_10, a0_7g_11, .ref a0_7_12, .ref a0_7_13, a0_7g_14])), (a0_5, .inr (2, [.int v28na0_0, a0_5g_1, a0_5g_2, .ref a0_5_3, a0_5g_4, .int v28na0_5, a0_5g_6])), (a0_5_3, .inl (ka0_5_3, 729, .inl (v28nfa0_3))), (a0_7_13, .inl (ka0_7_13, 6, .inl (fa0_7_13))), (a0_7_12, .inl (ka0_7_12, 6, .inl (fa0_7_12)))]) hP hD hCc hk1 hFc hP1 hD1 [.inl 0, .inr 0, .inl 2, .inl 3, .inl 4, .inl 5] (by decide +kernel) rfl (fun hP hD => ?_)
          have hw : (0 : Int) ≤ r64.toInt ∧ r64.toInt ≤ (9 : Int) := hw
          obtain ⟨h64_0, h64_1⟩ := hw
          refine lv_iload_n hx hb dX7_aliveBy_67 rfl (lv_at hl 1 rfl) ?_
          have J74 : ∀ (j74l4 : Int32) (H : Heap) (locs : List Loc) (ls : Array Slot), va_P (dC, dI) vwCl [(a0, .inr (7, [a0g_0, a0g_1, a0g_2, a0g_3, a0g_4, .ref a0_5, a0g_6, .ref a0_7, .int a0_8, a0g_9, a0g_10])), (a0_7, .inr (0, [.int a0_7_0, .int a0_7_1, a0_7g_2, a0_7g_3, a0_7g_4, a0_7g_5, a0_7g_6, a0_7g_7, a0_7g_8, .int a0_7_9, a0_7g_10, a0_7g_11, .ref a0_7_12, .ref a0_7_13, a0_7g_14])), (a0_5, .inr (2, [.int v28na0_0, a0_5g_1, a0_5g_2, .ref a0_5_3, a0_5g_4, .int v28na0_5, a0_5g_6])), (a0_5_3, .inl (ka0_5_3, 729, .inl (v28nfa0_3))), (a0_7_13, .inl (ka0_7_13, 6, .inl (fa0_7_13))), (a0_7_12, .inl (ka0_7_12, 6, .inl (fa0_7_12)))] H → va_D A [(a0, .inr (7, [a0g_0, a0g_1, a0g_2, a0g_3, a0g_4, .ref a0_5, a0g_6, .ref a0_7, .int a0_8, a0g_9, a0g_10])), (a0_7, .inr (0, [.int a0_7_0, .int a0_7_1, a0_7g_2, a0_7g_3, a0_7g_4, a0_7g_5, a0_7g_6, a0_7g_7, a0_7g_8, .int a0_7_9, a0_7g_10, a0_7g_11, .ref a0_7_12, .ref a0_7_13, a0_7g_14])), (a0_5, .inr (2, [.int v28na0_0, a0_5g_1, a0_5g_2, .ref a0_5_3, a0_5g_4, .int v28na0_5, a0_5g_6])), (a0_5_3, .inl (ka0_5_3, 729, .inl (v28nfa0_3))), (a0_7_13, .inl (ka0_7_13, 6, .inl (fa0_7_13))), (a0_7_12, .inl (ka0_7_12, 6, .inl (fa0_7_12)))] → va_S A s.heap H locs → lv_has ls 6 [(0, .ref a0), (1, .int a1), (2, .int a2), (4, .int j74l4), (5, .int j37l5)] → K H locs (F0 m 74 ls []) := by
            intro j74l4 H locs ls   hP hD hS hl
            refine (hK0 _ _ _).mpr ?_
            obtain ⟨x74, ex74⟩ : ∃ y : Int32, y = j37l5 + Int32.ofInt 1 := ⟨_, rfl⟩
            have qx74 : x74.toInt = j37l5.toInt + 1 := ai_inc ex74 (by decide) (by decide) u46f_j37l5 (by decide)
            have bx74 : (1 : Int) ≤ x74.toInt ∧ x74.toInt ≤ 729 := ⟨by rw [qx74]; exact Int.add_le_add bj37l5_l (Int.le_refl _), by rw [qx74]; exact Int.add_le_add u46f_j37l5 (Int.le_refl _)⟩
            refine lv_iinc (v := x74) (lv' := [(5, .int x74), (0, .ref a0), (1, .int a1), (2, .int a2), (4, .int j74l4)]) hx hb dX7_aliveBy_74 hl (k := 4) rfl ex74.symm (by decide) rfl (fun ls hl => ?_)
            refine lv_goto (tgt := 37) hx hb dX7_aliveBy_77 (by decide) ?_
            exact (hK0 _ _ _).mp (ih37 x74 j74l4 _ _ _ (by have h0 := qx74; omega) (Int.le_trans zq4 bx74.1) bx74.2 hP hD hS (lv_sub hl [1, 2, 3, 4, 0] rfl))
          refine lv_icmp_ne (tgt := 74) hx hb dX7_aliveBy_68 (by decide) (fun c68 => ?_) (fun c68 => ?_)
          · have gc68 := ai_ne c68
            exact (hK0 _ _ _).mp (J74 j37l4 _ _ _   hP hD hS (lv_sub hl [0, 1, 2, 3, 4] rfl))
          · have gc68 := ai_eq c68
            have u68f_r64 : r64.toInt ≤ (8 : Int) := Int.le_trans (Int.le_of_eq gc68) u6k0_a1
            have l68f_r64 : (0 : Int) ≤ r64.toInt := h64_0
            have u68f_a1 : a1.toInt ≤ (8 : Int) := u6k0_a1
            have l68f_a1 : (0 : Int) ≤ a1.toInt := l6k0_a1
            obtain ⟨x71, ex71⟩ : ∃ y : Int32, y = j37l4 + Int32.ofInt 1 := ⟨_, rfl⟩
            refine lv_iinc (v := x71) (lv' := [(4, .int x71), (0, .ref a0), (1, .int a1), (2, .int a2), (5, .int j37l5)]) hx hb dX7_aliveBy_71 hl (k := 3) rfl ex71.symm (by decide) rfl (fun ls hl => ?_)
            exact (hK0 _ _ _).mp (J74 x71 _ _ _   hP hD hS (lv_sub hl [1, 2, 3, 0, 4] rfl))
    exact (hK0 _ _ _).mp (J37 730 0 0 _ _ _ (by have h1 : (0 : Int) ≤ (0 : Int32).toInt := zq5; have h2 : (0 : Int32).toInt ≤ (0 : Int) := zq6; omega) zq5 (Int.le_trans zq6 zq35) hP hD hS (lv_sub hl [3, 4, 5, 1, 0] rfl))
  · subst hw
    refine lv_istore_n (lv' := [(3, .int 1), (0, .ref a0), (1, .int a1), (2, .int a2)]) hx hb dX7_aliveBy_9 rfl hl (by decide) rfl (fun ls hl => ?_)
    refine lv_iload_n hx hb dX7_aliveBy_10 rfl (lv_at hl 0 rfl) ?_
    refine lv_if_eq (tgt := 20) hx hb dX7_aliveBy_11 (by decide) (fun c11 => absurd c11 (by decide +kernel)) (fun _ => ?_)
    refine lv_aload_n hx hb dX7_aliveBy_14 rfl (lv_at hl 1 rfl) ?_
    refine lv_iload_n hx hb dX7_aliveBy_15 rfl (lv_at hl 0 rfl) ?_
    refine va_calli (va_runV (As := [.int 1]) (rest := []) ⟨hx, hb, hml, hown, hts⟩ (c_X7_refused l dC dI H.size a0 1 a0g_0 a0g_1 a0g_2 a0g_3 a0g_4 (.ref a0_5) a0g_6 (.ref a0_7) a0g_9 a0g_10 a0_8 ) (cwV 1 hts gX7_aliveBy_X7_refused rfl rfl rfl zd_X7_refused ⟨Nat.le_of_ble_eq_true rfl, Nat.le_of_ble_eq_true rfl⟩) ⟨ax_blind (fun _ _ _ _ _ => trivial), zr_7 (zp_K hK) (zp_P1 hP) (q0 := 0) rfl, ax_pre (zp_P1 hP) (zp_K hK) (zp_D1 hD) (fun _ _ => trivial)⟩ rfl rfl hl.1 rfl (lv_room (Nat.le_of_ble_eq_true rfl)) dX7_aliveBy_16 ⟨Nat.le_of_ble_eq_true rfl, Nat.le_of_ble_eq_true rfl⟩) hS (fun q _ h => zp_F1 hD hS hA q h) (zp_F1 hD hS hA) (fun r16 u t H locs ht hvm hw hB hz1 hk1 hS1 => zx_1 hB (fun v16na0_8 hB => zo1 hB ht hP hD hk1 (zp_F1 hD hS hA) hS1 (fun hP hK1 hD hS => ?_)))
    have hw : r16 = (-1) := hw
    have hw := hw.symm
    subst hw
    exact W.iret (v := (-1)) hx hb hr (fun t ht hW => ⟨⟨(-1), (), rfl, trivial, v16na0_8, a0_5_0, a0_5_5, fa0_5_3, ⟨ba0_5_0_l, ba0_5_0_u⟩, ⟨ba0_5_5_l, ba0_5_5_u⟩, bfa0_5_3, by rw [ht]; exact hP, va_K.moved hW.alike hK, hD⟩, hS.F ht⟩) hS.2.2 dX7_aliveBy_19
  · subst hw
    refine lv_istore_n (lv' := [(3, .int 2), (0, .ref a0), (1, .int a1), (2, .int a2)]) hx hb dX7_aliveBy_9 rfl hl (by decide) rfl (fun ls hl => ?_)
    refine lv_iload_n hx hb dX7_aliveBy_10 rfl (lv_at hl 0 rfl) ?_
    refine lv_if_eq (tgt := 20) hx hb dX7_aliveBy_11 (by decide) (fun c11 => absurd c11 (by decide +kernel)) (fun _ => ?_)
    refine lv_aload_n hx hb dX7_aliveBy_14 rfl (lv_at hl 1 rfl) ?_
    refine lv_iload_n hx hb dX7_aliveBy_15 rfl (lv_at hl 0 rfl) ?_
    refine va_calli (va_runV (As := [.int 2]) (rest := []) ⟨hx, hb, hml, hown, hts⟩ (c_X7_refused l dC dI H.size a0 2 a0g_0 a0g_1 a0g_2 a0g_3 a0g_4 (.ref a0_5) a0g_6 (.ref a0_7) a0g_9 a0g_10 a0_8 ) (cwV 1 hts gX7_aliveBy_X7_refused rfl rfl rfl zd_X7_refused ⟨Nat.le_of_ble_eq_true rfl, Nat.le_of_ble_eq_true rfl⟩) ⟨ax_blind (fun _ _ _ _ _ => trivial), zr_7 (zp_K hK) (zp_P1 hP) (q0 := 0) rfl, ax_pre (zp_P1 hP) (zp_K hK) (zp_D1 hD) (fun _ _ => trivial)⟩ rfl rfl hl.1 rfl (lv_room (Nat.le_of_ble_eq_true rfl)) dX7_aliveBy_16 ⟨Nat.le_of_ble_eq_true rfl, Nat.le_of_ble_eq_true rfl⟩) hS (fun q _ h => zp_F1 hD hS hA q h) (zp_F1 hD hS hA) (fun r16 u t H locs ht hvm hw hB hz1 hk1 hS1 => zx_1 hB (fun v16na0_8 hB => zo1 hB ht hP hD hk1 (zp_F1 hD hS hA) hS1 (fun hP hK1 hD hS => ?_)))
    have hw : r16 = (-1) := hw
    have hw := hw.symm
    subst hw
    exact W.iret (v := (-1)) hx hb hr (fun t ht hW => ⟨⟨(-1), (), rfl, trivial, v16na0_8, a0_5_0, a0_5_5, fa0_5_3, ⟨ba0_5_0_l, ba0_5_0_u⟩, ⟨ba0_5_5_l, ba0_5_5_u⟩, bfa0_5_3, by rw [ht]; exact hP, va_K.moved hW.alike hK, hD⟩, hS.F ht⟩) hS.2.2 dX7_aliveBy_19
end P119_safe
section P120_safe
set_option maxHeartbeats 4000000 in
set_option maxRecDepth 100000 in
theorem c_X7_look (l : Launch) (dC : Nat → ClassId) (dI : Nat → Nat → Nat) (sz : Nat) (a0 : Nat) (a0g_0 a0g_1 a0g_2 a0g_3 a0g_4 a0g_6 a0g_9 a0g_10 : Value) (a0_5 : Nat) (a0_7 : Nat) (a0_8 : Int32) (a0_7_0 : Int32) (a0_7_1 : Int32) (a0_7g_2 a0_7g_3 a0_7g_4 a0_7g_5 a0_7g_6 a0_7g_7 a0_7g_8 a0_7g_10 a0_7g_11 a0_7g_14 : Value) (a0_7_9 : Int32) (a0_7_12 : Nat) (a0_7_13 : Nat) (a0_5_0 : Int32) (a0_5_1 : Int32) (a0_5_2 : Int32) (a0_5_3 : Nat) (a0_5_4 : Nat) (a0_5_5 : Int32) (a0_5_6 : Int32) (ka0_5_3 : ClassId) (fa0_5_3 : Nat → Int32) (ka0_7_13 : ClassId) (fa0_7_13 : Nat → Int32) (ka0_7_12 : ClassId) (fa0_7_12 : Nat → Int32) (ka0_5_4 : ClassId) (fa0_5_4 : Nat → Int32) (ba0_7_0_l : (0 : Int) ≤ a0_7_0.toInt) (ba0_7_0_u : a0_7_0.toInt ≤ (9 : Int)) (ba0_7_9_l : (0 : Int) ≤ a0_7_9.toInt) (ba0_7_9_u : a0_7_9.toInt ≤ (6 : Int)) (ba0_5_0_l : (0 : Int) ≤ a0_5_0.toInt) (ba0_5_0_u : a0_5_0.toInt ≤ (729 : Int)) (ba0_5_5_l : (0 : Int) ≤ a0_5_5.toInt) (ba0_5_5_u : a0_5_5.toInt ≤ (1 : Int)) (ba0_5_6_l : (0 : Int) ≤ a0_5_6.toInt) (ba0_5_6_u : a0_5_6.toInt ≤ (1 : Int)) (bfa0_5_3 : (∀ k, (0 : Int) ≤ (fa0_5_3 k).toInt ∧ (fa0_5_3 k).toInt ≤ 888 ∧ (fa0_5_3 k).toInt % 10 ≤ 8)) (bfa0_7_13 : (∀ k, (0 : Int) ≤ (fa0_7_13 k).toInt ∧ (fa0_7_13 k).toInt ≤ 999)) : zm l yX7_look wsX7_look ({ frames := 5, cells := 0, slots := 0, locals := 122 }) [.ref a0] dC dI sz [(a0, .inr (7, [a0g_0, a0g_1, a0g_2, a0g_3, a0g_4, .ref a0_5, a0g_6, .ref a0_7, .int a0_8, a0g_9, a0g_10])), (a0_7, .inr (0, [.int a0_7_0, .int a0_7_1, a0_7g_2, a0_7g_3, a0_7g_4, a0_7g_5, a0_7g_6, a0_7g_7, a0_7g_8, .int a0_7_9, a0_7g_10, a0_7g_11, .ref a0_7_12, .ref a0_7_13, a0_7g_14])), (a0_5, .inr (2, [.int a0_5_0, .int a0_5_1, .int a0_5_2, .ref a0_5_3, .ref a0_5_4, .int a0_5_5, .int a0_5_6])), (a0_5_3, .inl (ka0_5_3, 729, .inl (fa0_5_3))), (a0_7_13, .inl (ka0_7_13, 6, .inl (fa0_7_13))), (a0_7_12, .inl (ka0_7_12, 6, .inl (fa0_7_12))), (a0_5_4, .inl (ka0_5_4, 900, .inl (fa0_5_4)))] [(ka0_5_3, .int), (ka0_7_13, .int), (ka0_7_12, .int), (ka0_5_4, .int)] (fun A U => va_Nw (.methodLinkNest RX0 72 yX7_laterTurn RX7) U) (fun A => va_Qi (fun (r : Int32) (_ : Unit) => True) (fun (_ : Unit) (t : State) => ∃ na0_8 : Int32, ∃ na0_5_0 : Int32, ∃ na0_5_1 : Int32, ∃ na0_5_2 : Int32, ∃ na0_5_5 : Int32, ∃ na0_5_6 : Int32, ∃ nfa0_5_3 : Nat → Int32, ∃ nfa0_5_4 : Nat → Int32, ((0 : Int) ≤ na0_5_0.toInt ∧ na0_5_0.toInt ≤ 729) ∧ ((0 : Int) ≤ na0_5_5.toInt ∧ na0_5_5.toInt ≤ 1) ∧ ((0 : Int) ≤ na0_5_6.toInt ∧ na0_5_6.toInt ≤ 1) ∧ (∀ k, (0 : Int) ≤ (nfa0_5_3 k).toInt ∧ (nfa0_5_3 k).toInt ≤ 888 ∧ (nfa0_5_3 k).toInt % 10 ≤ 8) ∧ ax_B dC dI A [(a0, .inr (7, [a0g_0, a0g_1, a0g_2, a0g_3, a0g_4, .ref a0_5, a0g_6, .ref a0_7, .int na0_8, a0g_9, a0g_10])), (a0_7, .inr (0, [.int a0_7_0, .int a0_7_1, a0_7g_2, a0_7g_3, a0_7g_4, a0_7g_5, a0_7g_6, a0_7g_7, a0_7g_8, .int a0_7_9, a0_7g_10, a0_7g_11, .ref a0_7_12, .ref a0_7_13, a0_7g_14])), (a0_5, .inr (2, [.int na0_5_0, .int na0_5_1, .int na0_5_2, .ref a0_5_3, .ref a0_5_4, .int na0_5_5, .int na0_5_6])), (a0_5_3, .inl (ka0_5_3, 729, .inl (nfa0_5_3))), (a0_7_13, .inl (ka0_7_13, 6, .inl (fa0_7_13))), (a0_7_12, .inl (ka0_7_12, 6, .inl (fa0_7_12))), (a0_5_4, .inl (ka0_5_4, 900, .inl (nfa0_5_4)))] [(ka0_5_3, .int), (ka0_7_13, .int), (ka0_7_12, .int), (ka0_5_4, .int)] t) A) := by
  refine zh (cc := cX7_look) (maxL := 1) (ret := (some .int)) zn_RX7 rfl (Nat.le_of_ble_eq_true rfl) (fun p e s m below meth c A ls hx hb hml hr hts (hown : s.vm.findClass RX7 = some m.cls) hlocks hA hS hP hK hD hE (hl : lv_has ls 1 [(0, .ref a0)]) => ?_)
  have hE0 := hE
  refine lv_aload_n hx hb dX7_look_0 rfl (lv_at hl 0 rfl) ?_
  refine va_calli (va_runV (As := []) (rest := []) ⟨hx, hb, hml, hown, hts⟩ (c_X7_hasGallery l dC dI s.heap.size a0 a0g_0 a0g_1 a0g_2 a0g_3 a0g_4 (.ref a0_5) a0g_6 (.int a0_8) a0g_9 a0g_10 a0_7 a0_7_0 (.int a0_7_1) a0_7g_2 a0_7g_3 a0_7g_4 a0_7g_5 a0_7g_6 a0_7g_7 a0_7g_8 (.int a0_7_9) a0_7g_10 a0_7g_11 (.ref a0_7_12) (.ref a0_7_13) a0_7g_14 ba0_7_0_l ba0_7_0_u) (cwV 0 hts gX7_look_X7_hasGallery rfl rfl rfl zd_X7_hasGallery ⟨Nat.le_of_ble_eq_true rfl, Nat.le_of_ble_eq_true rfl⟩) ⟨ax_blind (fun _ _ _ _ _ => trivial), zr_7 (zp_K hK) (zp_P2 hP) (q0 := 0) rfl, ax_pre (zp_P2 hP) (zp_K hK) (zp_D2 hD) (fun _ _ => trivial)⟩ rfl rfl hl.1 rfl (lv_room (Nat.le_of_ble_eq_true rfl)) dX7_look_1 ⟨Nat.le_of_ble_eq_true rfl, Nat.le_of_ble_eq_true rfl⟩) hS (fun q _ h => zp_F2 hD hS hA q h) (zp_F2 hD hS hA) (fun r1 u t H locs ht hvm hw hB hz1 hk1 hS1 => zo2 hB ht hP hD hk1 (zp_F2 hD hS hA) hS1 (fun hP hK1 hD hS => ?_))
  rcases hw with hw | hw
  · obtain ⟨hw, h1_0, h1_1⟩ := hw
    subst hw
    have l1k0_a0_7_0 : (1 : Int) ≤ a0_7_0.toInt := h1_0
    have u1k0_a0_7_0 : a0_7_0.toInt ≤ (9 : Int) := ba0_7_0_u
    refine lv_if_ne (tgt := 13) hx hb dX7_look_4 (by decide) (fun _ => ?_) (fun c4 => absurd c4 (by decide +kernel))
    refine lv_aload_n hx hb dX7_look_13 rfl (lv_at hl 0 rfl) ?_
    refine va_get (D := (dC, dI)) (ci := 7) (v := .ref a0_5) (C := RX7) (T := TX7) (N := 11) hx hb hts zi_X7_look_7 hown hK hP 0 rfl rfl 5 (by decide) (hts (.fieldLink RX7 43 "WaxTurns" "laws" "LWaxTurns$Laws;") (zm_X7_look_r1 (List.mem_of_getElem? (i := 0) rfl))) (fun _ h9 => h9) rfl dX7_look_14 ?_
    refine lv_aload_n hx hb dX7_look_17 rfl (lv_at hl 0 rfl) ?_
    refine va_get (D := (dC, dI)) (ci := 7) (v := .ref a0_7) (C := RX7) (T := TX7) (N := 11) hx hb hts zi_X7_look_7 hown hK hP 0 rfl rfl 7 (by decide) (hts (.fieldLink RX7 57 "WaxTurns" "hall" "LWaxTurns$Hall;") (zm_X7_look_r1 (List.mem_of_getElem? (i := 1) rfl))) (fun _ h9 => h9) rfl dX7_look_18 ?_
    refine zc_cutc (wc := [(a0_5, .inr (2, [.int a0_5_0, .int a0_5_1, .int a0_5_2, .ref a0_5_3, .ref a0_5_4, .int a0_5_5, .int a0_5_6])), (a0_7, .inr (0, [.int a0_7_0, .int a0_7_1, a0_7g_2, a0_7g_3, a0_7g_4, a0_7g_5, a0_7g_6, a0_7g_7, a0_7g_8, .int a0_7_9, a0_7g_10, a0_7g_11, .ref a0_7_12, .ref a0_7_13, a0_7g_14])), (a0_5_3, .inl (ka0_5_3, 729, .inl (fa0_5_3))), (a0_7_13, .inl (ka0_7_13, 6, .inl (fa0_7_13))), (a0_7_12, .inl (ka0_7_12, 6, .inl (fa0_7_12))), (a0_5_4, .inl (ka0_5_4, 900, .inl (fa0_5_4)))]) hP hD hS hA [2, 1, 3, 4, 5, 6] (by decide +kernel) rfl (fun hPc hDc hFc hCc => ?_)
    have hKc := hK.sub (tys' := [(ka0_5_3, .int), (ka0_7_13, .int), (ka0_7_12, .int), (ka0_5_4, .int)]) [0, 1, 2, 3] rfl
    refine va_callv (va_runV (As := [.ref a0_7]) (rest := []) ⟨hx, hb, hml, hown, hts⟩ (c_X2_chooseLook l dC dI H.size a0_5 a0_7 a0_5_0 a0_5_1 a0_5_2 a0_5_3 a0_5_4 a0_5_5 a0_5_6 a0_7_0 a0_7_1 a0_7g_2 a0_7g_3 a0_7g_4 a0_7g_5 a0_7g_6 a0_7g_7 a0_7g_8 a0_7g_10 a0_7g_11 a0_7g_14 a0_7_9 a0_7_12 a0_7_13 ka0_5_3 fa0_5_3 ka0_7_13 fa0_7_13 ka0_7_12 fa0_7_12 ka0_5_4 fa0_5_4 ba0_5_0_l ba0_5_0_u ba0_5_5_l ba0_5_5_u ba0_5_6_l ba0_5_6_u (Int.le_trans zq4 l1k0_a0_7_0) u1k0_a0_7_0 ba0_7_9_l ba0_7_9_u bfa0_5_3 bfa0_7_13) (cwV 1 hts gX7_look_X2_chooseLook rfl rfl rfl zd_X2_chooseLook ⟨Nat.le_of_ble_eq_true rfl, Nat.le_of_ble_eq_true rfl⟩) ⟨ax_blind (fun _ _ _ _ hq => va_Nw.same rfl rfl (hq)), zr_2 hKc hPc (q0 := 0) rfl, ax_pre hPc hKc hDc (fun _ hW => va_Nw.warmM hW hE0)⟩ rfl rfl hl.1 rfl (lv_room (Nat.le_of_ble_eq_true rfl)) dX7_look_21 ⟨Nat.le_of_ble_eq_true rfl, Nat.le_of_ble_eq_true rfl⟩) hS (fun q _ h => hFc q h) hFc (fun u t H locs ht hvm hw hB hz1 hk1 hS => zx_7 hB (fun v21na0_0 v21na0_1 v21na0_2 v21na0_5 v21na0_6 v21nfa0_3 v21nfa0_4 hB => zy_4 hB (fun bv21na0_0 bv21na0_5 bv21na0_6 bv21nfa0_3 hB => zo hB ht (fun hP1 hK1 hD1 => ?_))))
    refine zc_backc (w := [(a0, .inr (7, [a0g_0, a0g_1, a0g_2, a0g_3, a0g_4, .ref a0_5, a0g_6, .ref a0_7, .int a0_8, a0g_9, a0g_10])), (a0_7, .inr (0, [.int a0_7_0, .int a0_7_1, a0_7g_2, a0_7g_3, a0_7g_4, a0_7g_5, a0_7g_6, a0_7g_7, a0_7g_8, .int a0_7_9, a0_7g_10, a0_7g_11, .ref a0_7_12, .ref a0_7_13, a0_7g_14])), (a0_5, .inr (2, [.int v21na0_0, .int v21na0_1, .int v21na0_2, .ref a0_5_3, .ref a0_5_4, .int v21na0_5, .int v21na0_6])), (a0_5_3, .inl (ka0_5_3, 729, .inl (v21nfa0_3))), (a0_7_13, .inl (ka0_7_13, 6, .inl (fa0_7_13))), (a0_7_12, .inl (ka0_7_12, 6, .inl (fa0_7_12))), (a0_5_4, .inl (ka0_5_4, 900, .inl (v21nfa0_4)))]) hP hD hCc hk1 hFc hP1 hD1 [.inl 0, .inr 1, .inr 0, .inr 2, .inr 3, .inr 4, .inr 5] (by decide +kernel) rfl (fun hP hD => ?_)
    refine lv_aload_n hx hb dX7_look_24 rfl (lv_at hl 0 rfl) ?_
    refine lv_aload_n hx hb dX7_look_25 rfl (lv_at hl 0 rfl) ?_
    refine va_get (D := (dC, dI)) (ci := 7) (v := .ref a0_5) (C := RX7) (T := TX7) (N := 11) hx hb hts zi_X7_look_7 hown hK hP 0 rfl rfl 5 (by decide) (hts (.fieldLink RX7 43 "WaxTurns" "laws" "LWaxTurns$Laws;") (zm_X7_look_r1 (List.mem_of_getElem? (i := 0) rfl))) (fun _ h9 => h9) rfl dX7_look_26 ?_
    refine va_get (D := (dC, dI)) (ci := 2) (v := .int v21na0_1) (C := RX2) (T := TX2) (N := 7) hx hb hts zi_X7_look_2 hown hK hP 2 rfl rfl 1 (by decide) (hts (.fieldLink RX7 275 "WaxTurns$Laws" "lookMinute" "I") (zm_X7_look_r1 (List.mem_of_getElem? (i := 2) rfl))) (fun _ h9 => h9) rfl dX7_look_29 ?_
    refine va_calli (va_runV (As := [.int v21na0_1]) (rest := []) ⟨hx, hb, hml, hown, hts⟩ (c_X7_answered l dC dI H.size a0 v21na0_1 a0g_0 a0g_1 a0g_2 a0g_3 a0g_4 (.ref a0_5) a0g_6 (.ref a0_7) a0g_9 a0g_10 a0_8 ) (cwV 1 hts gX7_look_X7_answered rfl rfl rfl zd_X7_answered ⟨Nat.le_of_ble_eq_true rfl, Nat.le_of_ble_eq_true rfl⟩) ⟨ax_blind (fun _ _ _ _ _ => trivial), zr_7 (zp_K hK) (zp_P1 hP) (q0 := 0) rfl, ax_pre (zp_P1 hP) (zp_K hK) (zp_D1 hD) (fun _ _ => trivial)⟩ rfl rfl hl.1 rfl (lv_room (Nat.le_of_ble_eq_true rfl)) dX7_look_32 ⟨Nat.le_of_ble_eq_true rfl, Nat.le_of_ble_eq_true rfl⟩) hS (fun q _ h => zp_F1 hD hS hA q h) (zp_F1 hD hS hA) (fun r32 u t H locs ht hvm hw hB hz1 hk1 hS1 => zx_1 hB (fun v32na0_8 hB => zo1 hB ht hP hD hk1 (zp_F1 hD hS hA) hS1 (fun hP hK1 hD hS => ?_)))
    have hw : r32 = v21na0_1 := hw
    have hw := hw.symm
    subst hw
    exact W.iret (v := v21na0_1) hx hb hr (fun t ht hW => ⟨⟨v21na0_1, (), rfl, trivial, v32na0_8, v21na0_0, v21na0_1, v21na0_2, v21na0_5, v21na0_6, v21nfa0_3, v21nfa0_4, ⟨bv21na0_0.1, bv21na0_0.2⟩, ⟨bv21na0_5.1, bv21na0_5.2⟩, ⟨bv21na0_6.1, bv21na0_6.2⟩, bv21nfa0_3, by rw [ht]; exact hP, va_K.moved hW.alike hK, hD⟩, hS.F ht⟩) hS.2.2 dX7_look_35
  · obtain ⟨hw, h1_0, h1_1⟩ := hw
    subst hw
    have l1k1_a0_7_0 : (0 : Int) ≤ a0_7_0.toInt := ba0_7_0_l
    have u1k1_a0_7_0 : a0_7_0.toInt ≤ (0 : Int) := h1_1
    refine lv_if_ne (tgt := 13) hx hb dX7_look_4 (by decide) (fun c4 => absurd (by decide +kernel) c4) (fun _ => ?_)
    refine lv_aload_n hx hb dX7_look_7 rfl (lv_at hl 0 rfl) ?_
    refine lv_iconst (v := 1) hx hb dX7_look_8 zk_iconst_1 ?_
    refine va_calli (va_runV (As := [.int 1]) (rest := []) ⟨hx, hb, hml, hown, hts⟩ (c_X7_refused l dC dI H.size a0 1 a0g_0 a0g_1 a0g_2 a0g_3 a0g_4 (.ref a0_5) a0g_6 (.ref a0_7) a0g_9 a0g_10 a0_8 ) (cwV 1 hts gX7_look_X7_refused rfl rfl rfl zd_X7_refused ⟨Nat.le_of_ble_eq_true rfl, Nat.le_of_ble_eq_true rfl⟩) ⟨ax_blind (fun _ _ _ _ _ => trivial), zr_7 (zp_K hK) (zp_P1 hP) (q0 := 0) rfl, ax_pre (zp_P1 hP) (zp_K hK) (zp_D1 hD) (fun _ _ => trivial)⟩ rfl rfl hl.1 rfl (lv_room (Nat.le_of_ble_eq_true rfl)) dX7_look_9 ⟨Nat.le_of_ble_eq_true rfl, Nat.le_of_ble_eq_true rfl⟩) hS (fun q _ h => zp_F1 hD hS hA q h) (zp_F1 hD hS hA) (fun r9 u t H locs ht hvm hw hB hz1 hk1 hS1 => zx_1 hB (fun v9na0_8 hB => zo1 hB ht hP hD hk1 (zp_F1 hD hS hA) hS1 (fun hP hK1 hD hS => ?_)))
    have hw : r9 = (-1) := hw
    have hw := hw.symm
    subst hw
    exact W.iret (v := (-1)) hx hb hr (fun t ht hW => ⟨⟨(-1), (), rfl, trivial, v9na0_8, a0_5_0, a0_5_1, a0_5_2, a0_5_5, a0_5_6, fa0_5_3, fa0_5_4, ⟨ba0_5_0_l, ba0_5_0_u⟩, ⟨ba0_5_5_l, ba0_5_5_u⟩, ⟨ba0_5_6_l, ba0_5_6_u⟩, bfa0_5_3, by rw [ht]; exact hP, va_K.moved hW.alike hK, hD⟩, hS.F ht⟩) hS.2.2 dX7_look_12

set_option maxHeartbeats 4000000 in
set_option maxRecDepth 100000 in
theorem c_X7_lookLeaves (l : Launch) (dC : Nat → ClassId) (dI : Nat → Nat → Nat) (sz : Nat) (a0 : Nat) (a0g_0 a0g_1 a0g_2 a0g_3 a0g_4 a0g_6 a0g_9 a0g_10 : Value) (a0_5 : Nat) (a0_7 : Nat) (a0_8 : Int32) (a0_7_0 : Int32) (a0_7_1 : Int32) (a0_7g_2 a0_7g_3 a0_7g_4 a0_7g_5 a0_7g_6 a0_7g_7 a0_7g_8 a0_7g_10 a0_7g_11 a0_7g_14 : Value) (a0_7_9 : Int32) (a0_7_12 : Nat) (a0_7_13 : Nat) (a0_5_0 : Int32) (a0_5_1 : Int32) (a0_5_2 : Int32) (a0_5_3 : Nat) (a0_5_4 : Nat) (a0_5_5 : Int32) (a0_5_6 : Int32) (ka0_5_3 : ClassId) (fa0_5_3 : Nat → Int32) (ka0_7_13 : ClassId) (fa0_7_13 : Nat → Int32) (ka0_7_12 : ClassId) (fa0_7_12 : Nat → Int32) (ka0_5_4 : ClassId) (fa0_5_4 : Nat → Int32) (ba0_7_0_l : (0 : Int) ≤ a0_7_0.toInt) (ba0_7_0_u : a0_7_0.toInt ≤ (9 : Int)) (ba0_7_9_l : (0 : Int) ≤ a0_7_9.toInt) (ba0_7_9_u : a0_7_9.toInt ≤ (6 : Int)) (ba0_5_0_l : (0 : Int) ≤ a0_5_0.toInt) (ba0_5_0_u : a0_5_0.toInt ≤ (729 : Int)) (ba0_5_5_l : (0 : Int) ≤ a0_5_5.toInt) (ba0_5_5_u : a0_5_5.toInt ≤ (1 : Int)) (ba0_5_6_l : (0 : Int) ≤ a0_5_6.toInt) (ba0_5_6_u : a0_5_6.toInt ≤ (1 : Int)) (bfa0_5_3 : (∀ k, (0 : Int) ≤ (fa0_5_3 k).toInt ∧ (fa0_5_3 k).toInt ≤ 888 ∧ (fa0_5_3 k).toInt % 10 ≤ 8)) (bfa0_7_13 : (∀ k, (0 : Int) ≤ (fa0_7_13 k).toInt ∧ (fa0_7_13 k).toInt ≤ 999)) : zm l yX7_lookLeaves wsX7_lookLeaves ({ frames := 5, cells := 0, slots := 0, locals := 122 }) [.ref a0] dC dI sz [(a0, .inr (7, [a0g_0, a0g_1, a0g_2, a0g_3, a0g_4, .ref a0_5, a0g_6, .ref a0_7, .int a0_8, a0g_9, a0g_10])), (a0_7, .inr (0, [.int a0_7_0, .int a0_7_1, a0_7g_2, a0_7g_3, a0_7g_4, a0_7g_5, a0_7g_6, a0_7g_7, a0_7g_8, .int a0_7_9, a0_7g_10, a0_7g_11, .ref a0_7_12, .ref a0_7_13, a0_7g_14])), (a0_5, .inr (2, [.int a0_5_0, .int a0_5_1, .int a0_5_2, .ref a0_5_3, .ref a0_5_4, .int a0_5_5, .int a0_5_6])), (a0_5_3, .inl (ka0_5_3, 729, .inl (fa0_5_3))), (a0_7_13, .inl (ka0_7_13, 6, .inl (fa0_7_13))), (a0_7_12, .inl (ka0_7_12, 6, .inl (fa0_7_12))), (a0_5_4, .inl (ka0_5_4, 900, .inl (fa0_5_4)))] [(ka0_5_3, .int), (ka0_7_13, .int), (ka0_7_12, .int), (ka0_5_4, .int)] (fun A U => va_Nw (.methodLinkNest RX0 72 yX7_laterTurn RX7) U) (fun A => va_Qi (fun (r : Int32) (_ : Unit) => True) (fun (_ : Unit) (t : State) => ∃ na0_8 : Int32, ∃ na0_5_0 : Int32, ∃ na0_5_1 : Int32, ∃ na0_5_2 : Int32, ∃ na0_5_5 : Int32, ∃ na0_5_6 : Int32, ∃ nfa0_5_3 : Nat → Int32, ∃ nfa0_5_4 : Nat → Int32, ((0 : Int) ≤ na0_5_0.toInt ∧ na0_5_0.toInt ≤ 729) ∧ ((0 : Int) ≤ na0_5_5.toInt ∧ na0_5_5.toInt ≤ 1) ∧ ((0 : Int) ≤ na0_5_6.toInt ∧ na0_5_6.toInt ≤ 1) ∧ (∀ k, (0 : Int) ≤ (nfa0_5_3 k).toInt ∧ (nfa0_5_3 k).toInt ≤ 888 ∧ (nfa0_5_3 k).toInt % 10 ≤ 8) ∧ ax_B dC dI A [(a0, .inr (7, [a0g_0, a0g_1, a0g_2, a0g_3, a0g_4, .ref a0_5, a0g_6, .ref a0_7, .int na0_8, a0g_9, a0g_10])), (a0_7, .inr (0, [.int a0_7_0, .int a0_7_1, a0_7g_2, a0_7g_3, a0_7g_4, a0_7g_5, a0_7g_6, a0_7g_7, a0_7g_8, .int a0_7_9, a0_7g_10, a0_7g_11, .ref a0_7_12, .ref a0_7_13, a0_7g_14])), (a0_5, .inr (2, [.int na0_5_0, .int na0_5_1, .int na0_5_2, .ref a0_5_3, .ref a0_5_4, .int na0_5_5, .int na0_5_6])), (a0_5_3, .inl (ka0_5_3, 729, .inl (nfa0_5_3))), (a0_7_13, .inl (ka0_7_13, 6, .inl (fa0_7_13))), (a0_7_12, .inl (ka0_7_12, 6, .inl (fa0_7_12))), (a0_5_4, .inl (ka0_5_4, 900, .inl (nfa0_5_4)))] [(ka0_5_3, .int), (ka0_7_13, .int), (ka0_7_12, .int), (ka0_5_4, .int)] t) A) := by
  refine zh (cc := cX7_lookLeaves) (maxL := 1) (ret := (some .int)) zn_RX7 rfl (Nat.le_of_ble_eq_true rfl) (fun p e s m below meth c A ls hx hb hml hr hts (hown : s.vm.findClass RX7 = some m.cls) hlocks hA hS hP hK hD hE (hl : lv_has ls 1 [(0, .ref a0)]) => ?_)
  have hE0 := hE
  refine lv_aload_n hx hb dX7_lookLeaves_0 rfl (lv_at hl 0 rfl) ?_
  refine va_calli (va_runV (As := []) (rest := []) ⟨hx, hb, hml, hown, hts⟩ (c_X7_hasGallery l dC dI s.heap.size a0 a0g_0 a0g_1 a0g_2 a0g_3 a0g_4 (.ref a0_5) a0g_6 (.int a0_8) a0g_9 a0g_10 a0_7 a0_7_0 (.int a0_7_1) a0_7g_2 a0_7g_3 a0_7g_4 a0_7g_5 a0_7g_6 a0_7g_7 a0_7g_8 (.int a0_7_9) a0_7g_10 a0_7g_11 (.ref a0_7_12) (.ref a0_7_13) a0_7g_14 ba0_7_0_l ba0_7_0_u) (cwV 0 hts gX7_lookLeaves_X7_hasGallery rfl rfl rfl zd_X7_hasGallery ⟨Nat.le_of_ble_eq_true rfl, Nat.le_of_ble_eq_true rfl⟩) ⟨ax_blind (fun _ _ _ _ _ => trivial), zr_7 (zp_K hK) (zp_P2 hP) (q0 := 0) rfl, ax_pre (zp_P2 hP) (zp_K hK) (zp_D2 hD) (fun _ _ => trivial)⟩ rfl rfl hl.1 rfl (lv_room (Nat.le_of_ble_eq_true rfl)) dX7_lookLeaves_1 ⟨Nat.le_of_ble_eq_true rfl, Nat.le_of_ble_eq_true rfl⟩) hS (fun q _ h => zp_F2 hD hS hA q h) (zp_F2 hD hS hA) (fun r1 u t H locs ht hvm hw hB hz1 hk1 hS1 => zo2 hB ht hP hD hk1 (zp_F2 hD hS hA) hS1 (fun hP hK1 hD hS => ?_))
  rcases hw with hw | hw
  · obtain ⟨hw, h1_0, h1_1⟩ := hw
    subst hw
    have l1k0_a0_7_0 : (1 : Int) ≤ a0_7_0.toInt := h1_0
    have u1k0_a0_7_0 : a0_7_0.toInt ≤ (9 : Int) := ba0_7_0_u
    refine lv_if_ne (tgt := 13) hx hb dX7_lookLeaves_4 (by decide) (fun _ => ?_) (fun c4 => absurd c4 (by decide +kernel))
    refine lv_aload_n hx hb dX7_lookLeaves_13 rfl (lv_at hl 0 rfl) ?_
    refine va_get (D := (dC, dI)) (ci := 7) (v := .ref a0_5) (C := RX7) (T := TX7) (N := 11) hx hb hts zi_X7_lookLeaves_7 hown hK hP 0 rfl rfl 5 (by decide) (hts (.fieldLink RX7 43 "WaxTurns" "laws" "LWaxTurns$Laws;") (zm_X7_lookLeaves_r1 (List.mem_of_getElem? (i := 0) rfl))) (fun _ h9 => h9) rfl dX7_lookLeaves_14 ?_
    refine lv_aload_n hx hb dX7_lookLeaves_17 rfl (lv_at hl 0 rfl) ?_
    refine va_get (D := (dC, dI)) (ci := 7) (v := .ref a0_7) (C := RX7) (T := TX7) (N := 11) hx hb hts zi_X7_lookLeaves_7 hown hK hP 0 rfl rfl 7 (by decide) (hts (.fieldLink RX7 57 "WaxTurns" "hall" "LWaxTurns$Hall;") (zm_X7_lookLeaves_r1 (List.mem_of_getElem? (i := 1) rfl))) (fun _ h9 => h9) rfl dX7_lookLeaves_18 ?_
    refine zc_cutc (wc := [(a0_5, .inr (2, [.int a0_5_0, .int a0_5_1, .int a0_5_2, .ref a0_5_3, .ref a0_5_4, .int a0_5_5, .int a0_5_6])), (a0_7, .inr (0, [.int a0_7_0, .int a0_7_1, a0_7g_2, a0_7g_3, a0_7g_4, a0_7g_5, a0_7g_6, a0_7g_7, a0_7g_8, .int a0_7_9, a0_7g_10, a0_7g_11, .ref a0_7_12, .ref a0_7_13, a0_7g_14])), (a0_5_3, .inl (ka0_5_3, 729, .inl (fa0_5_3))), (a0_7_13, .inl (ka0_7_13, 6, .inl (fa0_7_13))), (a0_7_12, .inl (ka0_7_12, 6, .inl (fa0_7_12))), (a0_5_4, .inl (ka0_5_4, 900, .inl (fa0_5_4)))]) hP hD hS hA [2, 1, 3, 4, 5, 6] (by decide +kernel) rfl (fun hPc hDc hFc hCc => ?_)
    have hKc := hK.sub (tys' := [(ka0_5_3, .int), (ka0_7_13, .int), (ka0_7_12, .int), (ka0_5_4, .int)]) [0, 1, 2, 3] rfl
    refine va_callv (va_runV (As := [.ref a0_7]) (rest := []) ⟨hx, hb, hml, hown, hts⟩ (c_X2_chooseLook l dC dI H.size a0_5 a0_7 a0_5_0 a0_5_1 a0_5_2 a0_5_3 a0_5_4 a0_5_5 a0_5_6 a0_7_0 a0_7_1 a0_7g_2 a0_7g_3 a0_7g_4 a0_7g_5 a0_7g_6 a0_7g_7 a0_7g_8 a0_7g_10 a0_7g_11 a0_7g_14 a0_7_9 a0_7_12 a0_7_13 ka0_5_3 fa0_5_3 ka0_7_13 fa0_7_13 ka0_7_12 fa0_7_12 ka0_5_4 fa0_5_4 ba0_5_0_l ba0_5_0_u ba0_5_5_l ba0_5_5_u ba0_5_6_l ba0_5_6_u (Int.le_trans zq4 l1k0_a0_7_0) u1k0_a0_7_0 ba0_7_9_l ba0_7_9_u bfa0_5_3 bfa0_7_13) (cwV 1 hts gX7_lookLeaves_X2_chooseLook rfl rfl rfl zd_X2_chooseLook ⟨Nat.le_of_ble_eq_true rfl, Nat.le_of_ble_eq_true rfl⟩) ⟨ax_blind (fun _ _ _ _ hq => va_Nw.same rfl rfl (hq)), zr_2 hKc hPc (q0 := 0) rfl, ax_pre hPc hKc hDc (fun _ hW => va_Nw.warmM hW hE0)⟩ rfl rfl hl.1 rfl (lv_room (Nat.le_of_ble_eq_true rfl)) dX7_lookLeaves_21 ⟨Nat.le_of_ble_eq_true rfl, Nat.le_of_ble_eq_true rfl⟩) hS (fun q _ h => hFc q h) hFc (fun u t H locs ht hvm hw hB hz1 hk1 hS => zx_7 hB (fun v21na0_0 v21na0_1 v21na0_2 v21na0_5 v21na0_6 v21nfa0_3 v21nfa0_4 hB => zy_4 hB (fun bv21na0_0 bv21na0_5 bv21na0_6 bv21nfa0_3 hB => zo hB ht (fun hP1 hK1 hD1 => ?_))))
    refine zc_backc (w := [(a0, .inr (7, [a0g_0, a0g_1, a0g_2, a0g_3, a0g_4, .ref a0_5, a0g_6, .ref a0_7, .int a0_8, a0g_9, a0g_10])), (a0_7, .inr (0, [.int a0_7_0, .int a0_7_1, a0_7g_2, a0_7g_3, a0_7g_4, a0_7g_5, a0_7g_6, a0_7g_7, a0_7g_8, .int a0_7_9, a0_7g_10, a0_7g_11, .ref a0_7_12, .ref a0_7_13, a0_7g_14])), (a0_5, .inr (2, [.int v21na0_0, .int v21na0_1, .int v21na0_2, .ref a0_5_3, .ref a0_5_4, .int v21na0_5, .int v21na0_6])), (a0_5_3, .inl (ka0_5_3, 729, .inl (v21nfa0_3))), (a0_7_13, .inl (ka0_7_13, 6, .inl (fa0_7_13))), (a0_7_12, .inl (ka0_7_12, 6, .inl (fa0_7_12))), (a0_5_4, .inl (ka0_5_4, 900, .inl (v21nfa0_4)))]) hP hD hCc hk1 hFc hP1 hD1 [.inl 0, .inr 1, .inr 0, .inr 2, .inr 3, .inr 4, .inr 5] (by decide +kernel) rfl (fun hP hD => ?_)
    refine lv_aload_n hx hb dX7_lookLeaves_24 rfl (lv_at hl 0 rfl) ?_
    refine lv_aload_n hx hb dX7_lookLeaves_25 rfl (lv_at hl 0 rfl) ?_
    refine va_get (D := (dC, dI)) (ci := 7) (v := .ref a0_5) (C := RX7) (T := TX7) (N := 11) hx hb hts zi_X7_lookLeaves_7 hown hK hP 0 rfl rfl 5 (by decide) (hts (.fieldLink RX7 43 "WaxTurns" "laws" "LWaxTurns$Laws;") (zm_X7_lookLeaves_r1 (List.mem_of_getElem? (i := 0) rfl))) (fun _ h9 => h9) rfl dX7_lookLeaves_26 ?_
    refine va_get (D := (dC, dI)) (ci := 2) (v := .int v21na0_2) (C := RX2) (T := TX2) (N := 7) hx hb hts zi_X7_lookLeaves_2 hown hK hP 2 rfl rfl 2 (by decide) (hts (.fieldLink RX7 278 "WaxTurns$Laws" "lookMost" "I") (zm_X7_lookLeaves_r1 (List.mem_of_getElem? (i := 2) rfl))) (fun _ h9 => h9) rfl dX7_lookLeaves_29 ?_
    refine va_calli (va_runV (As := [.int v21na0_2]) (rest := []) ⟨hx, hb, hml, hown, hts⟩ (c_X7_answered l dC dI H.size a0 v21na0_2 a0g_0 a0g_1 a0g_2 a0g_3 a0g_4 (.ref a0_5) a0g_6 (.ref a0_7) a0g_9 a0g_10 a0_8 ) (cwV 1 hts gX7_lookLeaves_X7_answered rfl rfl rfl zd_X7_answered ⟨Nat.le_of_ble_eq_true rfl, Nat.le_of_ble_eq_true rfl⟩) ⟨ax_blind (fun _ _ _ _ _ => trivial), zr_7 (zp_K hK) (zp_P1 hP) (q0 := 0) rfl, ax_pre (zp_P1 hP) (zp_K hK) (zp_D1 hD) (fun _ _ => trivial)⟩ rfl rfl hl.1 rfl (lv_room (Nat.le_of_ble_eq_true rfl)) dX7_lookLeaves_32 ⟨Nat.le_of_ble_eq_true rfl, Nat.le_of_ble_eq_true rfl⟩) hS (fun q _ h => zp_F1 hD hS hA q h) (zp_F1 hD hS hA) (fun r32 u t H locs ht hvm hw hB hz1 hk1 hS1 => zx_1 hB (fun v32na0_8 hB => zo1 hB ht hP hD hk1 (zp_F1 hD hS hA) hS1 (fun hP hK1 hD hS => ?_)))
    have hw : r32 = v21na0_2 := hw
    have hw := hw.symm
    subst hw
    exact W.iret (v := v21na0_2) hx hb hr (fun t ht hW => ⟨⟨v21na0_2, (), rfl, trivial, v32na0_8, v21na0_0, v21na0_1, v21na0_2, v21na0_5, v21na0_6, v21nfa0_3, v21nfa0_4, ⟨bv21na0_0.1, bv21na0_0.2⟩, ⟨bv21na0_5.1, bv21na0_5.2⟩, ⟨bv21na0_6.1, bv21na0_6.2⟩, bv21nfa0_3, by rw [ht]; exact hP, va_K.moved hW.alike hK, hD⟩, hS.F ht⟩) hS.2.2 dX7_lookLeaves_35
  · obtain ⟨hw, h1_0, h1_1⟩ := hw
    subst hw
    have l1k1_a0_7_0 : (0 : Int) ≤ a0_7_0.toInt := ba0_7_0_l
    have u1k1_a0_7_0 : a0_7_0.toInt ≤ (0 : Int) := h1_1
    refine lv_if_ne (tgt := 13) hx hb dX7_lookLeaves_4 (by decide) (fun c4 => absurd (by decide +kernel) c4) (fun _ => ?_)
    refine lv_aload_n hx hb dX7_lookLeaves_7 rfl (lv_at hl 0 rfl) ?_
    refine lv_iconst (v := 1) hx hb dX7_lookLeaves_8 zk_iconst_1 ?_
    refine va_calli (va_runV (As := [.int 1]) (rest := []) ⟨hx, hb, hml, hown, hts⟩ (c_X7_refused l dC dI H.size a0 1 a0g_0 a0g_1 a0g_2 a0g_3 a0g_4 (.ref a0_5) a0g_6 (.ref a0_7) a0g_9 a0g_10 a0_8 ) (cwV 1 hts gX7_lookLeaves_X7_refused rfl rfl rfl zd_X7_refused ⟨Nat.le_of_ble_eq_true rfl, Nat.le_of_ble_eq_true rfl⟩) ⟨ax_blind (fun _ _ _ _ _ => trivial), zr_7 (zp_K hK) (zp_P1 hP) (q0 := 0) rfl, ax_pre (zp_P1 hP) (zp_K hK) (zp_D1 hD) (fun _ _ => trivial)⟩ rfl rfl hl.1 rfl (lv_room (Nat.le_of_ble_eq_true rfl)) dX7_lookLeaves_9 ⟨Nat.le_of_ble_eq_true rfl, Nat.le_of_ble_eq_true rfl⟩) hS (fun q _ h => zp_F1 hD hS hA q h) (zp_F1 hD hS hA) (fun r9 u t H locs ht hvm hw hB hz1 hk1 hS1 => zx_1 hB (fun v9na0_8 hB => zo1 hB ht hP hD hk1 (zp_F1 hD hS hA) hS1 (fun hP hK1 hD hS => ?_)))
    have hw : r9 = (-1) := hw
    have hw := hw.symm
    subst hw
    exact W.iret (v := (-1)) hx hb hr (fun t ht hW => ⟨⟨(-1), (), rfl, trivial, v9na0_8, a0_5_0, a0_5_1, a0_5_2, a0_5_5, a0_5_6, fa0_5_3, fa0_5_4, ⟨ba0_5_0_l, ba0_5_0_u⟩, ⟨ba0_5_5_l, ba0_5_5_u⟩, ⟨ba0_5_6_l, ba0_5_6_u⟩, bfa0_5_3, by rw [ht]; exact hP, va_K.moved hW.alike hK, hD⟩, hS.F ht⟩) hS.2.2 dX7_lookLeaves_12

set_option maxHeartbeats 4000000 in
set_option maxRecDepth 100000 in
theorem c_X7_lawsLike (l : Launch) (dC : Nat → ClassId) (dI : Nat → Nat → Nat) (sz : Nat) (a0 : Nat) (a0g_0 a0g_1 a0g_2 a0g_3 a0g_4 a0g_5 a0g_6 a0g_9 a0g_10 : Value) (a0_7 : Nat) (a0_8 : Int32) (a0_7_0 : Int32) (a0_7g_1 a0_7g_2 a0_7g_3 a0_7g_4 a0_7g_8 a0_7g_9 a0_7g_10 a0_7g_11 a0_7g_12 a0_7g_13 a0_7g_14 : Value) (a0_7_5 : Int32) (a0_7_6 : Int32) (a0_7_7 : Int32) (ba0_7_0_l : (0 : Int) ≤ a0_7_0.toInt) (ba0_7_0_u : a0_7_0.toInt ≤ (9 : Int)) (ba0_7_5_l : (0 : Int) ≤ a0_7_5.toInt) (ba0_7_5_u : a0_7_5.toInt ≤ (8 : Int)) (ba0_7_6_l : (0 : Int) ≤ a0_7_6.toInt) (ba0_7_6_u : a0_7_6.toInt ≤ (8 : Int)) (ba0_7_7_l : (0 : Int) ≤ a0_7_7.toInt) (ba0_7_7_u : a0_7_7.toInt ≤ (8 : Int)) : zm l yX7_lawsLike wsX7_lawsLike ({ frames := 2, cells := 0, slots := 0, locals := 46 }) [.ref a0] dC dI sz [(a0, .inr (7, [a0g_0, a0g_1, a0g_2, a0g_3, a0g_4, a0g_5, a0g_6, .ref a0_7, .int a0_8, a0g_9, a0g_10])), (a0_7, .inr (0, [.int a0_7_0, a0_7g_1, a0_7g_2, a0_7g_3, a0_7g_4, .int a0_7_5, .int a0_7_6, .int a0_7_7, a0_7g_8, a0_7g_9, a0_7g_10, a0_7g_11, a0_7g_12, a0_7g_13, a0_7g_14]))] [] (fun A _ => True) (fun A => va_Qi (fun (r : Int32) (_ : Unit) => True) (fun (_ : Unit) (t : State) => ∃ na0_8 : Int32, ax_B dC dI A [(a0, .inr (7, [a0g_0, a0g_1, a0g_2, a0g_3, a0g_4, a0g_5, a0g_6, .ref a0_7, .int na0_8, a0g_9, a0g_10])), (a0_7, .inr (0, [.int a0_7_0, a0_7g_1, a0_7g_2, a0_7g_3, a0_7g_4, .int a0_7_5, .int a0_7_6, .int a0_7_7, a0_7g_8, a0_7g_9, a0_7g_10, a0_7g_11, a0_7g_12, a0_7g_13, a0_7g_14]))] [] t) A) := by
  refine zh (cc := cX7_lawsLike) (maxL := 4) (ret := (some .int)) zn_RX7 rfl (Nat.le_of_ble_eq_true rfl) (fun p e s m below meth c A ls hx hb hml hr hts (hown : s.vm.findClass RX7 = some m.cls) hlocks hA hS hP hK hD hE (hl : lv_has ls 4 [(0, .ref a0)]) => ?_)
  refine ai_open (fun K hK0 => ?_)
  refine (hK0 _ _ _).mpr ?_
  refine lv_aload_n hx hb dX7_lawsLike_0 rfl (lv_at hl 0 rfl) ?_
  refine va_calli (va_runV (As := []) (rest := []) ⟨hx, hb, hml, hown, hts⟩ (c_X7_hasGallery l dC dI s.heap.size a0 a0g_0 a0g_1 a0g_2 a0g_3 a0g_4 a0g_5 a0g_6 (.int a0_8) a0g_9 a0g_10 a0_7 a0_7_0 a0_7g_1 a0_7g_2 a0_7g_3 a0_7g_4 (.int a0_7_5) (.int a0_7_6) (.int a0_7_7) a0_7g_8 a0_7g_9 a0_7g_10 a0_7g_11 a0_7g_12 a0_7g_13 a0_7g_14 ba0_7_0_l ba0_7_0_u) (cwV 0 hts gX7_lawsLike_X7_hasGallery rfl rfl rfl zd_X7_hasGallery ⟨Nat.le_of_ble_eq_true rfl, Nat.le_of_ble_eq_true rfl⟩) ⟨ax_blind (fun _ _ _ _ _ => trivial), zr_7 (zp_K hK) (zp_P2 hP) (q0 := 0) rfl, ax_pre (zp_P2 hP) (zp_K hK) (zp_D2 hD) (fun _ _ => trivial)⟩ rfl rfl hl.1 rfl (lv_room (Nat.le_of_ble_eq_true rfl)) dX7_lawsLike_1 ⟨Nat.le_of_ble_eq_true rfl, Nat.le_of_ble_eq_true rfl⟩) hS (fun q _ h => zp_F2 hD hS hA q h) (zp_F2 hD hS hA) (fun r1 u t H locs ht hvm hw hB hz1 hk1 hS1 => zo2 hB ht hP hD hk1 (zp_F2 hD hS hA) hS1 (fun hP hK1 hD hS => ?_))
  rcases hw with hw | hw
  · obtain ⟨hw, h1_0, h1_1⟩ := hw
    subst hw
    have l1k0_a0_7_0 : (1 : Int) ≤ a0_7_0.toInt := h1_0
    have u1k0_a0_7_0 : a0_7_0.toInt ≤ (9 : Int) := ba0_7_0_u
    refine lv_if_ne (tgt := 13) hx hb dX7_lawsLike_4 (by decide) (fun _ => ?_) (fun c4 => absurd c4 (by decide +kernel))
    refine lv_iconst (v := 0) hx hb dX7_lawsLike_13 zk_iconst_0 ?_
    refine lv_istore_n (lv' := [(1, .int 0), (0, .ref a0)]) hx hb dX7_lawsLike_14 rfl hl (by decide) rfl (fun ls hl => ?_)
    refine lv_iconst (v := 0) hx hb dX7_lawsLike_15 zk_iconst_0 ?_
    refine lv_istore_n (lv' := [(2, .int 0), (1, .int 0), (0, .ref a0)]) hx hb dX7_lawsLike_16 rfl hl (by decide) rfl (fun ls hl => ?_)
    have J17 : ∀ (n : Nat) (j17l2 : Int32) (j17l1 : Int32) (H : Heap) (locs : List Loc) (ls : Array Slot), (10 : Int) - j17l2.toInt ≤ (n : Int) → (0 : Int) ≤ j17l2.toInt → j17l2.toInt ≤ (9 : Int) → va_P (dC, dI) vwCl [(a0, .inr (7, [a0g_0, a0g_1, a0g_2, a0g_3, a0g_4, a0g_5, a0g_6, .ref a0_7, .int a0_8, a0g_9, a0g_10])), (a0_7, .inr (0, [.int a0_7_0, a0_7g_1, a0_7g_2, a0_7g_3, a0_7g_4, .int a0_7_5, .int a0_7_6, .int a0_7_7, a0_7g_8, a0_7g_9, a0_7g_10, a0_7g_11, a0_7g_12, a0_7g_13, a0_7g_14]))] H → va_D A [(a0, .inr (7, [a0g_0, a0g_1, a0g_2, a0g_3, a0g_4, a0g_5, a0g_6, .ref a0_7, .int a0_8, a0g_9, a0g_10])), (a0_7, .inr (0, [.int a0_7_0, a0_7g_1, a0_7g_2, a0_7g_3, a0_7g_4, .int a0_7_5, .int a0_7_6, .int a0_7_7, a0_7g_8, a0_7g_9, a0_7g_10, a0_7g_11, a0_7g_12, a0_7g_13, a0_7g_14]))] → va_S A s.heap H locs → lv_has ls 4 [(0, .ref a0), (1, .int j17l1), (2, .int j17l2)] → K H locs (F0 m 17 ls []) := by
      intro n
      induction n with
      | zero =>
        intro j17l2 j17l1 H locs ls hm bj17l2_l bj17l2_u hP hD hS hl
        have h8 := ai_min j17l2
        have h9 := ai_max j17l2
        exact absurd hm (by omega)
      | succ n ih17 =>
        intro j17l2 j17l1 H locs ls hm bj17l2_l bj17l2_u hP hD hS hl
        refine (hK0 _ _ _).mpr ?_
        have hm17 := hm
        refine lv_iload_n hx hb dX7_lawsLike_17 rfl (lv_at hl 2 rfl) ?_
        refine lv_aload_n hx hb dX7_lawsLike_18 rfl (lv_at hl 0 rfl) ?_
        refine va_get (D := (dC, dI)) (ci := 7) (v := .ref a0_7) (C := RX7) (T := TX7) (N := 11) hx hb hts zi_X7_lawsLike_7 hown hK hP 0 rfl rfl 7 (by decide) (hts (.fieldLink RX7 57 "WaxTurns" "hall" "LWaxTurns$Hall;") (zm_X7_lawsLike_r1 (List.mem_of_getElem? (i := 0) rfl))) (fun _ h9 => h9) rfl dX7_lawsLike_19 ?_
        refine va_get (D := (dC, dI)) (ci := 0) (v := .int a0_7_0) (C := RX0) (T := TX0) (N := 15) hx hb hts zi_X7_lawsLike_0 hown hK hP 1 rfl rfl 0 (by decide) (hts (.fieldLink RX7 110 "WaxTurns$Hall" "figures" "I") (zm_X7_lawsLike_r1 (List.mem_of_getElem? (i := 1) rfl))) (fun _ h9 => h9) rfl dX7_lawsLike_22 ?_
        refine lv_icmp_ge (tgt := 68) hx hb dX7_lawsLike_25 (by decide) (fun c25 => ?_) (fun c25 => ?_)
        · have gc25 := ai_le c25
          have u25t_a0_7_0 : a0_7_0.toInt ≤ (9 : Int) := u1k0_a0_7_0
          have l25t_j17l2 : (1 : Int) ≤ j17l2.toInt := Int.le_trans l1k0_a0_7_0 gc25
          refine lv_aload_n hx hb dX7_lawsLike_68 rfl (lv_at hl 0 rfl) ?_
          refine lv_iload_n hx hb dX7_lawsLike_69 rfl (lv_at hl 1 rfl) ?_
          refine va_calli (va_runV (As := [.int j17l1]) (rest := []) ⟨hx, hb, hml, hown, hts⟩ (c_X7_answered l dC dI H.size a0 j17l1 a0g_0 a0g_1 a0g_2 a0g_3 a0g_4 a0g_5 a0g_6 (.ref a0_7) a0g_9 a0g_10 a0_8 ) (cwV 1 hts gX7_lawsLike_X7_answered rfl rfl rfl zd_X7_answered ⟨Nat.le_of_ble_eq_true rfl, Nat.le_of_ble_eq_true rfl⟩) ⟨ax_blind (fun _ _ _ _ _ => trivial), zr_7 (zp_K hK) (zp_P1 hP) (q0 := 0) rfl, ax_pre (zp_P1 hP) (zp_K hK) (zp_D1 hD) (fun _ _ => trivial)⟩ rfl rfl hl.1 rfl (lv_room (Nat.le_of_ble_eq_true rfl)) dX7_lawsLike_70 ⟨Nat.le_of_ble_eq_true rfl, Nat.le_of_ble_eq_true rfl⟩) hS (fun q _ h => zp_F1 hD hS hA q h) (zp_F1 hD hS hA) (fun r70 u t H locs ht hvm hw hB hz1 hk1 hS1 => zx_1 hB (fun v70na0_8 hB => zo1 hB ht hP hD hk1 (zp_F1 hD hS hA) hS1 (fun hP hK1 hD hS => ?_)))
          have hw : r70 = j17l1 := hw
          have hw := hw.symm
          subst hw
          exact W.iret (v := j17l1) hx hb hr (fun t ht hW => ⟨⟨j17l1, (), rfl, trivial, v70na0_8, by rw [ht]; exact hP, va_K.moved hW.alike hK, hD⟩, hS.F ht⟩) hS.2.2 dX7_lawsLike_73
        · have gc25 := ai_nle c25
          have u25f_j17l2 : j17l2.toInt ≤ (8 : Int) := ai_lthi gc25 u1k0_a0_7_0
          have l25f_a0_7_0 : (1 : Int) ≤ a0_7_0.toInt := l1k0_a0_7_0
          refine lv_iconst (v := 0) hx hb dX7_lawsLike_28 zk_iconst_0 ?_
          refine lv_istore_n (lv' := [(3, .int 0), (0, .ref a0), (1, .int j17l1), (2, .int j17l2)]) hx hb dX7_lawsLike_29 rfl hl (by decide) rfl (fun ls hl => ?_)
          have J30 : ∀ (n : Nat) (j30l3 : Int32) (j30l1 : Int32) (H : Heap) (locs : List Loc) (ls : Array Slot), (10 : Int) - j30l3.toInt ≤ (n : Int) → (0 : Int) ≤ j30l3.toInt → j30l3.toInt ≤ (9 : Int) → va_P (dC, dI) vwCl [(a0, .inr (7, [a0g_0, a0g_1, a0g_2, a0g_3, a0g_4, a0g_5, a0g_6, .ref a0_7, .int a0_8, a0g_9, a0g_10])), (a0_7, .inr (0, [.int a0_7_0, a0_7g_1, a0_7g_2, a0_7g_3, a0_7g_4, .int a0_7_5, .int a0_7_6, .int a0_7_7, a0_7g_8, a0_7g_9, a0_7g_10, a0_7g_11, a0_7g_12, a0_7g_13, a0_7g_14]))] H → va_D A [(a0, .inr (7, [a0g_0, a0g_1, a0g_2, a0g_3, a0g_4, a0g_5, a0g_6, .ref a0_7, .int a0_8, a0g_9, a0g_10])), (a0_7, .inr (0, [.int a0_7_0, a0_7g_1, a0_7g_2, a0_7g_3, a0_7g_4, .int a0_7_5, .int a0_7_6, .int a0_7_7, a0_7g_8, a0_7g_9, a0_7g_10, a0_7g_11, a0_7g_12, a0_7g_13, a0_7g_14]))] → va_S A s.heap H locs → lv_has ls 4 [(0, .ref a0), (1, .int j30l1), (2, .int j17l2), (3, .int j30l3)] → K H locs (F0 m 30 ls []) := by
            intro n
            induction n with
            | zero =>
              intro j30l3 j30l1 H locs ls hm bj30l3_l bj30l3_u hP hD hS hl
              have h8 := ai_min j30l3
              have h9 := ai_max j30l3
              exact absurd hm (by omega)
            | succ n ih30 =>
              intro j30l3 j30l1 H locs ls hm bj30l3_l bj30l3_u hP hD hS hl
              refine (hK0 _ _ _).mpr ?_
              have hm30 := hm
              refine lv_iload_n hx hb dX7_lawsLike_30 rfl (lv_at hl 3 rfl) ?_
              refine lv_aload_n hx hb dX7_lawsLike_31 rfl (lv_at hl 0 rfl) ?_
              refine va_get (D := (dC, dI)) (ci := 7) (v := .ref a0_7) (C := RX7) (T := TX7) (N := 11) hx hb hts zi_X7_lawsLike_7 hown hK hP 0 rfl rfl 7 (by decide) (hts (.fieldLink RX7 57 "WaxTurns" "hall" "LWaxTurns$Hall;") (zm_X7_lawsLike_r1 (List.mem_of_getElem? (i := 0) rfl))) (fun _ h9 => h9) rfl dX7_lawsLike_32 ?_
              refine va_get (D := (dC, dI)) (ci := 0) (v := .int a0_7_0) (C := RX0) (T := TX0) (N := 15) hx hb hts zi_X7_lawsLike_0 hown hK hP 1 rfl rfl 0 (by decide) (hts (.fieldLink RX7 110 "WaxTurns$Hall" "figures" "I") (zm_X7_lawsLike_r1 (List.mem_of_getElem? (i := 1) rfl))) (fun _ h9 => h9) rfl dX7_lawsLike_35 ?_
              refine lv_icmp_ge (tgt := 62) hx hb dX7_lawsLike_38 (by decide) (fun c38 => ?_) (fun c38 => ?_)
              · have gc38 := ai_le c38
                have u38t_a0_7_0 : a0_7_0.toInt ≤ (9 : Int) := u1k0_a0_7_0
                have l38t_j30l3 : (1 : Int) ≤ j30l3.toInt := Int.le_trans l25f_a0_7_0 gc38
                obtain ⟨x62, ex62⟩ : ∃ y : Int32, y = j17l2 + Int32.ofInt 1 := ⟨_, rfl⟩
                have qx62 : x62.toInt = j17l2.toInt + 1 := ai_inc ex62 (by decide) (by decide) u25f_j17l2 (by decide)
                have bx62 : (1 : Int) ≤ x62.toInt ∧ x62.toInt ≤ 9 := ⟨by rw [qx62]; exact Int.add_le_add bj17l2_l (Int.le_refl _), by rw [qx62]; exact Int.add_le_add u25f_j17l2 (Int.le_refl _)⟩
                refine lv_iinc (v := x62) (lv' := [(2, .int x62), (0, .ref a0), (1, .int j30l1), (3, .int j30l3)]) hx hb dX7_lawsLike_62 hl (k := 2) rfl ex62.symm (by decide) rfl (fun ls hl => ?_)
                refine lv_goto (tgt := 17) hx hb dX7_lawsLike_65 (by decide) ?_
                exact (hK0 _ _ _).mp (ih17 x62 j30l1 _ _ _ (by have h0 := qx62; omega) (Int.le_trans zq4 bx62.1) bx62.2 hP hD hS (lv_sub hl [1, 2, 0] rfl))
              · have gc38 := ai_nle c38
                have u38f_j30l3 : j30l3.toInt ≤ (8 : Int) := ai_lthi gc38 u1k0_a0_7_0
                have l38f_a0_7_0 : (1 : Int) ≤ a0_7_0.toInt := l25f_a0_7_0
                refine lv_aload_n hx hb dX7_lawsLike_41 rfl (lv_at hl 0 rfl) ?_
                refine va_get (D := (dC, dI)) (ci := 7) (v := .ref a0_7) (C := RX7) (T := TX7) (N := 11) hx hb hts zi_X7_lawsLike_7 hown hK hP 0 rfl rfl 7 (by decide) (hts (.fieldLink RX7 57 "WaxTurns" "hall" "LWaxTurns$Hall;") (zm_X7_lawsLike_r1 (List.mem_of_getElem? (i := 0) rfl))) (fun _ h9 => h9) rfl dX7_lawsLike_42 ?_
                refine lv_iload_n hx hb dX7_lawsLike_45 rfl (lv_at hl 2 rfl) ?_
                refine lv_iload_n hx hb dX7_lawsLike_46 rfl (lv_at hl 3 rfl) ?_
                refine zc_cutc (wc := [(a0_7, .inr (0, [.int a0_7_0, a0_7g_1, a0_7g_2, a0_7g_3, a0_7g_4, .int a0_7_5, .int a0_7_6, .int a0_7_7, a0_7g_8, a0_7g_9, a0_7g_10, a0_7g_11, a0_7g_12, a0_7g_13, a0_7g_14]))]) hP hD hS hA [1] (by decide +kernel) rfl (fun hPc hDc hFc hCc => ?_)
                have hKc := zp_K hK
                refine va_calli (va_runV (As := [.int j17l2, .int j30l3]) (rest := []) ⟨hx, hb, hml, hown, hts⟩ (c_X0_goesLike l dC dI H.size a0_7 j17l2 j30l3 a0_7_0 a0_7g_1 a0_7g_2 a0_7g_3 a0_7g_4 a0_7g_8 a0_7g_9 a0_7g_10 a0_7g_11 a0_7g_12 a0_7g_13 a0_7g_14 a0_7_5 a0_7_6 a0_7_7 bj17l2_l u25f_j17l2 bj30l3_l u38f_j30l3 (Int.le_trans zq4 l38f_a0_7_0) u1k0_a0_7_0 ba0_7_5_l ba0_7_5_u ba0_7_6_l ba0_7_6_u ba0_7_7_l ba0_7_7_u) (cwV 2 hts gX7_lawsLike_X0_goesLike rfl rfl rfl zd_X0_goesLike ⟨Nat.le_of_ble_eq_true rfl, Nat.le_of_ble_eq_true rfl⟩) ⟨ax_blind (fun _ _ _ _ _ => trivial), zr_0 hKc hPc (q0 := 0) rfl, ax_pre hPc hKc hDc (fun _ _ => trivial)⟩ rfl rfl hl.1 rfl (lv_room (Nat.le_of_ble_eq_true rfl)) dX7_lawsLike_47 ⟨Nat.le_of_ble_eq_true rfl, Nat.le_of_ble_eq_true rfl⟩) hS (fun q _ h => hFc q h) hFc (fun r47 u t H locs ht hvm hw hB hz1 hk1 hS => zo hB ht (fun hP1 hK1 hD1 => ?_))
                refine zc_backc (w := [(a0, .inr (7, [a0g_0, a0g_1, a0g_2, a0g_3, a0g_4, a0g_5, a0g_6, .ref a0_7, .int a0_8, a0g_9, a0g_10])), (a0_7, .inr (0, [.int a0_7_0, a0_7g_1, a0_7g_2, a0_7g_3, a0_7g_4, .int a0_7_5, .int a0_7_6, .int a0_7_7, a0_7g_8, a0_7g_9, a0_7g_10, a0_7g_11, a0_7g_12, a0_7g_13, a0_7g_14]))]) hP hD hCc hk1 hFc hP1 hD1 [.inl 0, .inr 0] (by decide +kernel) rfl (fun hP hD => ?_)
                rcases hw with hw | hw
                · subst hw
                  refine lv_if_eq (tgt := 56) hx hb dX7_lawsLike_50 (by decide) (fun c50 => absurd c50 (by decide +kernel)) (fun _ => ?_)
                  have J56 : ∀ (j56l1 : Int32) (H : Heap) (locs : List Loc) (ls : Array Slot), va_P (dC, dI) vwCl [(a0, .inr (7, [a0g_0, a0g_1, a0g_2, a0g_3, a0g_4, a0g_5, a0g_6, .ref a0_7, .int a0_8, a0g_9, a0g_10])), (a0_7, .inr (0, [.int a0_7_0, a0_7g_1, a0_7g_2, a0_7g_3, a0_7g_4, .int a0_7_5, .int a0_7_6, .int a0_7_7, a0_7g_8, a0_7g_9, a0_7g_10, a0_7g_11, a0_7g_12, a0_7g_13, a0_7g_14]))] H → va_D A [(a0, .inr (7, [a0g_0, a0g_1, a0g_2, a0g_3, a0g_4, a0g_5, a0g_6, .ref a0_7, .int a0_8, a0g_9, a0g_10])), (a0_7, .inr (0, [.int a0_7_0, a0_7g_1, a0_7g_2, a0_7g_3, a0_7g_4, .int a0_7_5, .int a0_7_6, .int a0_7_7, a0_7g_8, a0_7g_9, a0_7g_10, a0_7g_11, a0_7g_12, a0_7g_13, a0_7g_14]))] → va_S A s.heap H locs → lv_has ls 4 [(0, .ref a0), (1, .int j56l1), (2, .int j17l2), (3, .int j30l3)] → K H locs (F0 m 56 ls []) := by
                    intro j56l1 H locs ls   hP hD hS hl
                    refine (hK0 _ _ _).mpr ?_
                    obtain ⟨x56, ex56⟩ : ∃ y : Int32, y = j30l3 + Int32.ofInt 1 := ⟨_, rfl⟩
                    have qx56 : x56.toInt = j30l3.toInt + 1 := ai_inc ex56 (by decide) (by decide) u38f_j30l3 (by decide)
                    have bx56 : (1 : Int) ≤ x56.toInt ∧ x56.toInt ≤ 9 := ⟨by rw [qx56]; exact Int.add_le_add bj30l3_l (Int.le_refl _), by rw [qx56]; exact Int.add_le_add u38f_j30l3 (Int.le_refl _)⟩
                    refine lv_iinc (v := x56) (lv' := [(3, .int x56), (0, .ref a0), (1, .int j56l1), (2, .int j17l2)]) hx hb dX7_lawsLike_56 hl (k := 3) rfl ex56.symm (by decide) rfl (fun ls hl => ?_)
                    refine lv_goto (tgt := 30) hx hb dX7_lawsLike_59 (by decide) ?_
                    exact (hK0 _ _ _).mp (ih30 x56 j56l1 _ _ _ (by have h0 := qx56; omega) (Int.le_trans zq4 bx56.1) bx56.2 hP hD hS (lv_sub hl [1, 2, 3, 0] rfl))
                  obtain ⟨x53, ex53⟩ : ∃ y : Int32, y = j30l1 + Int32.ofInt 1 := ⟨_, rfl⟩
                  refine lv_iinc (v := x53) (lv' := [(1, .int x53), (0, .ref a0), (2, .int j17l2), (3, .int j30l3)]) hx hb dX7_lawsLike_53 hl (k := 1) rfl ex53.symm (by decide) rfl (fun ls hl => ?_)
                  exact (hK0 _ _ _).mp (J56 x53 _ _ _   hP hD hS (lv_sub hl [1, 0, 2, 3] rfl))
                · obtain ⟨hw, h47_0, h47_1⟩ := hw
                  subst hw
                  have l47k1_a0_7_0 : (1 : Int) ≤ a0_7_0.toInt := l38f_a0_7_0
                  have u47k1_a0_7_0 : a0_7_0.toInt ≤ (9 : Int) := u1k0_a0_7_0
                  refine lv_if_eq (tgt := 56) hx hb dX7_lawsLike_50 (by decide) (fun _ => ?_) (fun c50 => absurd (by decide +kernel) c50)
                  have J56 : ∀ (j56l1 : Int32) (H : Heap) (locs : List Loc) (ls : Array Slot), va_P (dC, dI) vwCl [(a0, .inr (7, [a0g_0, a0g_1, a0g_2, a0g_3, a0g_4, a0g_5, a0g_6, .ref a0_7, .int a0_8, a0g_9, a0g_10])), (a0_7, .inr (0, [.int a0_7_0, a0_7g_1, a0_7g_2, a0_7g_3, a0_7g_4, .int a0_7_5, .int a0_7_6, .int a0_7_7, a0_7g_8, a0_7g_9, a0_7g_10, a0_7g_11, a0_7g_12, a0_7g_13, a0_7g_14]))] H → va_D A [(a0, .inr (7, [a0g_0, a0g_1, a0g_2, a0g_3, a0g_4, a0g_5, a0g_6, .ref a0_7, .int a0_8, a0g_9, a0g_10])), (a0_7, .inr (0, [.int a0_7_0, a0_7g_1, a0_7g_2, a0_7g_3, a0_7g_4, .int a0_7_5, .int a0_7_6, .int a0_7_7, a0_7g_8, a0_7g_9, a0_7g_10, a0_7g_11, a0_7g_12, a0_7g_13, a0_7g_14]))] → va_S A s.heap H locs → lv_has ls 4 [(0, .ref a0), (1, .int j56l1), (2, .int j17l2), (3, .int j30l3)] → K H locs (F0 m 56 ls []) := by
                    intro j56l1 H locs ls   hP hD hS hl
                    refine (hK0 _ _ _).mpr ?_
                    obtain ⟨x56, ex56⟩ : ∃ y : Int32, y = j30l3 + Int32.ofInt 1 := ⟨_, rfl⟩
                    have qx56 : x56.toInt = j30l3.toInt + 1 := ai_inc ex56 (by decide) (by decide) u38f_j30l3 (by decide)
                    have bx56 : (1 : Int) ≤ x56.toInt ∧ x56.toInt ≤ 9 := ⟨by rw [qx56]; exact Int.add_le_add bj30l3_l (Int.le_refl _), by rw [qx56]; exact Int.add_le_add u38f_j30l3 (Int.le_refl _)⟩
                    refine lv_iinc (v := x56) (lv' := [(3, .int x56), (0, .ref a0), (1, .int j56l1), (2, .int j17l2)]) hx hb dX7_lawsLike_56 hl (k := 3) rfl ex56.symm (by decide) rfl (fun ls hl => ?_)
                    refine lv_goto (tgt := 30) hx hb dX7_lawsLike_59 (by decide) ?_
                    exact (hK0 _ _ _).mp (ih30 x56 j56l1 _ _ _ (by have h0 := qx56; omega) (Int.le_trans zq4 bx56.1) bx56.2 hP hD hS (lv_sub hl [1, 2, 3, 0] rfl))
                  exact (hK0 _ _ _).mp (J56 j30l1 _ _ _   hP hD hS (lv_sub hl [0, 1, 2, 3] rfl))
          exact (hK0 _ _ _).mp (J30 10 0 j17l1 _ _ _ (by have h1 : (0 : Int) ≤ (0 : Int32).toInt := zq5; have h2 : (0 : Int32).toInt ≤ (0 : Int) := zq6; omega) zq5 (Int.le_trans zq6 zq7) hP hD hS (lv_sub hl [1, 2, 3, 0] rfl))
    exact (hK0 _ _ _).mp (J17 10 0 0 _ _ _ (by have h1 : (0 : Int) ≤ (0 : Int32).toInt := zq5; have h2 : (0 : Int32).toInt ≤ (0 : Int) := zq6; omega) zq5 (Int.le_trans zq6 zq7) hP hD hS (lv_sub hl [2, 1, 0] rfl))
  · obtain ⟨hw, h1_0, h1_1⟩ := hw
    subst hw
    have l1k1_a0_7_0 : (0 : Int) ≤ a0_7_0.toInt := ba0_7_0_l
    have u1k1_a0_7_0 : a0_7_0.toInt ≤ (0 : Int) := h1_1
    refine lv_if_ne (tgt := 13) hx hb dX7_lawsLike_4 (by decide) (fun c4 => absurd (by decide +kernel) c4) (fun _ => ?_)
    refine lv_aload_n hx hb dX7_lawsLike_7 rfl (lv_at hl 0 rfl) ?_
    refine lv_iconst (v := 1) hx hb dX7_lawsLike_8 zk_iconst_1 ?_
    refine va_calli (va_runV (As := [.int 1]) (rest := []) ⟨hx, hb, hml, hown, hts⟩ (c_X7_refused l dC dI H.size a0 1 a0g_0 a0g_1 a0g_2 a0g_3 a0g_4 a0g_5 a0g_6 (.ref a0_7) a0g_9 a0g_10 a0_8 ) (cwV 1 hts gX7_lawsLike_X7_refused rfl rfl rfl zd_X7_refused ⟨Nat.le_of_ble_eq_true rfl, Nat.le_of_ble_eq_true rfl⟩) ⟨ax_blind (fun _ _ _ _ _ => trivial), zr_7 (zp_K hK) (zp_P1 hP) (q0 := 0) rfl, ax_pre (zp_P1 hP) (zp_K hK) (zp_D1 hD) (fun _ _ => trivial)⟩ rfl rfl hl.1 rfl (lv_room (Nat.le_of_ble_eq_true rfl)) dX7_lawsLike_9 ⟨Nat.le_of_ble_eq_true rfl, Nat.le_of_ble_eq_true rfl⟩) hS (fun q _ h => zp_F1 hD hS hA q h) (zp_F1 hD hS hA) (fun r9 u t H locs ht hvm hw hB hz1 hk1 hS1 => zx_1 hB (fun v9na0_8 hB => zo1 hB ht hP hD hk1 (zp_F1 hD hS hA) hS1 (fun hP hK1 hD hS => ?_)))
    have hw : r9 = (-1) := hw
    have hw := hw.symm
    subst hw
    exact W.iret (v := (-1)) hx hb hr (fun t ht hW => ⟨⟨(-1), (), rfl, trivial, v9na0_8, by rw [ht]; exact hP, va_K.moved hW.alike hK, hD⟩, hS.F ht⟩) hS.2.2 dX7_lawsLike_12

set_option maxHeartbeats 4000000 in
set_option maxRecDepth 100000 in
theorem c_X7_lawFor (l : Launch) (dC : Nat → ClassId) (dI : Nat → Nat → Nat) (sz : Nat) (a0 : Nat) (a1 : Int32) (a2 : Int32) (a0g_0 a0g_1 a0g_2 a0g_3 a0g_4 a0g_5 a0g_6 a0g_9 a0g_10 : Value) (a0_7 : Nat) (a0_8 : Int32) (a0_7_0 : Int32) (a0_7g_1 a0_7g_2 a0_7g_3 a0_7g_4 a0_7g_5 a0_7g_6 a0_7g_7 a0_7g_8 a0_7g_9 a0_7g_10 a0_7g_11 a0_7g_12 a0_7g_13 a0_7g_14 : Value) (ba0_7_0_l : (0 : Int) ≤ a0_7_0.toInt) (ba0_7_0_u : a0_7_0.toInt ≤ (9 : Int)) : zm l yX7_lawFor wsX7_lawFor ({ frames := 3, cells := 0, slots := 0, locals := 66 }) [.ref a0, .int a1, .int a2] dC dI sz [(a0, .inr (7, [a0g_0, a0g_1, a0g_2, a0g_3, a0g_4, a0g_5, a0g_6, .ref a0_7, .int a0_8, a0g_9, a0g_10])), (a0_7, .inr (0, [.int a0_7_0, a0_7g_1, a0_7g_2, a0_7g_3, a0_7g_4, a0_7g_5, a0_7g_6, a0_7g_7, a0_7g_8, a0_7g_9, a0_7g_10, a0_7g_11, a0_7g_12, a0_7g_13, a0_7g_14]))] [] (fun A _ => True) (fun A => va_Qi (fun (r : Int32) (_ : Unit) => (-1 : Int) ≤ r.toInt ∧ r.toInt ≤ (80 : Int)) (fun (_ : Unit) (t : State) => ∃ na0_8 : Int32, ax_B dC dI A [(a0, .inr (7, [a0g_0, a0g_1, a0g_2, a0g_3, a0g_4, a0g_5, a0g_6, .ref a0_7, .int na0_8, a0g_9, a0g_10])), (a0_7, .inr (0, [.int a0_7_0, a0_7g_1, a0_7g_2, a0_7g_3, a0_7g_4, a0_7g_5, a0_7g_6, a0_7g_7, a0_7g_8, a0_7g_9, a0_7g_10, a0_7g_11, a0_7g_12, a0_7g_13, a0_7g_14]))] [] t) A) := by
  refine zh (cc := cX7_lawFor) (maxL := 4) (ret := (some .int)) zn_RX7 rfl (Nat.le_of_ble_eq_true rfl) (fun p e s m below meth c A ls hx hb hml hr hts (hown : s.vm.findClass RX7 = some m.cls) hlocks hA hS hP hK hD hE (hl : lv_has ls 4 [(0, .ref a0), (1, .int a1), (2, .int a2)]) => ?_)
  refine lv_aload_n hx hb dX7_lawFor_0 rfl (lv_at hl 0 rfl) ?_
  refine lv_iload_n hx hb dX7_lawFor_1 rfl (lv_at hl 1 rfl) ?_
  refine lv_iload_n hx hb dX7_lawFor_2 rfl (lv_at hl 2 rfl) ?_
  refine lv_bipush (v := 99) hx hb dX7_lawFor_3 zk_bipush_99 ?_
  refine va_calli (va_runV (As := [.int a1, .int a2, .int 99]) (rest := []) ⟨hx, hb, hml, hown, hts⟩ (c_X7_troubleOfFigureWithin l dC dI s.heap.size a0 a1 a2 99 a0g_0 a0g_1 a0g_2 a0g_3 a0g_4 a0g_5 a0g_6 (.int a0_8) a0g_9 a0g_10 a0_7 a0_7_0 a0_7g_1 a0_7g_2 a0_7g_3 a0_7g_4 a0_7g_5 a0_7g_6 a0_7g_7 a0_7g_8 a0_7g_9 a0_7g_10 a0_7g_11 a0_7g_12 a0_7g_13 a0_7g_14 ba0_7_0_l ba0_7_0_u) (cwV 3 hts gX7_lawFor_X7_troubleOfFigureWithin rfl rfl rfl zd_X7_troubleOfFigureWithin ⟨Nat.le_of_ble_eq_true rfl, Nat.le_of_ble_eq_true rfl⟩) ⟨ax_blind (fun _ _ _ _ _ => trivial), zr_7 (zp_K hK) (zp_P2 hP) (q0 := 0) rfl, ax_pre (zp_P2 hP) (zp_K hK) (zp_D2 hD) (fun _ _ => trivial)⟩ rfl rfl hl.1 rfl (lv_room (Nat.le_of_ble_eq_true rfl)) dX7_lawFor_5 ⟨Nat.le_of_ble_eq_true rfl, Nat.le_of_ble_eq_true rfl⟩) hS (fun q _ h => zp_F2 hD hS hA q h) (zp_F2 hD hS hA) (fun r5 u t H locs ht hvm hw hB hz1 hk1 hS1 => zo2 hB ht hP hD hk1 (zp_F2 hD hS hA) hS1 (fun hP hK1 hD hS => ?_))
  rcases hw with hw | hw | hw
  · obtain ⟨hw, fh5, gh5, kh5, h5⟩ := hw
    subst hw
    have l5k0_a0_7_0 : (1 : Int) ≤ a0_7_0.toInt := fh5
    have l5k0_a1 : (0 : Int) ≤ a1.toInt := gh5
    have u5k0_a1 : a1.toInt ≤ (8 : Int) := kh5
    have l5k0_a2 : (0 : Int) ≤ a2.toInt := Int.le_trans zq5 h5.1
    have u5k0_a2 : a2.toInt ≤ (99 : Int) := Int.le_trans h5.2 zq43
    refine lv_istore_n (lv' := [(3, .int 0), (0, .ref a0), (1, .int a1), (2, .int a2)]) hx hb dX7_lawFor_8 rfl hl (by decide) rfl (fun ls hl => ?_)
    refine lv_iload_n hx hb dX7_lawFor_9 rfl (lv_at hl 0 rfl) ?_
    refine lv_if_eq (tgt := 19) hx hb dX7_lawFor_10 (by decide) (fun _ => ?_) (fun c10 => absurd (by decide +kernel) c10)
    refine lv_aload_n hx hb dX7_lawFor_19 rfl (lv_at hl 1 rfl) ?_
    refine lv_iload_n hx hb dX7_lawFor_20 rfl (lv_at hl 3 rfl) ?_
    refine lv_if_ne (tgt := 28) hx hb dX7_lawFor_21 (by decide) (fun c21 => ?_) (fun c21 => ?_)
    · have gc21 := ai_ne c21
      have l21t_a2 : (1 : Int) ≤ a2.toInt := (by have h1 := l5k0_a2; have h2 : (0 : Int32).toInt = 0 := (by decide); rw [h2] at gc21; omega)
      refine lv_bipush (v := 10) hx hb dX7_lawFor_28 zk_bipush_10 ?_
      refine lv_iload_n hx hb dX7_lawFor_30 rfl (lv_at hl 2 rfl) ?_
      refine lv_imul hx hb dX7_lawFor_31 ?_
      refine lv_topi (fun x31 ex31 => ?_)
      have qx31 : x31.toInt = (10 : Int32).toInt * a1.toInt ∧ (0 : Int) ≤ x31.toInt ∧ x31.toInt ≤ 80 := ai_mul ex31 ⟨zq26, zq27⟩ ⟨l5k0_a1, u5k0_a1⟩ (by decide) (by decide) zq34
      have wx31 : x31.toInt = 10 * a1.toInt := qx31.1
      refine va_calli (va_runV (As := [.int x31]) (rest := []) ⟨hx, hb, hml, hown, hts⟩ (c_X7_answered l dC dI H.size a0 x31 a0g_0 a0g_1 a0g_2 a0g_3 a0g_4 a0g_5 a0g_6 (.ref a0_7) a0g_9 a0g_10 a0_8 ) (cwV 1 hts gX7_lawFor_X7_answered rfl rfl rfl zd_X7_answered ⟨Nat.le_of_ble_eq_true rfl, Nat.le_of_ble_eq_true rfl⟩) ⟨ax_blind (fun _ _ _ _ _ => trivial), zr_7 (zp_K hK) (zp_P1 hP) (q0 := 0) rfl, ax_pre (zp_P1 hP) (zp_K hK) (zp_D1 hD) (fun _ _ => trivial)⟩ rfl rfl hl.1 rfl (lv_room (Nat.le_of_ble_eq_true rfl)) dX7_lawFor_32 ⟨Nat.le_of_ble_eq_true rfl, Nat.le_of_ble_eq_true rfl⟩) hS (fun q _ h => zp_F1 hD hS hA q h) (zp_F1 hD hS hA) (fun r32 u t H locs ht hvm hw hB hz1 hk1 hS1 => zx_1 hB (fun v32na0_8 hB => zo1 hB ht hP hD hk1 (zp_F1 hD hS hA) hS1 (fun hP hK1 hD hS => ?_)))
      have hw : r32 = x31 := hw
      have hw := hw.symm
      subst hw
      exact W.iret (v := x31) hx hb hr (fun t ht hW => ⟨⟨x31, (), rfl, ⟨(Int.le_trans zq69 qx31.2.1), qx31.2.2⟩, v32na0_8, by rw [ht]; exact hP, va_K.moved hW.alike hK, hD⟩, hS.F ht⟩) hS.2.2 dX7_lawFor_35
    · have gc21 := ai_eq c21
      have u21f_a2 : a2.toInt ≤ (0 : Int) := Int.le_trans (Int.le_of_eq gc21) zq6
      have l21f_a2 : (0 : Int) ≤ a2.toInt := l5k0_a2
      refine lv_iload_n hx hb dX7_lawFor_24 rfl (lv_at hl 2 rfl) ?_
      refine lv_goto (tgt := 32) hx hb dX7_lawFor_25 (by decide) ?_
      refine va_calli (va_runV (As := [.int a1]) (rest := []) ⟨hx, hb, hml, hown, hts⟩ (c_X7_answered l dC dI H.size a0 a1 a0g_0 a0g_1 a0g_2 a0g_3 a0g_4 a0g_5 a0g_6 (.ref a0_7) a0g_9 a0g_10 a0_8 ) (cwV 1 hts gX7_lawFor_X7_answered rfl rfl rfl zd_X7_answered ⟨Nat.le_of_ble_eq_true rfl, Nat.le_of_ble_eq_true rfl⟩) ⟨ax_blind (fun _ _ _ _ _ => trivial), zr_7 (zp_K hK) (zp_P1 hP) (q0 := 0) rfl, ax_pre (zp_P1 hP) (zp_K hK) (zp_D1 hD) (fun _ _ => trivial)⟩ rfl rfl hl.1 rfl (lv_room (Nat.le_of_ble_eq_true rfl)) dX7_lawFor_32 ⟨Nat.le_of_ble_eq_true rfl, Nat.le_of_ble_eq_true rfl⟩) hS (fun q _ h => zp_F1 hD hS hA q h) (zp_F1 hD hS hA) (fun r32 u t H locs ht hvm hw hB hz1 hk1 hS1 => zx_1 hB (fun v32na0_8 hB => zo1 hB ht hP hD hk1 (zp_F1 hD hS hA) hS1 (fun hP hK1 hD hS => ?_)))
      have hw : r32 = a1 := hw
      have hw := hw.symm
      subst hw
      exact W.iret (v := a1) hx hb hr (fun t ht hW => ⟨⟨a1, (), rfl, ⟨(Int.le_trans zq69 l5k0_a1), (Int.le_trans u5k0_a1 zq10)⟩, v32na0_8, by rw [ht]; exact hP, va_K.moved hW.alike hK, hD⟩, hS.F ht⟩) hS.2.2 dX7_lawFor_35
  · subst hw
    refine lv_istore_n (lv' := [(3, .int 1), (0, .ref a0), (1, .int a1), (2, .int a2)]) hx hb dX7_lawFor_8 rfl hl (by decide) rfl (fun ls hl => ?_)
    refine lv_iload_n hx hb dX7_lawFor_9 rfl (lv_at hl 0 rfl) ?_
    refine lv_if_eq (tgt := 19) hx hb dX7_lawFor_10 (by decide) (fun c10 => absurd c10 (by decide +kernel)) (fun _ => ?_)
    refine lv_aload_n hx hb dX7_lawFor_13 rfl (lv_at hl 1 rfl) ?_
    refine lv_iload_n hx hb dX7_lawFor_14 rfl (lv_at hl 0 rfl) ?_
    refine va_calli (va_runV (As := [.int 1]) (rest := []) ⟨hx, hb, hml, hown, hts⟩ (c_X7_refused l dC dI H.size a0 1 a0g_0 a0g_1 a0g_2 a0g_3 a0g_4 a0g_5 a0g_6 (.ref a0_7) a0g_9 a0g_10 a0_8 ) (cwV 1 hts gX7_lawFor_X7_refused rfl rfl rfl zd_X7_refused ⟨Nat.le_of_ble_eq_true rfl, Nat.le_of_ble_eq_true rfl⟩) ⟨ax_blind (fun _ _ _ _ _ => trivial), zr_7 (zp_K hK) (zp_P1 hP) (q0 := 0) rfl, ax_pre (zp_P1 hP) (zp_K hK) (zp_D1 hD) (fun _ _ => trivial)⟩ rfl rfl hl.1 rfl (lv_room (Nat.le_of_ble_eq_true rfl)) dX7_lawFor_15 ⟨Nat.le_of_ble_eq_true rfl, Nat.le_of_ble_eq_true rfl⟩) hS (fun q _ h => zp_F1 hD hS hA q h) (zp_F1 hD hS hA) (fun r15 u t H locs ht hvm hw hB hz1 hk1 hS1 => zx_1 hB (fun v15na0_8 hB => zo1 hB ht hP hD hk1 (zp_F1 hD hS hA) hS1 (fun hP hK1 hD hS => ?_)))
    have hw : r15 = (-1) := hw
    have hw := hw.symm
    subst hw
    exact W.iret (v := (-1)) hx hb hr (fun t ht hW => ⟨⟨(-1), (), rfl, ⟨zq70, (Int.le_trans zq71 zq97)⟩, v15na0_8, by rw [ht]; exact hP, va_K.moved hW.alike hK, hD⟩, hS.F ht⟩) hS.2.2 dX7_lawFor_18
  · subst hw
    refine lv_istore_n (lv' := [(3, .int 2), (0, .ref a0), (1, .int a1), (2, .int a2)]) hx hb dX7_lawFor_8 rfl hl (by decide) rfl (fun ls hl => ?_)
    refine lv_iload_n hx hb dX7_lawFor_9 rfl (lv_at hl 0 rfl) ?_
    refine lv_if_eq (tgt := 19) hx hb dX7_lawFor_10 (by decide) (fun c10 => absurd c10 (by decide +kernel)) (fun _ => ?_)
    refine lv_aload_n hx hb dX7_lawFor_13 rfl (lv_at hl 1 rfl) ?_
    refine lv_iload_n hx hb dX7_lawFor_14 rfl (lv_at hl 0 rfl) ?_
    refine va_calli (va_runV (As := [.int 2]) (rest := []) ⟨hx, hb, hml, hown, hts⟩ (c_X7_refused l dC dI H.size a0 2 a0g_0 a0g_1 a0g_2 a0g_3 a0g_4 a0g_5 a0g_6 (.ref a0_7) a0g_9 a0g_10 a0_8 ) (cwV 1 hts gX7_lawFor_X7_refused rfl rfl rfl zd_X7_refused ⟨Nat.le_of_ble_eq_true rfl, Nat.le_of_ble_eq_true rfl⟩) ⟨ax_blind (fun _ _ _ _ _ => trivial), zr_7 (zp_K hK) (zp_P1 hP) (q0 := 0) rfl, ax_pre (zp_P1 hP) (zp_K hK) (zp_D1 hD) (fun _ _ => trivial)⟩ rfl rfl hl.1 rfl (lv_room (Nat.le_of_ble_eq_true rfl)) dX7_lawFor_15 ⟨Nat.le_of_ble_eq_true rfl, Nat.le_of_ble_eq_true rfl⟩) hS (fun q _ h => zp_F1 hD hS hA q h) (zp_F1 hD hS hA) (fun r15 u t H locs ht hvm hw hB hz1 hk1 hS1 => zx_1 hB (fun v15na0_8 hB => zo1 hB ht hP hD hk1 (zp_F1 hD hS hA) hS1 (fun hP hK1 hD hS => ?_)))
    have hw : r15 = (-1) := hw
    have hw := hw.symm
    subst hw
    exact W.iret (v := (-1)) hx hb hr (fun t ht hW => ⟨⟨(-1), (), rfl, ⟨zq70, (Int.le_trans zq71 zq97)⟩, v15na0_8, by rw [ht]; exact hP, va_K.moved hW.alike hK, hD⟩, hS.F ht⟩) hS.2.2 dX7_lawFor_18

set_option maxHeartbeats 4000000 in
set_option maxRecDepth 100000 in
theorem c_X7_judge (l : Launch) (dC : Nat → ClassId) (dI : Nat → Nat → Nat) (sz : Nat) (a0 : Nat) (a0g_0 a0g_1 a0g_2 a0g_3 a0g_4 a0g_5 a0g_6 a0g_9 a0g_10 : Value) (a0_7 : Nat) (a0_8 : Int32) (a0_7_0 : Int32) (a0_7_1 : Int32) (a0_7g_2 a0_7g_3 a0_7g_4 a0_7g_8 a0_7g_10 a0_7g_11 a0_7g_14 : Value) (a0_7_5 : Int32) (a0_7_6 : Int32) (a0_7_7 : Int32) (a0_7_9 : Int32) (a0_7_12 : Nat) (a0_7_13 : Nat) (ka0_7_13 : ClassId) (fa0_7_13 : Nat → Int32) (ka0_7_12 : ClassId) (fa0_7_12 : Nat → Int32) (ba0_7_0_l : (0 : Int) ≤ a0_7_0.toInt) (ba0_7_0_u : a0_7_0.toInt ≤ (9 : Int)) (ba0_7_5_l : (0 : Int) ≤ a0_7_5.toInt) (ba0_7_5_u : a0_7_5.toInt ≤ (8 : Int)) (ba0_7_6_l : (0 : Int) ≤ a0_7_6.toInt) (ba0_7_6_u : a0_7_6.toInt ≤ (8 : Int)) (ba0_7_7_l : (0 : Int) ≤ a0_7_7.toInt) (ba0_7_7_u : a0_7_7.toInt ≤ (8 : Int)) (ba0_7_9_l : (0 : Int) ≤ a0_7_9.toInt) (ba0_7_9_u : a0_7_9.toInt ≤ (6 : Int)) (bfa0_7_13 : (∀ k, (0 : Int) ≤ (fa0_7_13 k).toInt ∧ (fa0_7_13 k).toInt ≤ 999)) : zm l yX7_judge wsX7_judge ({ frames := 2, cells := 0, slots := 0, locals := 51 }) [.ref a0] dC dI sz [(a0, .inr (7, [a0g_0, a0g_1, a0g_2, a0g_3, a0g_4, a0g_5, a0g_6, .ref a0_7, .int a0_8, a0g_9, a0g_10])), (a0_7, .inr (0, [.int a0_7_0, .int a0_7_1, a0_7g_2, a0_7g_3, a0_7g_4, .int a0_7_5, .int a0_7_6, .int a0_7_7, a0_7g_8, .int a0_7_9, a0_7g_10, a0_7g_11, .ref a0_7_12, .ref a0_7_13, a0_7g_14])), (a0_7_13, .inl (ka0_7_13, 6, .inl (fa0_7_13))), (a0_7_12, .inl (ka0_7_12, 6, .inl (fa0_7_12)))] [(ka0_7_13, .int), (ka0_7_12, .int)] (fun A U => va_Nw (.methodLinkNest RX0 72 yX7_laterTurn RX7) U) (fun A => va_Qi (fun (r : Int32) (_ : Unit) => (-2 : Int) ≤ r.toInt ∧ r.toInt ≤ (5 : Int)) (fun (_ : Unit) (t : State) => ∃ na0_8 : Int32, ax_B dC dI A [(a0, .inr (7, [a0g_0, a0g_1, a0g_2, a0g_3, a0g_4, a0g_5, a0g_6, .ref a0_7, .int na0_8, a0g_9, a0g_10])), (a0_7, .inr (0, [.int a0_7_0, .int a0_7_1, a0_7g_2, a0_7g_3, a0_7g_4, .int a0_7_5, .int a0_7_6, .int a0_7_7, a0_7g_8, .int a0_7_9, a0_7g_10, a0_7g_11, .ref a0_7_12, .ref a0_7_13, a0_7g_14])), (a0_7_13, .inl (ka0_7_13, 6, .inl (fa0_7_13))), (a0_7_12, .inl (ka0_7_12, 6, .inl (fa0_7_12)))] [(ka0_7_13, .int), (ka0_7_12, .int)] t) A) := by
  refine zh (cc := cX7_judge) (maxL := 3) (ret := (some .int)) zn_RX7 rfl (Nat.le_of_ble_eq_true rfl) (fun p e s m below meth c A ls hx hb hml hr hts (hown : s.vm.findClass RX7 = some m.cls) hlocks hA hS hP hK hD hE (hl : lv_has ls 3 [(0, .ref a0)]) => ?_)
  have hE0 := hE
  refine ai_open (fun K hK0 => ?_)
  refine (hK0 _ _ _).mpr ?_
  refine lv_aload_n hx hb dX7_judge_0 rfl (lv_at hl 0 rfl) ?_
  refine va_calli (va_runV (As := []) (rest := []) ⟨hx, hb, hml, hown, hts⟩ (c_X7_hasGallery l dC dI s.heap.size a0 a0g_0 a0g_1 a0g_2 a0g_3 a0g_4 a0g_5 a0g_6 (.int a0_8) a0g_9 a0g_10 a0_7 a0_7_0 (.int a0_7_1) a0_7g_2 a0_7g_3 a0_7g_4 (.int a0_7_5) (.int a0_7_6) (.int a0_7_7) a0_7g_8 (.int a0_7_9) a0_7g_10 a0_7g_11 (.ref a0_7_12) (.ref a0_7_13) a0_7g_14 ba0_7_0_l ba0_7_0_u) (cwV 0 hts gX7_judge_X7_hasGallery rfl rfl rfl zd_X7_hasGallery ⟨Nat.le_of_ble_eq_true rfl, Nat.le_of_ble_eq_true rfl⟩) ⟨ax_blind (fun _ _ _ _ _ => trivial), zr_7 (zp_K hK) (zp_P2 hP) (q0 := 0) rfl, ax_pre (zp_P2 hP) (zp_K hK) (zp_D2 hD) (fun _ _ => trivial)⟩ rfl rfl hl.1 rfl (lv_room (Nat.le_of_ble_eq_true rfl)) dX7_judge_1 ⟨Nat.le_of_ble_eq_true rfl, Nat.le_of_ble_eq_true rfl⟩) hS (fun q _ h => zp_F2 hD hS hA q h) (zp_F2 hD hS hA) (fun r1 u t H locs ht hvm hw hB hz1 hk1 hS1 => zo2 hB ht hP hD hk1 (zp_F2 hD hS hA) hS1 (fun hP hK1 hD hS => ?_))
  rcases hw with hw | hw
  · obtain ⟨hw, h1_0, h1_1⟩ := hw
    subst hw
    have l1k0_a0_7_0 : (1 : Int) ≤ a0_7_0.toInt := h1_0
    have u1k0_a0_7_0 : a0_7_0.toInt ≤ (9 : Int) := ba0_7_0_u
    refine lv_if_ne (tgt := 13) hx hb dX7_judge_4 (by decide) (fun _ => ?_) (fun c4 => absurd c4 (by decide +kernel))
    refine lv_bipush (v := 100) hx hb dX7_judge_13 zk_bipush_100 ?_
    refine lv_aload_n hx hb dX7_judge_15 rfl (lv_at hl 0 rfl) ?_
    refine va_get (D := (dC, dI)) (ci := 7) (v := .ref a0_7) (C := RX7) (T := TX7) (N := 11) hx hb hts zi_X7_judge_7 hown hK hP 0 rfl rfl 7 (by decide) (hts (.fieldLink RX7 57 "WaxTurns" "hall" "LWaxTurns$Hall;") (zm_X7_judge_r1 (List.mem_of_getElem? (i := 0) rfl))) (fun _ h9 => h9) rfl dX7_judge_16 ?_
    refine va_get (D := (dC, dI)) (ci := 0) (v := .int a0_7_5) (C := RX0) (T := TX0) (N := 15) hx hb hts zi_X7_judge_0 hown hK hP 1 rfl rfl 5 (by decide) (hts (.fieldLink RX7 284 "WaxTurns$Hall" "times" "I") (zm_X7_judge_r1 (List.mem_of_getElem? (i := 1) rfl))) (fun _ h9 => h9) rfl dX7_judge_19 ?_
    refine lv_imul hx hb dX7_judge_22 ?_
    refine lv_topi (fun x22 ex22 => ?_)
    have qx22 : x22.toInt = (100 : Int32).toInt * a0_7_5.toInt ∧ (0 : Int) ≤ x22.toInt ∧ x22.toInt ≤ 800 := ai_mul ex22 ⟨zq24, zq32⟩ ⟨ba0_7_5_l, ba0_7_5_u⟩ (by decide) (by decide) zq33
    have wx22 : x22.toInt = 100 * a0_7_5.toInt := qx22.1
    refine lv_bipush (v := 10) hx hb dX7_judge_23 zk_bipush_10 ?_
    refine lv_aload_n hx hb dX7_judge_25 rfl (lv_at hl 0 rfl) ?_
    refine va_get (D := (dC, dI)) (ci := 7) (v := .ref a0_7) (C := RX7) (T := TX7) (N := 11) hx hb hts zi_X7_judge_7 hown hK hP 0 rfl rfl 7 (by decide) (hts (.fieldLink RX7 57 "WaxTurns" "hall" "LWaxTurns$Hall;") (zm_X7_judge_r1 (List.mem_of_getElem? (i := 0) rfl))) (fun _ h9 => h9) rfl dX7_judge_26 ?_
    refine va_get (D := (dC, dI)) (ci := 0) (v := .int a0_7_6) (C := RX0) (T := TX0) (N := 15) hx hb hts zi_X7_judge_0 hown hK hP 1 rfl rfl 6 (by decide) (hts (.fieldLink RX7 287 "WaxTurns$Hall" "plus" "I") (zm_X7_judge_r1 (List.mem_of_getElem? (i := 2) rfl))) (fun _ h9 => h9) rfl dX7_judge_29 ?_
    refine lv_imul hx hb dX7_judge_32 ?_
    refine lv_topi (fun x32 ex32 => ?_)
    have qx32 : x32.toInt = (10 : Int32).toInt * a0_7_6.toInt ∧ (0 : Int) ≤ x32.toInt ∧ x32.toInt ≤ 80 := ai_mul ex32 ⟨zq26, zq27⟩ ⟨ba0_7_6_l, ba0_7_6_u⟩ (by decide) (by decide) zq34
    have wx32 : x32.toInt = 10 * a0_7_6.toInt := qx32.1
    refine lv_iadd hx hb dX7_judge_33 ?_
    refine lv_topi (fun x33 ex33 => ?_)
    have qx33 : x33.toInt = x22.toInt + x32.toInt := ai_add ex33 ⟨qx22.2.1, qx22.2.2⟩ ⟨qx32.2.1, qx32.2.2⟩ (by decide) (by decide)
    have bx33 : (0 : Int) ≤ x33.toInt ∧ x33.toInt ≤ 880 := ⟨by rw [qx33]; exact Int.add_le_add qx22.2.1 qx32.2.1, by rw [qx33]; exact Int.add_le_add qx22.2.2 qx32.2.2⟩
    refine lv_aload_n hx hb dX7_judge_34 rfl (lv_at hl 0 rfl) ?_
    refine va_get (D := (dC, dI)) (ci := 7) (v := .ref a0_7) (C := RX7) (T := TX7) (N := 11) hx hb hts zi_X7_judge_7 hown hK hP 0 rfl rfl 7 (by decide) (hts (.fieldLink RX7 57 "WaxTurns" "hall" "LWaxTurns$Hall;") (zm_X7_judge_r1 (List.mem_of_getElem? (i := 0) rfl))) (fun _ h9 => h9) rfl dX7_judge_35 ?_
    refine va_get (D := (dC, dI)) (ci := 0) (v := .int a0_7_7) (C := RX0) (T := TX0) (N := 15) hx hb hts zi_X7_judge_0 hown hK hP 1 rfl rfl 7 (by decide) (hts (.fieldLink RX7 98 "WaxTurns$Hall" "first" "I") (zm_X7_judge_r1 (List.mem_of_getElem? (i := 3) rfl))) (fun _ h9 => h9) rfl dX7_judge_38 ?_
    refine lv_iadd hx hb dX7_judge_41 ?_
    refine lv_topi (fun x41 ex41 => ?_)
    have qx41 : x41.toInt = x33.toInt + a0_7_7.toInt := ai_add ex41 ⟨bx33.1, bx33.2⟩ ⟨ba0_7_7_l, ba0_7_7_u⟩ (by decide) (by decide)
    have bx41 : (0 : Int) ≤ x41.toInt ∧ x41.toInt ≤ 888 := ⟨by rw [qx41]; exact Int.add_le_add bx33.1 ba0_7_7_l, by rw [qx41]; exact Int.add_le_add bx33.2 ba0_7_7_u⟩
    refine lv_istore_n (lv' := [(1, .int x41), (0, .ref a0)]) hx hb dX7_judge_42 rfl hl (by decide) rfl (fun ls hl => ?_)
    refine lv_iconst (v := 0) hx hb dX7_judge_43 zk_iconst_0 ?_
    refine lv_istore_n (lv' := [(2, .int 0), (1, .int x41), (0, .ref a0)]) hx hb dX7_judge_44 rfl hl (by decide) rfl (fun ls hl => ?_)
    have J45 : ∀ (n : Nat) (j45l2 : Int32) (H : Heap) (locs : List Loc) (ls : Array Slot), (7 : Int) - j45l2.toInt ≤ (n : Int) → (0 : Int) ≤ j45l2.toInt → j45l2.toInt ≤ (6 : Int) → va_P (dC, dI) vwCl [(a0, .inr (7, [a0g_0, a0g_1, a0g_2, a0g_3, a0g_4, a0g_5, a0g_6, .ref a0_7, .int a0_8, a0g_9, a0g_10])), (a0_7, .inr (0, [.int a0_7_0, .int a0_7_1, a0_7g_2, a0_7g_3, a0_7g_4, .int a0_7_5, .int a0_7_6, .int a0_7_7, a0_7g_8, .int a0_7_9, a0_7g_10, a0_7g_11, .ref a0_7_12, .ref a0_7_13, a0_7g_14])), (a0_7_13, .inl (ka0_7_13, 6, .inl (fa0_7_13))), (a0_7_12, .inl (ka0_7_12, 6, .inl (fa0_7_12)))] H → va_D A [(a0, .inr (7, [a0g_0, a0g_1, a0g_2, a0g_3, a0g_4, a0g_5, a0g_6, .ref a0_7, .int a0_8, a0g_9, a0g_10])), (a0_7, .inr (0, [.int a0_7_0, .int a0_7_1, a0_7g_2, a0_7g_3, a0_7g_4, .int a0_7_5, .int a0_7_6, .int a0_7_7, a0_7g_8, .int a0_7_9, a0_7g_10, a0_7g_11, .ref a0_7_12, .ref a0_7_13, a0_7g_14])), (a0_7_13, .inl (ka0_7_13, 6, .inl (fa0_7_13))), (a0_7_12, .inl (ka0_7_12, 6, .inl (fa0_7_12)))] → va_S A s.heap H locs → lv_has ls 3 [(0, .ref a0), (1, .int x41), (2, .int j45l2)] → K H locs (F0 m 45 ls []) := by
      intro n
      induction n with
      | zero =>
        intro j45l2 H locs ls hm bj45l2_l bj45l2_u hP hD hS hl
        have h8 := ai_min j45l2
        have h9 := ai_max j45l2
        exact absurd hm (by omega)
      | succ n ih45 =>
        intro j45l2 H locs ls hm bj45l2_l bj45l2_u hP hD hS hl
        refine (hK0 _ _ _).mpr ?_
        have hm45 := hm
        refine lv_iload_n hx hb dX7_judge_45 rfl (lv_at hl 2 rfl) ?_
        refine lv_aload_n hx hb dX7_judge_46 rfl (lv_at hl 0 rfl) ?_
        refine va_get (D := (dC, dI)) (ci := 7) (v := .ref a0_7) (C := RX7) (T := TX7) (N := 11) hx hb hts zi_X7_judge_7 hown hK hP 0 rfl rfl 7 (by decide) (hts (.fieldLink RX7 57 "WaxTurns" "hall" "LWaxTurns$Hall;") (zm_X7_judge_r1 (List.mem_of_getElem? (i := 0) rfl))) (fun _ h9 => h9) rfl dX7_judge_47 ?_
        refine va_get (D := (dC, dI)) (ci := 0) (v := .int a0_7_9) (C := RX0) (T := TX0) (N := 15) hx hb hts zi_X7_judge_0 hown hK hP 1 rfl rfl 9 (by decide) (hts (.fieldLink RX7 290 "WaxTurns$Hall" "seenCount" "I") (zm_X7_judge_r1 (List.mem_of_getElem? (i := 4) rfl))) (fun _ h9 => h9) rfl dX7_judge_50 ?_
        refine lv_icmp_ge (tgt := 97) hx hb dX7_judge_53 (by decide) (fun c53 => ?_) (fun c53 => ?_)
        · have gc53 := ai_le c53
          have u53t_a0_7_9 : a0_7_9.toInt ≤ (6 : Int) := ba0_7_9_u
          have l53t_j45l2 : (0 : Int) ≤ j45l2.toInt := bj45l2_l
          refine lv_aload_n hx hb dX7_judge_97 rfl (lv_at hl 0 rfl) ?_
          refine lv_bipush (v := (-2)) hx hb dX7_judge_98 zk_bipush_n2 ?_
          refine va_calli (va_runV (As := [.int (-2)]) (rest := []) ⟨hx, hb, hml, hown, hts⟩ (c_X7_answered l dC dI H.size a0 (-2) a0g_0 a0g_1 a0g_2 a0g_3 a0g_4 a0g_5 a0g_6 (.ref a0_7) a0g_9 a0g_10 a0_8 ) (cwV 1 hts gX7_judge_X7_answered rfl rfl rfl zd_X7_answered ⟨Nat.le_of_ble_eq_true rfl, Nat.le_of_ble_eq_true rfl⟩) ⟨ax_blind (fun _ _ _ _ _ => trivial), zr_7 (zp_K hK) (zp_P1 hP) (q0 := 0) rfl, ax_pre (zp_P1 hP) (zp_K hK) (zp_D1 hD) (fun _ _ => trivial)⟩ rfl rfl hl.1 rfl (lv_room (Nat.le_of_ble_eq_true rfl)) dX7_judge_100 ⟨Nat.le_of_ble_eq_true rfl, Nat.le_of_ble_eq_true rfl⟩) hS (fun q _ h => zp_F1 hD hS hA q h) (zp_F1 hD hS hA) (fun r100 u t H locs ht hvm hw hB hz1 hk1 hS1 => zx_1 hB (fun v100na0_8 hB => zo1 hB ht hP hD hk1 (zp_F1 hD hS hA) hS1 (fun hP hK1 hD hS => ?_)))
          have hw : r100 = (-2) := hw
          have hw := hw.symm
          subst hw
          exact W.iret (v := (-2)) hx hb hr (fun t ht hW => ⟨⟨(-2), (), rfl, ⟨zq45, (Int.le_trans zq44 zq98)⟩, v100na0_8, by rw [ht]; exact hP, va_K.moved hW.alike hK, hD⟩, hS.F ht⟩) hS.2.2 dX7_judge_103
        · have gc53 := ai_nle c53
          have u53f_j45l2 : j45l2.toInt ≤ (5 : Int) := ai_lthi gc53 ba0_7_9_u
          have l53f_a0_7_9 : (1 : Int) ≤ a0_7_9.toInt := ai_ltlo gc53 bj45l2_l
          refine lv_aload_n hx hb dX7_judge_56 rfl (lv_at hl 0 rfl) ?_
          refine va_get (D := (dC, dI)) (ci := 7) (v := .ref a0_7) (C := RX7) (T := TX7) (N := 11) hx hb hts zi_X7_judge_7 hown hK hP 0 rfl rfl 7 (by decide) (hts (.fieldLink RX7 57 "WaxTurns" "hall" "LWaxTurns$Hall;") (zm_X7_judge_r1 (List.mem_of_getElem? (i := 0) rfl))) (fun _ h9 => h9) rfl dX7_judge_57 ?_
          refine lv_iload_n hx hb dX7_judge_60 rfl (lv_at hl 1 rfl) ?_
          refine lv_aload_n hx hb dX7_judge_61 rfl (lv_at hl 0 rfl) ?_
          refine va_get (D := (dC, dI)) (ci := 7) (v := .ref a0_7) (C := RX7) (T := TX7) (N := 11) hx hb hts zi_X7_judge_7 hown hK hP 0 rfl rfl 7 (by decide) (hts (.fieldLink RX7 57 "WaxTurns" "hall" "LWaxTurns$Hall;") (zm_X7_judge_r1 (List.mem_of_getElem? (i := 0) rfl))) (fun _ h9 => h9) rfl dX7_judge_62 ?_
          refine va_get (D := (dC, dI)) (ci := 0) (v := .ref a0_7_13) (C := RX0) (T := TX0) (N := 15) hx hb hts zi_X7_judge_0 hown hK hP 1 rfl rfl 13 (by decide) (hts (.fieldLink RX7 293 "WaxTurns$Hall" "seenMinutes" "[I") (zm_X7_judge_r1 (List.mem_of_getElem? (i := 5) rfl))) (fun _ h9 => h9) rfl dX7_judge_65 ?_
          refine lv_iload_n hx hb dX7_judge_68 rfl (lv_at hl 2 rfl) ?_
          refine va_iald hx hb hK hP 2 0 rfl rfl (ai_in bj45l2_l u53f_j45l2 (by decide) (by decide)) dX7_judge_69 ?_
          refine lv_topi (fun x69 ex69 => ?_)
          have bx69 : (0 : Int) ≤ x69.toInt ∧ x69.toInt ≤ 999 := by rw [ex69]; exact bfa0_7_13 _
          refine zc_cutc (wc := [(a0_7, .inr (0, [.int a0_7_0, .int a0_7_1, a0_7g_2, a0_7g_3, a0_7g_4, .int a0_7_5, .int a0_7_6, .int a0_7_7, a0_7g_8, .int a0_7_9, a0_7g_10, a0_7g_11, .ref a0_7_12, .ref a0_7_13, a0_7g_14]))]) hP hD hS hA [1] (by decide +kernel) rfl (fun hPc hDc hFc hCc => ?_)
          have hKc := zp_K hK
          refine va_calli (va_runV (As := [.int x41, .int x69]) (rest := []) ⟨hx, hb, hml, hown, hts⟩ (c_X0_aliveByLaw l dC dI H.size a0_7 x41 x69 a0_7_0 a0_7_1 a0_7g_2 a0_7g_3 a0_7g_4 (.int a0_7_5) (.int a0_7_6) (.int a0_7_7) a0_7g_8 (.int a0_7_9) a0_7g_10 a0_7g_11 (.ref a0_7_12) (.ref a0_7_13) a0_7g_14 bx41.1 (Int.le_trans bx41.2 zq31) bx69.1 bx69.2 (Int.le_trans zq4 l1k0_a0_7_0) u1k0_a0_7_0) (cwV 2 hts gX7_judge_X0_aliveByLaw rfl rfl rfl zd_X0_aliveByLaw ⟨Nat.le_of_ble_eq_true rfl, Nat.le_of_ble_eq_true rfl⟩) ⟨ax_blind (fun _ _ _ _ hq => va_Nw.same rfl rfl (hq)), zr_0 hKc hPc (q0 := 0) rfl, ax_pre hPc hKc hDc (fun _ hW => va_Nw.warmM hW hE0)⟩ rfl rfl hl.1 rfl (lv_room (Nat.le_of_ble_eq_true rfl)) dX7_judge_70 ⟨Nat.le_of_ble_eq_true rfl, Nat.le_of_ble_eq_true rfl⟩) hS (fun q _ h => hFc q h) hFc (fun r70 u t H locs ht hvm hw hB hz1 hk1 hS => zo hB ht (fun hP1 hK1 hD1 => ?_))
          refine zc_backc (w := [(a0, .inr (7, [a0g_0, a0g_1, a0g_2, a0g_3, a0g_4, a0g_5, a0g_6, .ref a0_7, .int a0_8, a0g_9, a0g_10])), (a0_7, .inr (0, [.int a0_7_0, .int a0_7_1, a0_7g_2, a0_7g_3, a0_7g_4, .int a0_7_5, .int a0_7_6, .int a0_7_7, a0_7g_8, .int a0_7_9, a0_7g_10, a0_7g_11, .ref a0_7_12, .ref a0_7_13, a0_7g_14])), (a0_7_13, .inl (ka0_7_13, 6, .inl (fa0_7_13))), (a0_7_12, .inl (ka0_7_12, 6, .inl (fa0_7_12)))]) hP hD hCc hk1 hFc hP1 hD1 [.inl 0, .inr 0, .inl 2, .inl 3] (by decide +kernel) rfl (fun hP hD => ?_)
          have hw : (0 : Int) ≤ r70.toInt ∧ r70.toInt ≤ (9 : Int) := hw
          obtain ⟨h70_0, h70_1⟩ := hw
          refine lv_aload_n hx hb dX7_judge_73 rfl (lv_at hl 0 rfl) ?_
          refine va_get (D := (dC, dI)) (ci := 7) (v := .ref a0_7) (C := RX7) (T := TX7) (N := 11) hx hb hts zi_X7_judge_7 hown hK hP 0 rfl rfl 7 (by decide) (hts (.fieldLink RX7 57 "WaxTurns" "hall" "LWaxTurns$Hall;") (zm_X7_judge_r1 (List.mem_of_getElem? (i := 0) rfl))) (fun _ h9 => h9) rfl dX7_judge_74 ?_
          refine va_get (D := (dC, dI)) (ci := 0) (v := .ref a0_7_12) (C := RX0) (T := TX0) (N := 15) hx hb hts zi_X7_judge_0 hown hK hP 1 rfl rfl 12 (by decide) (hts (.fieldLink RX7 296 "WaxTurns$Hall" "seenFigures" "[I") (zm_X7_judge_r1 (List.mem_of_getElem? (i := 6) rfl))) (fun _ h9 => h9) rfl dX7_judge_77 ?_
          refine lv_iload_n hx hb dX7_judge_80 rfl (lv_at hl 2 rfl) ?_
          refine va_iald hx hb hK hP 3 1 rfl rfl (ai_in bj45l2_l u53f_j45l2 (by decide) (by decide)) dX7_judge_81 ?_
          refine lv_topi (fun x81 ex81 => ?_)
          refine lv_icmp_eq (tgt := 91) hx hb dX7_judge_82 (by decide) (fun c82 => ?_) (fun c82 => ?_)
          · have gc82 := ai_eq c82
            have u82t_x81 : x81.toInt ≤ (9 : Int) := Int.le_trans (Int.le_of_eq gc82.symm) h70_1
            have l82t_x81 : (0 : Int) ≤ x81.toInt := Int.le_trans h70_0 (Int.le_of_eq gc82)
            obtain ⟨x91, ex91⟩ : ∃ y : Int32, y = j45l2 + Int32.ofInt 1 := ⟨_, rfl⟩
            have qx91 : x91.toInt = j45l2.toInt + 1 := ai_inc ex91 (by decide) (by decide) u53f_j45l2 (by decide)
            have bx91 : (1 : Int) ≤ x91.toInt ∧ x91.toInt ≤ 6 := ⟨by rw [qx91]; exact Int.add_le_add bj45l2_l (Int.le_refl _), by rw [qx91]; exact Int.add_le_add u53f_j45l2 (Int.le_refl _)⟩
            refine lv_iinc (v := x91) (lv' := [(2, .int x91), (0, .ref a0), (1, .int x41)]) hx hb dX7_judge_91 hl (k := 2) rfl ex91.symm (by decide) rfl (fun ls hl => ?_)
            refine lv_goto (tgt := 45) hx hb dX7_judge_94 (by decide) ?_
            exact (hK0 _ _ _).mp (ih45 x91 _ _ _ (by have h0 := qx91; omega) (Int.le_trans zq4 bx91.1) bx91.2 hP hD hS (lv_sub hl [1, 2, 0] rfl))
          · have gc82 := ai_ne c82
            refine lv_aload_n hx hb dX7_judge_85 rfl (lv_at hl 0 rfl) ?_
            refine lv_iload_n hx hb dX7_judge_86 rfl (lv_at hl 2 rfl) ?_
            refine va_calli (va_runV (As := [.int j45l2]) (rest := []) ⟨hx, hb, hml, hown, hts⟩ (c_X7_answered l dC dI H.size a0 j45l2 a0g_0 a0g_1 a0g_2 a0g_3 a0g_4 a0g_5 a0g_6 (.ref a0_7) a0g_9 a0g_10 a0_8 ) (cwV 1 hts gX7_judge_X7_answered rfl rfl rfl zd_X7_answered ⟨Nat.le_of_ble_eq_true rfl, Nat.le_of_ble_eq_true rfl⟩) ⟨ax_blind (fun _ _ _ _ _ => trivial), zr_7 (zp_K hK) (zp_P1 hP) (q0 := 0) rfl, ax_pre (zp_P1 hP) (zp_K hK) (zp_D1 hD) (fun _ _ => trivial)⟩ rfl rfl hl.1 rfl (lv_room (Nat.le_of_ble_eq_true rfl)) dX7_judge_87 ⟨Nat.le_of_ble_eq_true rfl, Nat.le_of_ble_eq_true rfl⟩) hS (fun q _ h => zp_F1 hD hS hA q h) (zp_F1 hD hS hA) (fun r87 u t H locs ht hvm hw hB hz1 hk1 hS1 => zx_1 hB (fun v87na0_8 hB => zo1 hB ht hP hD hk1 (zp_F1 hD hS hA) hS1 (fun hP hK1 hD hS => ?_)))
            have hw : r87 = j45l2 := hw
            have hw := hw.symm
            subst hw
            exact W.iret (v := j45l2) hx hb hr (fun t ht hW => ⟨⟨j45l2, (), rfl, ⟨(Int.le_trans zq75 bj45l2_l), u53f_j45l2⟩, v87na0_8, by rw [ht]; exact hP, va_K.moved hW.alike hK, hD⟩, hS.F ht⟩) hS.2.2 dX7_judge_90
    exact (hK0 _ _ _).mp (J45 7 0 _ _ _ (by have h1 : (0 : Int) ≤ (0 : Int32).toInt := zq5; have h2 : (0 : Int32).toInt ≤ (0 : Int) := zq6; omega) zq5 (Int.le_trans zq6 zq17) hP hD hS (lv_sub hl [2, 1, 0] rfl))
  · obtain ⟨hw, h1_0, h1_1⟩ := hw
    subst hw
    have l1k1_a0_7_0 : (0 : Int) ≤ a0_7_0.toInt := ba0_7_0_l
    have u1k1_a0_7_0 : a0_7_0.toInt ≤ (0 : Int) := h1_1
    refine lv_if_ne (tgt := 13) hx hb dX7_judge_4 (by decide) (fun c4 => absurd (by decide +kernel) c4) (fun _ => ?_)
    refine lv_aload_n hx hb dX7_judge_7 rfl (lv_at hl 0 rfl) ?_
    refine lv_iconst (v := 1) hx hb dX7_judge_8 zk_iconst_1 ?_
    refine va_calli (va_runV (As := [.int 1]) (rest := []) ⟨hx, hb, hml, hown, hts⟩ (c_X7_refused l dC dI H.size a0 1 a0g_0 a0g_1 a0g_2 a0g_3 a0g_4 a0g_5 a0g_6 (.ref a0_7) a0g_9 a0g_10 a0_8 ) (cwV 1 hts gX7_judge_X7_refused rfl rfl rfl zd_X7_refused ⟨Nat.le_of_ble_eq_true rfl, Nat.le_of_ble_eq_true rfl⟩) ⟨ax_blind (fun _ _ _ _ _ => trivial), zr_7 (zp_K hK) (zp_P1 hP) (q0 := 0) rfl, ax_pre (zp_P1 hP) (zp_K hK) (zp_D1 hD) (fun _ _ => trivial)⟩ rfl rfl hl.1 rfl (lv_room (Nat.le_of_ble_eq_true rfl)) dX7_judge_9 ⟨Nat.le_of_ble_eq_true rfl, Nat.le_of_ble_eq_true rfl⟩) hS (fun q _ h => zp_F1 hD hS hA q h) (zp_F1 hD hS hA) (fun r9 u t H locs ht hvm hw hB hz1 hk1 hS1 => zx_1 hB (fun v9na0_8 hB => zo1 hB ht hP hD hk1 (zp_F1 hD hS hA) hS1 (fun hP hK1 hD hS => ?_)))
    have hw : r9 = (-1) := hw
    have hw := hw.symm
    subst hw
    exact W.iret (v := (-1)) hx hb hr (fun t ht hW => ⟨⟨(-1), (), rfl, ⟨(Int.le_trans zq76 zq70), (Int.le_trans zq71 zq99)⟩, v9na0_8, by rw [ht]; exact hP, va_K.moved hW.alike hK, hD⟩, hS.F ht⟩) hS.2.2 dX7_judge_12
end P120_safe
section P121_safe
set_option maxHeartbeats 4000000 in
set_option maxRecDepth 100000 in
theorem c_X7_dares (l : Launch) (dC : Nat → ClassId) (dI : Nat → Nat → Nat) (sz : Nat) (a0 : Nat) (a1 : Int32) (a2 : Int32) (a3 : Int32) (a4 : Int32) (a0g_0 a0g_1 a0g_2 a0g_3 a0g_4 a0g_5 a0g_6 a0g_9 a0g_10 : Value) (a0_7 : Nat) (a0_8 : Int32) (a0_7_0 : Int32) (a0_7g_1 a0_7g_2 a0_7g_3 a0_7g_4 a0_7g_5 a0_7g_6 a0_7g_7 a0_7g_8 a0_7g_9 a0_7g_10 a0_7g_11 a0_7g_12 a0_7g_13 a0_7g_14 : Value) (ba0_7_0_l : (0 : Int) ≤ a0_7_0.toInt) (ba0_7_0_u : a0_7_0.toInt ≤ (9 : Int)) : zm l yX7_dares wsX7_dares ({ frames := 2, cells := 0, slots := 0, locals := 45 }) [.ref a0, .int a1, .int a2, .int a3, .int a4] dC dI sz [(a0, .inr (7, [a0g_0, a0g_1, a0g_2, a0g_3, a0g_4, a0g_5, a0g_6, .ref a0_7, .int a0_8, a0g_9, a0g_10])), (a0_7, .inr (0, [.int a0_7_0, a0_7g_1, a0_7g_2, a0_7g_3, a0_7g_4, a0_7g_5, a0_7g_6, a0_7g_7, a0_7g_8, a0_7g_9, a0_7g_10, a0_7g_11, a0_7g_12, a0_7g_13, a0_7g_14]))] [] (fun A _ => True) (fun A => va_Qi (fun (r : Int32) (_ : Unit) => True) (fun (_ : Unit) (t : State) => ∃ na0_8 : Int32, ax_B dC dI A [(a0, .inr (7, [a0g_0, a0g_1, a0g_2, a0g_3, a0g_4, a0g_5, a0g_6, .ref a0_7, .int na0_8, a0g_9, a0g_10])), (a0_7, .inr (0, [.int a0_7_0, a0_7g_1, a0_7g_2, a0_7g_3, a0_7g_4, a0_7g_5, a0_7g_6, a0_7g_7, a0_7g_8, a0_7g_9, a0_7g_10, a0_7g_11, a0_7g_12, a0_7g_13, a0_7g_14]))] [] t) A) := by
  refine zh (cc := cX7_dares) (maxL := 6) (ret := (some .int)) zn_RX7 rfl (Nat.le_of_ble_eq_true rfl) (fun p e s m below meth c A ls hx hb hml hr hts (hown : s.vm.findClass RX7 = some m.cls) hlocks hA hS hP hK hD hE (hl : lv_has ls 6 [(0, .ref a0), (1, .int a1), (2, .int a2), (3, .int a3), (4, .int a4)]) => ?_)
  refine lv_aload_n hx hb dX7_dares_0 rfl (lv_at hl 0 rfl) ?_
  refine lv_iload_n hx hb dX7_dares_1 rfl (lv_at hl 1 rfl) ?_
  refine lv_iconst (v := 0) hx hb dX7_dares_2 zk_iconst_0 ?_
  refine lv_bipush (v := 9) hx hb dX7_dares_3 zk_bipush_9 ?_
  refine va_calli (va_runV (As := [.int a1, .int 0, .int 9]) (rest := []) ⟨hx, hb, hml, hown, hts⟩ (c_X7_troubleOfNumber l dC dI s.heap.size a0 a1 0 9 a0g_0 a0g_1 a0g_2 a0g_3 a0g_4 a0g_5 a0g_6 (.int a0_8) a0g_9 a0g_10 a0_7 a0_7_0 a0_7g_1 a0_7g_2 a0_7g_3 a0_7g_4 a0_7g_5 a0_7g_6 a0_7g_7 a0_7g_8 a0_7g_9 a0_7g_10 a0_7g_11 a0_7g_12 a0_7g_13 a0_7g_14 ba0_7_0_l ba0_7_0_u) (cwV 3 hts gX7_dares_X7_troubleOfNumber rfl rfl rfl zd_X7_troubleOfNumber ⟨Nat.le_of_ble_eq_true rfl, Nat.le_of_ble_eq_true rfl⟩) ⟨ax_blind (fun _ _ _ _ _ => trivial), zr_7 (zp_K hK) (zp_P2 hP) (q0 := 0) rfl, ax_pre (zp_P2 hP) (zp_K hK) (zp_D2 hD) (fun _ _ => trivial)⟩ rfl rfl hl.1 rfl (lv_room (Nat.le_of_ble_eq_true rfl)) dX7_dares_5 ⟨Nat.le_of_ble_eq_true rfl, Nat.le_of_ble_eq_true rfl⟩) hS (fun q _ h => zp_F2 hD hS hA q h) (zp_F2 hD hS hA) (fun r5 u t H locs ht hvm hw hB hz1 hk1 hS1 => zo2 hB ht hP hD hk1 (zp_F2 hD hS hA) hS1 (fun hP hK1 hD hS => ?_))
  rcases hw with hw | hw | hw
  · obtain ⟨hw, fh5, h5⟩ := hw
    subst hw
    have l5k0_a0_7_0 : (1 : Int) ≤ a0_7_0.toInt := fh5
    have l5k0_a1 : (0 : Int) ≤ a1.toInt := Int.le_trans zq5 h5.1
    have u5k0_a1 : a1.toInt ≤ (9 : Int) := Int.le_trans h5.2 zq3
    refine lv_istore (lv' := [(5, .int 0), (0, .ref a0), (1, .int a1), (2, .int a2), (3, .int a3), (4, .int a4)]) hx hb dX7_dares_8 hl (by decide) rfl (fun ls hl => ?_)
    refine lv_iload hx hb dX7_dares_10 (lv_at hl 0 rfl) ?_
    refine lv_if_eq (tgt := 24) hx hb dX7_dares_12 (by decide) (fun _ => ?_) (fun c12 => absurd (by decide +kernel) c12)
    refine lv_aload_n hx hb dX7_dares_24 rfl (lv_at hl 1 rfl) ?_
    refine lv_iload hx hb dX7_dares_25 (lv_at hl 5 rfl) ?_
    refine lv_if_eq (tgt := 38) hx hb dX7_dares_27 (by decide) (fun c27 => ?_) (fun c27 => ?_)
    · have gc27 := ai_eq c27
      have u27t_a4 : a4.toInt ≤ (0 : Int) := Int.le_trans (Int.le_of_eq gc27) zq6
      have l27t_a4 : (0 : Int) ≤ a4.toInt := Int.le_trans zq5 (Int.le_of_eq gc27.symm)
      refine lv_iload_n hx hb dX7_dares_38 rfl (lv_at hl 2 rfl) ?_
      refine lv_iload_n hx hb dX7_dares_39 rfl (lv_at hl 3 rfl) ?_
      refine lv_iload_n hx hb dX7_dares_40 rfl (lv_at hl 4 rfl) ?_
      refine va_calli (va_runS (As := [.int a1, .int a2, .int a3]) (rest := [.ref a0]) ⟨hx, hb, hml, hown, hts⟩ (c_X7_figureShare l dC dI H.size a1 a2 a3 ) (va_cwS 3 hts gX7_dares_X7_figureShare rfl rfl rfl zd_X7_figureShare.2 ⟨Nat.le_of_ble_eq_true rfl, Nat.le_of_ble_eq_true rfl⟩) ⟨ax_blind (fun _ _ _ _ _ => trivial), ax_pre (zp_P0 hP) (zp_K hK) (zp_D0 hD) (fun _ _ => trivial)⟩ rfl rfl hl.1 rfl (lv_room (Nat.le_of_ble_eq_true rfl)) dX7_dares_41 ⟨Nat.le_of_ble_eq_true rfl, Nat.le_of_ble_eq_true rfl⟩) hS (fun q _ h => zp_F0 hD hS hA q h) (zp_F0 hD hS hA) (fun r41 u t H locs ht hvm hw hB hz1 hk1 hS1 => zo0 hB ht hP hD hk1 (zp_F0 hD hS hA) hS1 (fun hP hK1 hD hS => ?_))
      refine va_calli (va_runV (As := [.int r41]) (rest := []) ⟨hx, hb, hml, hown, hts⟩ (c_X7_answered l dC dI H.size a0 r41 a0g_0 a0g_1 a0g_2 a0g_3 a0g_4 a0g_5 a0g_6 (.ref a0_7) a0g_9 a0g_10 a0_8 ) (cwV 1 hts gX7_dares_X7_answered rfl rfl rfl zd_X7_answered ⟨Nat.le_of_ble_eq_true rfl, Nat.le_of_ble_eq_true rfl⟩) ⟨ax_blind (fun _ _ _ _ _ => trivial), zr_7 (zp_K hK) (zp_P1 hP) (q0 := 0) rfl, ax_pre (zp_P1 hP) (zp_K hK) (zp_D1 hD) (fun _ _ => trivial)⟩ rfl rfl hl.1 rfl (lv_room (Nat.le_of_ble_eq_true rfl)) dX7_dares_44 ⟨Nat.le_of_ble_eq_true rfl, Nat.le_of_ble_eq_true rfl⟩) hS (fun q _ h => zp_F1 hD hS hA q h) (zp_F1 hD hS hA) (fun r44 u t H locs ht hvm hw hB hz1 hk1 hS1 => zx_1 hB (fun v44na0_8 hB => zo1 hB ht hP hD hk1 (zp_F1 hD hS hA) hS1 (fun hP hK1 hD hS => ?_)))
      have hw : r44 = r41 := hw
      have hw := hw.symm
      subst hw
      exact W.iret (v := r41) hx hb hr (fun t ht hW => ⟨⟨r41, (), rfl, trivial, v44na0_8, by rw [ht]; exact hP, va_K.moved hW.alike hK, hD⟩, hS.F ht⟩) hS.2.2 dX7_dares_47
    · have gc27 := ai_ne c27
      refine lv_iload_n hx hb dX7_dares_30 rfl (lv_at hl 3 rfl) ?_
      refine lv_iload_n hx hb dX7_dares_31 rfl (lv_at hl 4 rfl) ?_
      refine va_calli (va_runS (As := [.int a2, .int a3]) (rest := [.ref a0]) ⟨hx, hb, hml, hown, hts⟩ (c_X7_attendantShare l dC dI H.size a2 a3 ) (va_cwS 2 hts gX7_dares_X7_attendantShare rfl rfl rfl zd_X7_attendantShare.2 ⟨Nat.le_of_ble_eq_true rfl, Nat.le_of_ble_eq_true rfl⟩) ⟨ax_blind (fun _ _ _ _ _ => trivial), ax_pre (zp_P0 hP) (zp_K hK) (zp_D0 hD) (fun _ _ => trivial)⟩ rfl rfl hl.1 rfl (lv_room (Nat.le_of_ble_eq_true rfl)) dX7_dares_32 ⟨Nat.le_of_ble_eq_true rfl, Nat.le_of_ble_eq_true rfl⟩) hS (fun q _ h => zp_F0 hD hS hA q h) (zp_F0 hD hS hA) (fun r32 u t H locs ht hvm hw hB hz1 hk1 hS1 => zo0 hB ht hP hD hk1 (zp_F0 hD hS hA) hS1 (fun hP hK1 hD hS => ?_))
      rcases hw with hw | hw | hw | hw
      · subst hw
        refine lv_goto (tgt := 44) hx hb dX7_dares_35 (by decide) ?_
        refine va_calli (va_runV (As := [.int 3]) (rest := []) ⟨hx, hb, hml, hown, hts⟩ (c_X7_answered l dC dI H.size a0 3 a0g_0 a0g_1 a0g_2 a0g_3 a0g_4 a0g_5 a0g_6 (.ref a0_7) a0g_9 a0g_10 a0_8 ) (cwV 1 hts gX7_dares_X7_answered rfl rfl rfl zd_X7_answered ⟨Nat.le_of_ble_eq_true rfl, Nat.le_of_ble_eq_true rfl⟩) ⟨ax_blind (fun _ _ _ _ _ => trivial), zr_7 (zp_K hK) (zp_P1 hP) (q0 := 0) rfl, ax_pre (zp_P1 hP) (zp_K hK) (zp_D1 hD) (fun _ _ => trivial)⟩ rfl rfl hl.1 rfl (lv_room (Nat.le_of_ble_eq_true rfl)) dX7_dares_44 ⟨Nat.le_of_ble_eq_true rfl, Nat.le_of_ble_eq_true rfl⟩) hS (fun q _ h => zp_F1 hD hS hA q h) (zp_F1 hD hS hA) (fun r44 u t H locs ht hvm hw hB hz1 hk1 hS1 => zx_1 hB (fun v44na0_8 hB => zo1 hB ht hP hD hk1 (zp_F1 hD hS hA) hS1 (fun hP hK1 hD hS => ?_)))
        have hw : r44 = 3 := hw
        have hw := hw.symm
        subst hw
        exact W.iret (v := 3) hx hb hr (fun t ht hW => ⟨⟨3, (), rfl, trivial, v44na0_8, by rw [ht]; exact hP, va_K.moved hW.alike hK, hD⟩, hS.F ht⟩) hS.2.2 dX7_dares_47
      · obtain ⟨hw, h32_0, h32_1, h32_2, h32_3⟩ := hw
        subst hw
        have l32k1_a2 : (0 : Int) ≤ a2.toInt := h32_0
        have u32k1_a2 : a2.toInt ≤ (0 : Int) := h32_1
        have l32k1_a3 : (0 : Int) ≤ a3.toInt := h32_2
        have u32k1_a3 : a3.toInt ≤ (0 : Int) := h32_3
        refine lv_goto (tgt := 44) hx hb dX7_dares_35 (by decide) ?_
        refine va_calli (va_runV (As := [.int 1]) (rest := []) ⟨hx, hb, hml, hown, hts⟩ (c_X7_answered l dC dI H.size a0 1 a0g_0 a0g_1 a0g_2 a0g_3 a0g_4 a0g_5 a0g_6 (.ref a0_7) a0g_9 a0g_10 a0_8 ) (cwV 1 hts gX7_dares_X7_answered rfl rfl rfl zd_X7_answered ⟨Nat.le_of_ble_eq_true rfl, Nat.le_of_ble_eq_true rfl⟩) ⟨ax_blind (fun _ _ _ _ _ => trivial), zr_7 (zp_K hK) (zp_P1 hP) (q0 := 0) rfl, ax_pre (zp_P1 hP) (zp_K hK) (zp_D1 hD) (fun _ _ => trivial)⟩ rfl rfl hl.1 rfl (lv_room (Nat.le_of_ble_eq_true rfl)) dX7_dares_44 ⟨Nat.le_of_ble_eq_true rfl, Nat.le_of_ble_eq_true rfl⟩) hS (fun q _ h => zp_F1 hD hS hA q h) (zp_F1 hD hS hA) (fun r44 u t H locs ht hvm hw hB hz1 hk1 hS1 => zx_1 hB (fun v44na0_8 hB => zo1 hB ht hP hD hk1 (zp_F1 hD hS hA) hS1 (fun hP hK1 hD hS => ?_)))
        have hw : r44 = 1 := hw
        have hw := hw.symm
        subst hw
        exact W.iret (v := 1) hx hb hr (fun t ht hW => ⟨⟨1, (), rfl, trivial, v44na0_8, by rw [ht]; exact hP, va_K.moved hW.alike hK, hD⟩, hS.F ht⟩) hS.2.2 dX7_dares_47
      · obtain ⟨hw, h32_0, h32_1⟩ := hw
        subst hw
        have l32k2_a3 : (0 : Int) ≤ a3.toInt := h32_0
        have u32k2_a3 : a3.toInt ≤ (0 : Int) := h32_1
        refine lv_goto (tgt := 44) hx hb dX7_dares_35 (by decide) ?_
        refine va_calli (va_runV (As := [.int 0]) (rest := []) ⟨hx, hb, hml, hown, hts⟩ (c_X7_answered l dC dI H.size a0 0 a0g_0 a0g_1 a0g_2 a0g_3 a0g_4 a0g_5 a0g_6 (.ref a0_7) a0g_9 a0g_10 a0_8 ) (cwV 1 hts gX7_dares_X7_answered rfl rfl rfl zd_X7_answered ⟨Nat.le_of_ble_eq_true rfl, Nat.le_of_ble_eq_true rfl⟩) ⟨ax_blind (fun _ _ _ _ _ => trivial), zr_7 (zp_K hK) (zp_P1 hP) (q0 := 0) rfl, ax_pre (zp_P1 hP) (zp_K hK) (zp_D1 hD) (fun _ _ => trivial)⟩ rfl rfl hl.1 rfl (lv_room (Nat.le_of_ble_eq_true rfl)) dX7_dares_44 ⟨Nat.le_of_ble_eq_true rfl, Nat.le_of_ble_eq_true rfl⟩) hS (fun q _ h => zp_F1 hD hS hA q h) (zp_F1 hD hS hA) (fun r44 u t H locs ht hvm hw hB hz1 hk1 hS1 => zx_1 hB (fun v44na0_8 hB => zo1 hB ht hP hD hk1 (zp_F1 hD hS hA) hS1 (fun hP hK1 hD hS => ?_)))
        have hw : r44 = 0 := hw
        have hw := hw.symm
        subst hw
        exact W.iret (v := 0) hx hb hr (fun t ht hW => ⟨⟨0, (), rfl, trivial, v44na0_8, by rw [ht]; exact hP, va_K.moved hW.alike hK, hD⟩, hS.F ht⟩) hS.2.2 dX7_dares_47
      · obtain ⟨hw, h32_0, h32_1⟩ := hw
        subst hw
        have l32k3_a2 : (0 : Int) ≤ a2.toInt := h32_0
        have u32k3_a2 : a2.toInt ≤ (0 : Int) := h32_1
        refine lv_goto (tgt := 44) hx hb dX7_dares_35 (by decide) ?_
        refine va_calli (va_runV (As := [.int (-1)]) (rest := []) ⟨hx, hb, hml, hown, hts⟩ (c_X7_answered l dC dI H.size a0 (-1) a0g_0 a0g_1 a0g_2 a0g_3 a0g_4 a0g_5 a0g_6 (.ref a0_7) a0g_9 a0g_10 a0_8 ) (cwV 1 hts gX7_dares_X7_answered rfl rfl rfl zd_X7_answered ⟨Nat.le_of_ble_eq_true rfl, Nat.le_of_ble_eq_true rfl⟩) ⟨ax_blind (fun _ _ _ _ _ => trivial), zr_7 (zp_K hK) (zp_P1 hP) (q0 := 0) rfl, ax_pre (zp_P1 hP) (zp_K hK) (zp_D1 hD) (fun _ _ => trivial)⟩ rfl rfl hl.1 rfl (lv_room (Nat.le_of_ble_eq_true rfl)) dX7_dares_44 ⟨Nat.le_of_ble_eq_true rfl, Nat.le_of_ble_eq_true rfl⟩) hS (fun q _ h => zp_F1 hD hS hA q h) (zp_F1 hD hS hA) (fun r44 u t H locs ht hvm hw hB hz1 hk1 hS1 => zx_1 hB (fun v44na0_8 hB => zo1 hB ht hP hD hk1 (zp_F1 hD hS hA) hS1 (fun hP hK1 hD hS => ?_)))
        have hw : r44 = (-1) := hw
        have hw := hw.symm
        subst hw
        exact W.iret (v := (-1)) hx hb hr (fun t ht hW => ⟨⟨(-1), (), rfl, trivial, v44na0_8, by rw [ht]; exact hP, va_K.moved hW.alike hK, hD⟩, hS.F ht⟩) hS.2.2 dX7_dares_47
  · subst hw
    refine lv_istore (lv' := [(5, .int 1), (0, .ref a0), (1, .int a1), (2, .int a2), (3, .int a3), (4, .int a4)]) hx hb dX7_dares_8 hl (by decide) rfl (fun ls hl => ?_)
    refine lv_iload hx hb dX7_dares_10 (lv_at hl 0 rfl) ?_
    refine lv_if_eq (tgt := 24) hx hb dX7_dares_12 (by decide) (fun c12 => absurd c12 (by decide +kernel)) (fun _ => ?_)
    refine lv_aload_n hx hb dX7_dares_15 rfl (lv_at hl 1 rfl) ?_
    refine lv_iload hx hb dX7_dares_16 (lv_at hl 0 rfl) ?_
    refine va_put (D := (dC, dI)) (ci := 7) (v := .int 1) (ty := .int) (C := RX7) (T := TX7) (N := 11) hx hb hts zi_X7_dares_7 tyX7 tyX7_ok nmX7 hown hK hP hD hS 0 rfl rfl 8 (by decide) (hts (.fieldLink RX7 61 "WaxTurns" "latestTrouble" "I") (zm_X7_dares_r1 (List.mem_of_getElem? (i := 0) rfl))) (fun _ h9 => h9) rfl (tyX7_ok 8 (by decide)) rfl rfl (Nat.le_of_ble_eq_true rfl) dX7_dares_18 (fun H locs hP hD hS => ?_)
    refine zs_0 (y := (a0, .inr (7, [a0g_0, a0g_1, a0g_2, a0g_3, a0g_4, a0g_5, a0g_6, .ref a0_7, .int 1, a0g_9, a0g_10]))) hP hD rfl (fun hP hD => ?_)
    refine lv_bipush (v := (-100)) hx hb dX7_dares_21 zk_bipush_n100 ?_
    exact W.iret (v := (-100)) hx hb hr (fun t ht hW => ⟨⟨(-100), (), rfl, trivial, 1, by rw [ht]; exact hP, va_K.moved hW.alike hK, hD⟩, hS.F ht⟩) hS.2.2 dX7_dares_23
  · subst hw
    refine lv_istore (lv' := [(5, .int 2), (0, .ref a0), (1, .int a1), (2, .int a2), (3, .int a3), (4, .int a4)]) hx hb dX7_dares_8 hl (by decide) rfl (fun ls hl => ?_)
    refine lv_iload hx hb dX7_dares_10 (lv_at hl 0 rfl) ?_
    refine lv_if_eq (tgt := 24) hx hb dX7_dares_12 (by decide) (fun c12 => absurd c12 (by decide +kernel)) (fun _ => ?_)
    refine lv_aload_n hx hb dX7_dares_15 rfl (lv_at hl 1 rfl) ?_
    refine lv_iload hx hb dX7_dares_16 (lv_at hl 0 rfl) ?_
    refine va_put (D := (dC, dI)) (ci := 7) (v := .int 2) (ty := .int) (C := RX7) (T := TX7) (N := 11) hx hb hts zi_X7_dares_7 tyX7 tyX7_ok nmX7 hown hK hP hD hS 0 rfl rfl 8 (by decide) (hts (.fieldLink RX7 61 "WaxTurns" "latestTrouble" "I") (zm_X7_dares_r1 (List.mem_of_getElem? (i := 0) rfl))) (fun _ h9 => h9) rfl (tyX7_ok 8 (by decide)) rfl rfl (Nat.le_of_ble_eq_true rfl) dX7_dares_18 (fun H locs hP hD hS => ?_)
    refine zs_0 (y := (a0, .inr (7, [a0g_0, a0g_1, a0g_2, a0g_3, a0g_4, a0g_5, a0g_6, .ref a0_7, .int 2, a0g_9, a0g_10]))) hP hD rfl (fun hP hD => ?_)
    refine lv_bipush (v := (-100)) hx hb dX7_dares_21 zk_bipush_n100 ?_
    exact W.iret (v := (-100)) hx hb hr (fun t ht hW => ⟨⟨(-100), (), rfl, trivial, 2, by rw [ht]; exact hP, va_K.moved hW.alike hK, hD⟩, hS.F ht⟩) hS.2.2 dX7_dares_23

set_option maxHeartbeats 4000000 in
set_option maxRecDepth 100000 in
theorem c_X7_rests (l : Launch) (dC : Nat → ClassId) (dI : Nat → Nat → Nat) (sz : Nat) (a0 : Nat) (a1 : Int32) (a0g_0 a0g_1 a0g_2 a0g_3 a0g_4 a0g_5 a0g_6 a0g_9 a0g_10 : Value) (a0_7 : Nat) (a0_8 : Int32) (a0_7_0 : Int32) (a0_7g_1 a0_7g_2 a0_7g_3 a0_7g_4 a0_7g_5 a0_7g_6 a0_7g_7 a0_7g_8 a0_7g_9 a0_7g_10 a0_7g_11 a0_7g_12 a0_7g_13 a0_7g_14 : Value) (ba0_7_0_l : (0 : Int) ≤ a0_7_0.toInt) (ba0_7_0_u : a0_7_0.toInt ≤ (9 : Int)) : zm l yX7_rests wsX7_rests ({ frames := 2, cells := 0, slots := 0, locals := 45 }) [.ref a0, .int a1] dC dI sz [(a0, .inr (7, [a0g_0, a0g_1, a0g_2, a0g_3, a0g_4, a0g_5, a0g_6, .ref a0_7, .int a0_8, a0g_9, a0g_10])), (a0_7, .inr (0, [.int a0_7_0, a0_7g_1, a0_7g_2, a0_7g_3, a0_7g_4, a0_7g_5, a0_7g_6, a0_7g_7, a0_7g_8, a0_7g_9, a0_7g_10, a0_7g_11, a0_7g_12, a0_7g_13, a0_7g_14]))] [] (fun A _ => True) (fun A => va_Qi (fun (r : Int32) (_ : Unit) => True) (fun (_ : Unit) (t : State) => ∃ na0_8 : Int32, ax_B dC dI A [(a0, .inr (7, [a0g_0, a0g_1, a0g_2, a0g_3, a0g_4, a0g_5, a0g_6, .ref a0_7, .int na0_8, a0g_9, a0g_10])), (a0_7, .inr (0, [.int a0_7_0, a0_7g_1, a0_7g_2, a0_7g_3, a0_7g_4, a0_7g_5, a0_7g_6, a0_7g_7, a0_7g_8, a0_7g_9, a0_7g_10, a0_7g_11, a0_7g_12, a0_7g_13, a0_7g_14]))] [] t) A) := by
  refine zh (cc := cX7_rests) (maxL := 5) (ret := (some .int)) zn_RX7 rfl (Nat.le_of_ble_eq_true rfl) (fun p e s m below meth c A ls hx hb hml hr hts (hown : s.vm.findClass RX7 = some m.cls) hlocks hA hS hP hK hD hE (hl : lv_has ls 5 [(0, .ref a0), (1, .int a1)]) => ?_)
  refine ai_open (fun K hK0 => ?_)
  refine (hK0 _ _ _).mpr ?_
  refine lv_aload_n hx hb dX7_rests_0 rfl (lv_at hl 0 rfl) ?_
  refine lv_iload_n hx hb dX7_rests_1 rfl (lv_at hl 1 rfl) ?_
  refine lv_iconst (v := 0) hx hb dX7_rests_2 zk_iconst_0 ?_
  refine lv_bipush (v := 9) hx hb dX7_rests_3 zk_bipush_9 ?_
  refine va_calli (va_runV (As := [.int a1, .int 0, .int 9]) (rest := []) ⟨hx, hb, hml, hown, hts⟩ (c_X7_troubleOfNumber l dC dI s.heap.size a0 a1 0 9 a0g_0 a0g_1 a0g_2 a0g_3 a0g_4 a0g_5 a0g_6 (.int a0_8) a0g_9 a0g_10 a0_7 a0_7_0 a0_7g_1 a0_7g_2 a0_7g_3 a0_7g_4 a0_7g_5 a0_7g_6 a0_7g_7 a0_7g_8 a0_7g_9 a0_7g_10 a0_7g_11 a0_7g_12 a0_7g_13 a0_7g_14 ba0_7_0_l ba0_7_0_u) (cwV 3 hts gX7_rests_X7_troubleOfNumber rfl rfl rfl zd_X7_troubleOfNumber ⟨Nat.le_of_ble_eq_true rfl, Nat.le_of_ble_eq_true rfl⟩) ⟨ax_blind (fun _ _ _ _ _ => trivial), zr_7 (zp_K hK) (zp_P2 hP) (q0 := 0) rfl, ax_pre (zp_P2 hP) (zp_K hK) (zp_D2 hD) (fun _ _ => trivial)⟩ rfl rfl hl.1 rfl (lv_room (Nat.le_of_ble_eq_true rfl)) dX7_rests_5 ⟨Nat.le_of_ble_eq_true rfl, Nat.le_of_ble_eq_true rfl⟩) hS (fun q _ h => zp_F2 hD hS hA q h) (zp_F2 hD hS hA) (fun r5 u t H locs ht hvm hw hB hz1 hk1 hS1 => zo2 hB ht hP hD hk1 (zp_F2 hD hS hA) hS1 (fun hP hK1 hD hS => ?_))
  rcases hw with hw | hw | hw
  · obtain ⟨hw, fh5, h5⟩ := hw
    subst hw
    have l5k0_a0_7_0 : (1 : Int) ≤ a0_7_0.toInt := fh5
    have l5k0_a1 : (0 : Int) ≤ a1.toInt := Int.le_trans zq5 h5.1
    have u5k0_a1 : a1.toInt ≤ (9 : Int) := Int.le_trans h5.2 zq3
    refine lv_istore_n (lv' := [(2, .int 0), (0, .ref a0), (1, .int a1)]) hx hb dX7_rests_8 rfl hl (by decide) rfl (fun ls hl => ?_)
    refine lv_iload_n hx hb dX7_rests_9 rfl (lv_at hl 0 rfl) ?_
    refine lv_if_eq (tgt := 19) hx hb dX7_rests_10 (by decide) (fun _ => ?_) (fun c10 => absurd (by decide +kernel) c10)
    refine lv_iconst (v := 0) hx hb dX7_rests_19 zk_iconst_0 ?_
    refine lv_istore_n (lv' := [(3, .int 0), (2, .int 0), (0, .ref a0), (1, .int a1)]) hx hb dX7_rests_20 rfl hl (by decide) rfl (fun ls hl => ?_)
    refine lv_iconst (v := 0) hx hb dX7_rests_21 zk_iconst_0 ?_
    refine lv_istore (lv' := [(4, .int 0), (3, .int 0), (2, .int 0), (0, .ref a0), (1, .int a1)]) hx hb dX7_rests_22 hl (by decide) rfl (fun ls hl => ?_)
    have J24 : ∀ (n : Nat) (j24l4 : Int32) (j24l3 : Int32) (H : Heap) (locs : List Loc) (ls : Array Slot), (5 : Int) - j24l4.toInt ≤ (n : Int) → (0 : Int) ≤ j24l4.toInt → j24l4.toInt ≤ (4 : Int) → va_P (dC, dI) vwCl [(a0, .inr (7, [a0g_0, a0g_1, a0g_2, a0g_3, a0g_4, a0g_5, a0g_6, .ref a0_7, .int a0_8, a0g_9, a0g_10])), (a0_7, .inr (0, [.int a0_7_0, a0_7g_1, a0_7g_2, a0_7g_3, a0_7g_4, a0_7g_5, a0_7g_6, a0_7g_7, a0_7g_8, a0_7g_9, a0_7g_10, a0_7g_11, a0_7g_12, a0_7g_13, a0_7g_14]))] H → va_D A [(a0, .inr (7, [a0g_0, a0g_1, a0g_2, a0g_3, a0g_4, a0g_5, a0g_6, .ref a0_7, .int a0_8, a0g_9, a0g_10])), (a0_7, .inr (0, [.int a0_7_0, a0_7g_1, a0_7g_2, a0_7g_3, a0_7g_4, a0_7g_5, a0_7g_6, a0_7g_7, a0_7g_8, a0_7g_9, a0_7g_10, a0_7g_11, a0_7g_12, a0_7g_13, a0_7g_14]))] → va_S A s.heap H locs → lv_has ls 5 [(0, .ref a0), (1, .int a1), (3, .int j24l3), (4, .int j24l4)] → K H locs (F0 m 24 ls []) := by
      intro n
      induction n with
      | zero =>
        intro j24l4 j24l3 H locs ls hm bj24l4_l bj24l4_u hP hD hS hl
        have h8 := ai_min j24l4
        have h9 := ai_max j24l4
        exact absurd hm (by omega)
      | succ n ih24 =>
        intro j24l4 j24l3 H locs ls hm bj24l4_l bj24l4_u hP hD hS hl
        refine (hK0 _ _ _).mpr ?_
        have hm24 := hm
        refine lv_iload hx hb dX7_rests_24 (lv_at hl 3 rfl) ?_
        refine lv_iconst (v := 4) hx hb dX7_rests_26 zk_iconst_4 ?_
        refine lv_icmp_ge (tgt := 70) hx hb dX7_rests_27 (by decide) (fun c27 => ?_) (fun c27 => ?_)
        · have gc27 := ai_le c27
          have l27t_j24l4 : (4 : Int) ≤ j24l4.toInt := Int.le_trans zq68 gc27
          refine lv_aload_n hx hb dX7_rests_70 rfl (lv_at hl 0 rfl) ?_
          refine lv_iload_n hx hb dX7_rests_71 rfl (lv_at hl 2 rfl) ?_
          refine va_calli (va_runV (As := [.int j24l3]) (rest := []) ⟨hx, hb, hml, hown, hts⟩ (c_X7_answered l dC dI H.size a0 j24l3 a0g_0 a0g_1 a0g_2 a0g_3 a0g_4 a0g_5 a0g_6 (.ref a0_7) a0g_9 a0g_10 a0_8 ) (cwV 1 hts gX7_rests_X7_answered rfl rfl rfl zd_X7_answered ⟨Nat.le_of_ble_eq_true rfl, Nat.le_of_ble_eq_true rfl⟩) ⟨ax_blind (fun _ _ _ _ _ => trivial), zr_7 (zp_K hK) (zp_P1 hP) (q0 := 0) rfl, ax_pre (zp_P1 hP) (zp_K hK) (zp_D1 hD) (fun _ _ => trivial)⟩ rfl rfl hl.1 rfl (lv_room (Nat.le_of_ble_eq_true rfl)) dX7_rests_72 ⟨Nat.le_of_ble_eq_true rfl, Nat.le_of_ble_eq_true rfl⟩) hS (fun q _ h => zp_F1 hD hS hA q h) (zp_F1 hD hS hA) (fun r72 u t H locs ht hvm hw hB hz1 hk1 hS1 => zx_1 hB (fun v72na0_8 hB => zo1 hB ht hP hD hk1 (zp_F1 hD hS hA) hS1 (fun hP hK1 hD hS => ?_)))
          have hw : r72 = j24l3 := hw
          have hw := hw.symm
          subst hw
          exact W.iret (v := j24l3) hx hb hr (fun t ht hW => ⟨⟨j24l3, (), rfl, trivial, v72na0_8, by rw [ht]; exact hP, va_K.moved hW.alike hK, hD⟩, hS.F ht⟩) hS.2.2 dX7_rests_75
        · have gc27 := ai_nle c27
          have u27f_j24l4 : j24l4.toInt ≤ (3 : Int) := ai_lthi gc27 zq67
          refine lv_iload_n hx hb dX7_rests_30 rfl (lv_at hl 1 rfl) ?_
          refine lv_iload hx hb dX7_rests_31 (lv_at hl 3 rfl) ?_
          refine lv_iconst (v := 2) hx hb dX7_rests_33 zk_iconst_2 ?_
          have J42 : ∀ (j42s0 : Int32) (H : Heap) (locs : List Loc) (ls : Array Slot), (0 : Int) ≤ j42s0.toInt → j42s0.toInt ≤ (1 : Int) → va_P (dC, dI) vwCl [(a0, .inr (7, [a0g_0, a0g_1, a0g_2, a0g_3, a0g_4, a0g_5, a0g_6, .ref a0_7, .int a0_8, a0g_9, a0g_10])), (a0_7, .inr (0, [.int a0_7_0, a0_7g_1, a0_7g_2, a0_7g_3, a0_7g_4, a0_7g_5, a0_7g_6, a0_7g_7, a0_7g_8, a0_7g_9, a0_7g_10, a0_7g_11, a0_7g_12, a0_7g_13, a0_7g_14]))] H → va_D A [(a0, .inr (7, [a0g_0, a0g_1, a0g_2, a0g_3, a0g_4, a0g_5, a0g_6, .ref a0_7, .int a0_8, a0g_9, a0g_10])), (a0_7, .inr (0, [.int a0_7_0, a0_7g_1, a0_7g_2, a0_7g_3, a0_7g_4, a0_7g_5, a0_7g_6, a0_7g_7, a0_7g_8, a0_7g_9, a0_7g_10, a0_7g_11, a0_7g_12, a0_7g_13, a0_7g_14]))] → va_S A s.heap H locs → lv_has ls 5 [(0, .ref a0), (1, .int a1), (3, .int j24l3), (4, .int j24l4)] → K H locs (F0 m 42 ls [.int j42s0, .int a1]) := by
            intro j42s0 H locs ls  bj42s0_l bj42s0_u hP hD hS hl
            refine (hK0 _ _ _).mpr ?_
            refine lv_iload hx hb dX7_rests_42 (lv_at hl 3 rfl) ?_
            refine lv_iconst (v := 2) hx hb dX7_rests_44 zk_iconst_2 ?_
            refine lv_irem hx hb dX7_rests_45 (by decide +kernel) ?_
            refine lv_topi (fun x45 ex45 => ?_)
            have qx45 := ai_rem2 ex45 bj24l4_l (Int.lt_of_lt_of_le zq100 zq12) zq13
            have wx45 : x45.toInt = j24l4.toInt % 2 := qx45.1
            refine lv_iconst (v := 1) hx hb dX7_rests_46 zk_iconst_1 ?_
            have J55 : ∀ (j55s0 : Int32) (H : Heap) (locs : List Loc) (ls : Array Slot), (0 : Int) ≤ j55s0.toInt → j55s0.toInt ≤ (1 : Int) → va_P (dC, dI) vwCl [(a0, .inr (7, [a0g_0, a0g_1, a0g_2, a0g_3, a0g_4, a0g_5, a0g_6, .ref a0_7, .int a0_8, a0g_9, a0g_10])), (a0_7, .inr (0, [.int a0_7_0, a0_7g_1, a0_7g_2, a0_7g_3, a0_7g_4, a0_7g_5, a0_7g_6, a0_7g_7, a0_7g_8, a0_7g_9, a0_7g_10, a0_7g_11, a0_7g_12, a0_7g_13, a0_7g_14]))] H → va_D A [(a0, .inr (7, [a0g_0, a0g_1, a0g_2, a0g_3, a0g_4, a0g_5, a0g_6, .ref a0_7, .int a0_8, a0g_9, a0g_10])), (a0_7, .inr (0, [.int a0_7_0, a0_7g_1, a0_7g_2, a0_7g_3, a0_7g_4, a0_7g_5, a0_7g_6, a0_7g_7, a0_7g_8, a0_7g_9, a0_7g_10, a0_7g_11, a0_7g_12, a0_7g_13, a0_7g_14]))] → va_S A s.heap H locs → lv_has ls 5 [(0, .ref a0), (1, .int a1), (3, .int j24l3), (4, .int j24l4)] → K H locs (F0 m 55 ls [.int j55s0, .int j42s0, .int a1]) := by
              intro j55s0 H locs ls  bj55s0_l bj55s0_u hP hD hS hl
              refine (hK0 _ _ _).mpr ?_
              refine va_calli (va_runS (As := [.int a1, .int j42s0, .int j55s0]) (rest := []) ⟨hx, hb, hml, hown, hts⟩ (c_X7_isRest l dC dI H.size a1 j42s0 j55s0 ) (va_cwS 3 hts gX7_rests_X7_isRest rfl rfl rfl zd_X7_isRest.2 ⟨Nat.le_of_ble_eq_true rfl, Nat.le_of_ble_eq_true rfl⟩) ⟨ax_blind (fun _ _ _ _ _ => trivial), ax_pre (zp_P0 hP) (zp_K hK) (zp_D0 hD) (fun _ _ => trivial)⟩ rfl rfl hl.1 rfl (lv_room (Nat.le_of_ble_eq_true rfl)) dX7_rests_55 ⟨Nat.le_of_ble_eq_true rfl, Nat.le_of_ble_eq_true rfl⟩) hS (fun q _ h => zp_F0 hD hS hA q h) (zp_F0 hD hS hA) (fun r55 u t H locs ht hvm hw hB hz1 hk1 hS1 => zo0 hB ht hP hD hk1 (zp_F0 hD hS hA) hS1 (fun hP hK1 hD hS => ?_))
              rcases hw with hw | hw
              · subst hw
                refine lv_if_eq (tgt := 64) hx hb dX7_rests_58 (by decide) (fun c58 => absurd c58 (by decide +kernel)) (fun _ => ?_)
                have J64 : ∀ (j64l3 : Int32) (H : Heap) (locs : List Loc) (ls : Array Slot), va_P (dC, dI) vwCl [(a0, .inr (7, [a0g_0, a0g_1, a0g_2, a0g_3, a0g_4, a0g_5, a0g_6, .ref a0_7, .int a0_8, a0g_9, a0g_10])), (a0_7, .inr (0, [.int a0_7_0, a0_7g_1, a0_7g_2, a0_7g_3, a0_7g_4, a0_7g_5, a0_7g_6, a0_7g_7, a0_7g_8, a0_7g_9, a0_7g_10, a0_7g_11, a0_7g_12, a0_7g_13, a0_7g_14]))] H → va_D A [(a0, .inr (7, [a0g_0, a0g_1, a0g_2, a0g_3, a0g_4, a0g_5, a0g_6, .ref a0_7, .int a0_8, a0g_9, a0g_10])), (a0_7, .inr (0, [.int a0_7_0, a0_7g_1, a0_7g_2, a0_7g_3, a0_7g_4, a0_7g_5, a0_7g_6, a0_7g_7, a0_7g_8, a0_7g_9, a0_7g_10, a0_7g_11, a0_7g_12, a0_7g_13, a0_7g_14]))] → va_S A s.heap H locs → lv_has ls 5 [(0, .ref a0), (1, .int a1), (3, .int j64l3), (4, .int j24l4)] → K H locs (F0 m 64 ls []) := by
                  intro j64l3 H locs ls   hP hD hS hl
                  refine (hK0 _ _ _).mpr ?_
                  obtain ⟨x64, ex64⟩ : ∃ y : Int32, y = j24l4 + Int32.ofInt 1 := ⟨_, rfl⟩
                  have qx64 : x64.toInt = j24l4.toInt + 1 := ai_inc ex64 (by decide) (by decide) u27f_j24l4 (by decide)
                  have bx64 : (1 : Int) ≤ x64.toInt ∧ x64.toInt ≤ 4 := ⟨by rw [qx64]; exact Int.add_le_add bj24l4_l (Int.le_refl _), by rw [qx64]; exact Int.add_le_add u27f_j24l4 (Int.le_refl _)⟩
                  refine lv_iinc (v := x64) (lv' := [(4, .int x64), (0, .ref a0), (1, .int a1), (3, .int j64l3)]) hx hb dX7_rests_64 hl (k := 3) rfl ex64.symm (by decide) rfl (fun ls hl => ?_)
                  refine lv_goto (tgt := 24) hx hb dX7_rests_67 (by decide) ?_
                  exact (hK0 _ _ _).mp (ih24 x64 j64l3 _ _ _ (by have h0 := qx64; omega) (Int.le_trans zq4 bx64.1) bx64.2 hP hD hS (lv_sub hl [1, 2, 3, 0] rfl))
                obtain ⟨x61, ex61⟩ : ∃ y : Int32, y = j24l3 + Int32.ofInt 1 := ⟨_, rfl⟩
                refine lv_iinc (v := x61) (lv' := [(3, .int x61), (0, .ref a0), (1, .int a1), (4, .int j24l4)]) hx hb dX7_rests_61 hl (k := 2) rfl ex61.symm (by decide) rfl (fun ls hl => ?_)
                exact (hK0 _ _ _).mp (J64 x61 _ _ _   hP hD hS (lv_sub hl [1, 2, 0, 3] rfl))
              · subst hw
                refine lv_if_eq (tgt := 64) hx hb dX7_rests_58 (by decide) (fun _ => ?_) (fun c58 => absurd (by decide +kernel) c58)
                have J64 : ∀ (j64l3 : Int32) (H : Heap) (locs : List Loc) (ls : Array Slot), va_P (dC, dI) vwCl [(a0, .inr (7, [a0g_0, a0g_1, a0g_2, a0g_3, a0g_4, a0g_5, a0g_6, .ref a0_7, .int a0_8, a0g_9, a0g_10])), (a0_7, .inr (0, [.int a0_7_0, a0_7g_1, a0_7g_2, a0_7g_3, a0_7g_4, a0_7g_5, a0_7g_6, a0_7g_7, a0_7g_8, a0_7g_9, a0_7g_10, a0_7g_11, a0_7g_12, a0_7g_13, a0_7g_14]))] H → va_D A [(a0, .inr (7, [a0g_0, a0g_1, a0g_2, a0g_3, a0g_4, a0g_5, a0g_6, .ref a0_7, .int a0_8, a0g_9, a0g_10])), (a0_7, .inr (0, [.int a0_7_0, a0_7g_1, a0_7g_2, a0_7g_3, a0_7g_4, a0_7g_5, a0_7g_6, a0_7g_7, a0_7g_8, a0_7g_9, a0_7g_10, a0_7g_11, a0_7g_12, a0_7g_13, a0_7g_14]))] → va_S A s.heap H locs → lv_has ls 5 [(0, .ref a0), (1, .int a1), (3, .int j64l3), (4, .int j24l4)] → K H locs (F0 m 64 ls []) := by
                  intro j64l3 H locs ls   hP hD hS hl
                  refine (hK0 _ _ _).mpr ?_
                  obtain ⟨x64, ex64⟩ : ∃ y : Int32, y = j24l4 + Int32.ofInt 1 := ⟨_, rfl⟩
                  have qx64 : x64.toInt = j24l4.toInt + 1 := ai_inc ex64 (by decide) (by decide) u27f_j24l4 (by decide)
                  have bx64 : (1 : Int) ≤ x64.toInt ∧ x64.toInt ≤ 4 := ⟨by rw [qx64]; exact Int.add_le_add bj24l4_l (Int.le_refl _), by rw [qx64]; exact Int.add_le_add u27f_j24l4 (Int.le_refl _)⟩
                  refine lv_iinc (v := x64) (lv' := [(4, .int x64), (0, .ref a0), (1, .int a1), (3, .int j64l3)]) hx hb dX7_rests_64 hl (k := 3) rfl ex64.symm (by decide) rfl (fun ls hl => ?_)
                  refine lv_goto (tgt := 24) hx hb dX7_rests_67 (by decide) ?_
                  exact (hK0 _ _ _).mp (ih24 x64 j64l3 _ _ _ (by have h0 := qx64; omega) (Int.le_trans zq4 bx64.1) bx64.2 hP hD hS (lv_sub hl [1, 2, 3, 0] rfl))
                exact (hK0 _ _ _).mp (J64 j24l3 _ _ _   hP hD hS (lv_sub hl [0, 1, 2, 3] rfl))
            refine lv_icmp_ne (tgt := 54) hx hb dX7_rests_47 (by decide) (fun c47 => ?_) (fun c47 => ?_)
            · have gc47 := ai_ne c47
              have u47t_x45 : x45.toInt ≤ (0 : Int) := (by have h1 := qx45.2.2; have h2 : (1 : Int32).toInt = 1 := (by decide); rw [h2] at gc47; omega)
              refine lv_iconst (v := 0) hx hb dX7_rests_54 zk_iconst_0 ?_
              exact (hK0 _ _ _).mp (J55 0 _ _ _  zq5 (Int.le_trans zq6 zq4) hP hD hS (lv_sub hl [0, 1, 2, 3] rfl))
            · have gc47 := ai_eq c47
              have u47f_x45 : x45.toInt ≤ (1 : Int) := qx45.2.2
              have l47f_x45 : (1 : Int) ≤ x45.toInt := Int.le_trans zq1 (Int.le_of_eq gc47.symm)
              refine lv_iconst (v := 1) hx hb dX7_rests_50 zk_iconst_1 ?_
              refine lv_goto (tgt := 55) hx hb dX7_rests_51 (by decide) ?_
              exact (hK0 _ _ _).mp (J55 1 _ _ _  (Int.le_trans zq4 zq1) zq0 hP hD hS (lv_sub hl [0, 1, 2, 3] rfl))
          refine lv_icmp_lt (tgt := 41) hx hb dX7_rests_34 (by decide) (fun c34 => ?_) (fun c34 => ?_)
          · have gc34 := ai_lt c34
            have u34t_j24l4 : j24l4.toInt ≤ (1 : Int) := ai_lthi gc34 zq13
            refine lv_iconst (v := 0) hx hb dX7_rests_41 zk_iconst_0 ?_
            exact (hK0 _ _ _).mp (J42 0 _ _ _  zq5 (Int.le_trans zq6 zq4) hP hD hS (lv_sub hl [0, 1, 2, 3] rfl))
          · have gc34 := ai_nlt c34
            have l34f_j24l4 : (2 : Int) ≤ j24l4.toInt := Int.le_trans zq12 gc34
            refine lv_iconst (v := 1) hx hb dX7_rests_37 zk_iconst_1 ?_
            refine lv_goto (tgt := 42) hx hb dX7_rests_38 (by decide) ?_
            exact (hK0 _ _ _).mp (J42 1 _ _ _  (Int.le_trans zq4 zq1) zq0 hP hD hS (lv_sub hl [0, 1, 2, 3] rfl))
    exact (hK0 _ _ _).mp (J24 5 0 0 _ _ _ (by have h1 : (0 : Int) ≤ (0 : Int32).toInt := zq5; have h2 : (0 : Int32).toInt ≤ (0 : Int) := zq6; omega) zq5 (Int.le_trans zq6 zq101) hP hD hS (lv_sub hl [3, 4, 1, 0] rfl))
  · subst hw
    refine lv_istore_n (lv' := [(2, .int 1), (0, .ref a0), (1, .int a1)]) hx hb dX7_rests_8 rfl hl (by decide) rfl (fun ls hl => ?_)
    refine lv_iload_n hx hb dX7_rests_9 rfl (lv_at hl 0 rfl) ?_
    refine lv_if_eq (tgt := 19) hx hb dX7_rests_10 (by decide) (fun c10 => absurd c10 (by decide +kernel)) (fun _ => ?_)
    refine lv_aload_n hx hb dX7_rests_13 rfl (lv_at hl 1 rfl) ?_
    refine lv_iload_n hx hb dX7_rests_14 rfl (lv_at hl 0 rfl) ?_
    refine va_calli (va_runV (As := [.int 1]) (rest := []) ⟨hx, hb, hml, hown, hts⟩ (c_X7_refused l dC dI H.size a0 1 a0g_0 a0g_1 a0g_2 a0g_3 a0g_4 a0g_5 a0g_6 (.ref a0_7) a0g_9 a0g_10 a0_8 ) (cwV 1 hts gX7_rests_X7_refused rfl rfl rfl zd_X7_refused ⟨Nat.le_of_ble_eq_true rfl, Nat.le_of_ble_eq_true rfl⟩) ⟨ax_blind (fun _ _ _ _ _ => trivial), zr_7 (zp_K hK) (zp_P1 hP) (q0 := 0) rfl, ax_pre (zp_P1 hP) (zp_K hK) (zp_D1 hD) (fun _ _ => trivial)⟩ rfl rfl hl.1 rfl (lv_room (Nat.le_of_ble_eq_true rfl)) dX7_rests_15 ⟨Nat.le_of_ble_eq_true rfl, Nat.le_of_ble_eq_true rfl⟩) hS (fun q _ h => zp_F1 hD hS hA q h) (zp_F1 hD hS hA) (fun r15 u t H locs ht hvm hw hB hz1 hk1 hS1 => zx_1 hB (fun v15na0_8 hB => zo1 hB ht hP hD hk1 (zp_F1 hD hS hA) hS1 (fun hP hK1 hD hS => ?_)))
    have hw : r15 = (-1) := hw
    have hw := hw.symm
    subst hw
    exact W.iret (v := (-1)) hx hb hr (fun t ht hW => ⟨⟨(-1), (), rfl, trivial, v15na0_8, by rw [ht]; exact hP, va_K.moved hW.alike hK, hD⟩, hS.F ht⟩) hS.2.2 dX7_rests_18
  · subst hw
    refine lv_istore_n (lv' := [(2, .int 2), (0, .ref a0), (1, .int a1)]) hx hb dX7_rests_8 rfl hl (by decide) rfl (fun ls hl => ?_)
    refine lv_iload_n hx hb dX7_rests_9 rfl (lv_at hl 0 rfl) ?_
    refine lv_if_eq (tgt := 19) hx hb dX7_rests_10 (by decide) (fun c10 => absurd c10 (by decide +kernel)) (fun _ => ?_)
    refine lv_aload_n hx hb dX7_rests_13 rfl (lv_at hl 1 rfl) ?_
    refine lv_iload_n hx hb dX7_rests_14 rfl (lv_at hl 0 rfl) ?_
    refine va_calli (va_runV (As := [.int 2]) (rest := []) ⟨hx, hb, hml, hown, hts⟩ (c_X7_refused l dC dI H.size a0 2 a0g_0 a0g_1 a0g_2 a0g_3 a0g_4 a0g_5 a0g_6 (.ref a0_7) a0g_9 a0g_10 a0_8 ) (cwV 1 hts gX7_rests_X7_refused rfl rfl rfl zd_X7_refused ⟨Nat.le_of_ble_eq_true rfl, Nat.le_of_ble_eq_true rfl⟩) ⟨ax_blind (fun _ _ _ _ _ => trivial), zr_7 (zp_K hK) (zp_P1 hP) (q0 := 0) rfl, ax_pre (zp_P1 hP) (zp_K hK) (zp_D1 hD) (fun _ _ => trivial)⟩ rfl rfl hl.1 rfl (lv_room (Nat.le_of_ble_eq_true rfl)) dX7_rests_15 ⟨Nat.le_of_ble_eq_true rfl, Nat.le_of_ble_eq_true rfl⟩) hS (fun q _ h => zp_F1 hD hS hA q h) (zp_F1 hD hS hA) (fun r15 u t H locs ht hvm hw hB hz1 hk1 hS1 => zx_1 hB (fun v15na0_8 hB => zo1 hB ht hP hD hk1 (zp_F1 hD hS hA) hS1 (fun hP hK1 hD hS => ?_)))
    have hw : r15 = (-1) := hw
    have hw := hw.symm
    subst hw
    exact W.iret (v := (-1)) hx hb hr (fun t ht hW => ⟨⟨(-1), (), rfl, trivial, v15na0_8, by rw [ht]; exact hP, va_K.moved hW.alike hK, hD⟩, hS.F ht⟩) hS.2.2 dX7_rests_18

set_option maxHeartbeats 4000000 in
set_option maxRecDepth 100000 in
theorem c_X7_rest (l : Launch) (dC : Nat → ClassId) (dI : Nat → Nat → Nat) (sz : Nat) (a0 : Nat) (a1 : Int32) (a0g_0 a0g_1 a0g_2 a0g_3 a0g_4 a0g_5 a0g_6 a0g_9 a0g_10 : Value) (a0_7 : Nat) (a0_8 : Int32) (a0_7_0 : Int32) (a0_7g_1 a0_7g_2 a0_7g_3 a0_7g_4 a0_7g_5 a0_7g_6 a0_7g_7 a0_7g_8 a0_7g_9 a0_7g_10 a0_7g_11 a0_7g_12 a0_7g_13 a0_7g_14 : Value) (ba0_7_0_l : (0 : Int) ≤ a0_7_0.toInt) (ba0_7_0_u : a0_7_0.toInt ≤ (9 : Int)) : zm l yX7_rest wsX7_rest ({ frames := 2, cells := 0, slots := 0, locals := 45 }) [.ref a0, .int a1] dC dI sz [(a0, .inr (7, [a0g_0, a0g_1, a0g_2, a0g_3, a0g_4, a0g_5, a0g_6, .ref a0_7, .int a0_8, a0g_9, a0g_10])), (a0_7, .inr (0, [.int a0_7_0, a0_7g_1, a0_7g_2, a0_7g_3, a0_7g_4, a0_7g_5, a0_7g_6, a0_7g_7, a0_7g_8, a0_7g_9, a0_7g_10, a0_7g_11, a0_7g_12, a0_7g_13, a0_7g_14]))] [] (fun A _ => True) (fun A => va_Qi (fun (r : Int32) (_ : Unit) => (-2 : Int) ≤ r.toInt ∧ r.toInt ≤ (11 : Int)) (fun (_ : Unit) (t : State) => ∃ na0_8 : Int32, ax_B dC dI A [(a0, .inr (7, [a0g_0, a0g_1, a0g_2, a0g_3, a0g_4, a0g_5, a0g_6, .ref a0_7, .int na0_8, a0g_9, a0g_10])), (a0_7, .inr (0, [.int a0_7_0, a0_7g_1, a0_7g_2, a0_7g_3, a0_7g_4, a0_7g_5, a0_7g_6, a0_7g_7, a0_7g_8, a0_7g_9, a0_7g_10, a0_7g_11, a0_7g_12, a0_7g_13, a0_7g_14]))] [] t) A) := by
  refine zh (cc := cX7_rest) (maxL := 4) (ret := (some .int)) zn_RX7 rfl (Nat.le_of_ble_eq_true rfl) (fun p e s m below meth c A ls hx hb hml hr hts (hown : s.vm.findClass RX7 = some m.cls) hlocks hA hS hP hK hD hE (hl : lv_has ls 4 [(0, .ref a0), (1, .int a1)]) => ?_)
  refine ai_open (fun K hK0 => ?_)
  refine (hK0 _ _ _).mpr ?_
  refine lv_aload_n hx hb dX7_rest_0 rfl (lv_at hl 0 rfl) ?_
  refine lv_iload_n hx hb dX7_rest_1 rfl (lv_at hl 1 rfl) ?_
  refine lv_iconst (v := 0) hx hb dX7_rest_2 zk_iconst_0 ?_
  refine lv_bipush (v := 9) hx hb dX7_rest_3 zk_bipush_9 ?_
  refine va_calli (va_runV (As := [.int a1, .int 0, .int 9]) (rest := []) ⟨hx, hb, hml, hown, hts⟩ (c_X7_troubleOfNumber l dC dI s.heap.size a0 a1 0 9 a0g_0 a0g_1 a0g_2 a0g_3 a0g_4 a0g_5 a0g_6 (.int a0_8) a0g_9 a0g_10 a0_7 a0_7_0 a0_7g_1 a0_7g_2 a0_7g_3 a0_7g_4 a0_7g_5 a0_7g_6 a0_7g_7 a0_7g_8 a0_7g_9 a0_7g_10 a0_7g_11 a0_7g_12 a0_7g_13 a0_7g_14 ba0_7_0_l ba0_7_0_u) (cwV 3 hts gX7_rest_X7_troubleOfNumber rfl rfl rfl zd_X7_troubleOfNumber ⟨Nat.le_of_ble_eq_true rfl, Nat.le_of_ble_eq_true rfl⟩) ⟨ax_blind (fun _ _ _ _ _ => trivial), zr_7 (zp_K hK) (zp_P2 hP) (q0 := 0) rfl, ax_pre (zp_P2 hP) (zp_K hK) (zp_D2 hD) (fun _ _ => trivial)⟩ rfl rfl hl.1 rfl (lv_room (Nat.le_of_ble_eq_true rfl)) dX7_rest_5 ⟨Nat.le_of_ble_eq_true rfl, Nat.le_of_ble_eq_true rfl⟩) hS (fun q _ h => zp_F2 hD hS hA q h) (zp_F2 hD hS hA) (fun r5 u t H locs ht hvm hw hB hz1 hk1 hS1 => zo2 hB ht hP hD hk1 (zp_F2 hD hS hA) hS1 (fun hP hK1 hD hS => ?_))
  rcases hw with hw | hw | hw
  · obtain ⟨hw, fh5, h5⟩ := hw
    subst hw
    have l5k0_a0_7_0 : (1 : Int) ≤ a0_7_0.toInt := fh5
    have l5k0_a1 : (0 : Int) ≤ a1.toInt := Int.le_trans zq5 h5.1
    have u5k0_a1 : a1.toInt ≤ (9 : Int) := Int.le_trans h5.2 zq3
    refine lv_istore_n (lv' := [(2, .int 0), (0, .ref a0), (1, .int a1)]) hx hb dX7_rest_8 rfl hl (by decide) rfl (fun ls hl => ?_)
    refine lv_iload_n hx hb dX7_rest_9 rfl (lv_at hl 0 rfl) ?_
    refine lv_if_eq (tgt := 19) hx hb dX7_rest_10 (by decide) (fun _ => ?_) (fun c10 => absurd (by decide +kernel) c10)
    refine lv_iconst (v := 0) hx hb dX7_rest_19 zk_iconst_0 ?_
    refine lv_istore_n (lv' := [(3, .int 0), (2, .int 0), (0, .ref a0), (1, .int a1)]) hx hb dX7_rest_20 rfl hl (by decide) rfl (fun ls hl => ?_)
    have J21 : ∀ (n : Nat) (j21l3 : Int32) (H : Heap) (locs : List Loc) (ls : Array Slot), (5 : Int) - j21l3.toInt ≤ (n : Int) → (0 : Int) ≤ j21l3.toInt → j21l3.toInt ≤ (4 : Int) → va_P (dC, dI) vwCl [(a0, .inr (7, [a0g_0, a0g_1, a0g_2, a0g_3, a0g_4, a0g_5, a0g_6, .ref a0_7, .int a0_8, a0g_9, a0g_10])), (a0_7, .inr (0, [.int a0_7_0, a0_7g_1, a0_7g_2, a0_7g_3, a0_7g_4, a0_7g_5, a0_7g_6, a0_7g_7, a0_7g_8, a0_7g_9, a0_7g_10, a0_7g_11, a0_7g_12, a0_7g_13, a0_7g_14]))] H → va_D A [(a0, .inr (7, [a0g_0, a0g_1, a0g_2, a0g_3, a0g_4, a0g_5, a0g_6, .ref a0_7, .int a0_8, a0g_9, a0g_10])), (a0_7, .inr (0, [.int a0_7_0, a0_7g_1, a0_7g_2, a0_7g_3, a0_7g_4, a0_7g_5, a0_7g_6, a0_7g_7, a0_7g_8, a0_7g_9, a0_7g_10, a0_7g_11, a0_7g_12, a0_7g_13, a0_7g_14]))] → va_S A s.heap H locs → lv_has ls 4 [(0, .ref a0), (1, .int a1), (3, .int j21l3)] → K H locs (F0 m 21 ls []) := by
      intro n
      induction n with
      | zero =>
        intro j21l3 H locs ls hm bj21l3_l bj21l3_u hP hD hS hl
        have h8 := ai_min j21l3
        have h9 := ai_max j21l3
        exact absurd hm (by omega)
      | succ n ih21 =>
        intro j21l3 H locs ls hm bj21l3_l bj21l3_u hP hD hS hl
        refine (hK0 _ _ _).mpr ?_
        have hm21 := hm
        refine lv_iload_n hx hb dX7_rest_21 rfl (lv_at hl 2 rfl) ?_
        refine lv_iconst (v := 4) hx hb dX7_rest_22 zk_iconst_4 ?_
        refine lv_icmp_ge (tgt := 76) hx hb dX7_rest_23 (by decide) (fun c23 => ?_) (fun c23 => ?_)
        · have gc23 := ai_le c23
          have l23t_j21l3 : (4 : Int) ≤ j21l3.toInt := Int.le_trans zq68 gc23
          refine lv_aload_n hx hb dX7_rest_76 rfl (lv_at hl 0 rfl) ?_
          refine lv_bipush (v := (-2)) hx hb dX7_rest_77 zk_bipush_n2 ?_
          refine va_calli (va_runV (As := [.int (-2)]) (rest := []) ⟨hx, hb, hml, hown, hts⟩ (c_X7_answered l dC dI H.size a0 (-2) a0g_0 a0g_1 a0g_2 a0g_3 a0g_4 a0g_5 a0g_6 (.ref a0_7) a0g_9 a0g_10 a0_8 ) (cwV 1 hts gX7_rest_X7_answered rfl rfl rfl zd_X7_answered ⟨Nat.le_of_ble_eq_true rfl, Nat.le_of_ble_eq_true rfl⟩) ⟨ax_blind (fun _ _ _ _ _ => trivial), zr_7 (zp_K hK) (zp_P1 hP) (q0 := 0) rfl, ax_pre (zp_P1 hP) (zp_K hK) (zp_D1 hD) (fun _ _ => trivial)⟩ rfl rfl hl.1 rfl (lv_room (Nat.le_of_ble_eq_true rfl)) dX7_rest_79 ⟨Nat.le_of_ble_eq_true rfl, Nat.le_of_ble_eq_true rfl⟩) hS (fun q _ h => zp_F1 hD hS hA q h) (zp_F1 hD hS hA) (fun r79 u t H locs ht hvm hw hB hz1 hk1 hS1 => zx_1 hB (fun v79na0_8 hB => zo1 hB ht hP hD hk1 (zp_F1 hD hS hA) hS1 (fun hP hK1 hD hS => ?_)))
          have hw : r79 = (-2) := hw
          have hw := hw.symm
          subst hw
          exact W.iret (v := (-2)) hx hb hr (fun t ht hW => ⟨⟨(-2), (), rfl, ⟨zq45, (Int.le_trans zq44 zq102)⟩, v79na0_8, by rw [ht]; exact hP, va_K.moved hW.alike hK, hD⟩, hS.F ht⟩) hS.2.2 dX7_rest_82
        · have gc23 := ai_nle c23
          have u23f_j21l3 : j21l3.toInt ≤ (3 : Int) := ai_lthi gc23 zq67
          refine lv_iload_n hx hb dX7_rest_26 rfl (lv_at hl 1 rfl) ?_
          refine lv_iload_n hx hb dX7_rest_27 rfl (lv_at hl 2 rfl) ?_
          refine lv_iconst (v := 2) hx hb dX7_rest_28 zk_iconst_2 ?_
          have J37 : ∀ (j37s0 : Int32) (H : Heap) (locs : List Loc) (ls : Array Slot), (0 : Int) ≤ j37s0.toInt → j37s0.toInt ≤ (1 : Int) → va_P (dC, dI) vwCl [(a0, .inr (7, [a0g_0, a0g_1, a0g_2, a0g_3, a0g_4, a0g_5, a0g_6, .ref a0_7, .int a0_8, a0g_9, a0g_10])), (a0_7, .inr (0, [.int a0_7_0, a0_7g_1, a0_7g_2, a0_7g_3, a0_7g_4, a0_7g_5, a0_7g_6, a0_7g_7, a0_7g_8, a0_7g_9, a0_7g_10, a0_7g_11, a0_7g_12, a0_7g_13, a0_7g_14]))] H → va_D A [(a0, .inr (7, [a0g_0, a0g_1, a0g_2, a0g_3, a0g_4, a0g_5, a0g_6, .ref a0_7, .int a0_8, a0g_9, a0g_10])), (a0_7, .inr (0, [.int a0_7_0, a0_7g_1, a0_7g_2, a0_7g_3, a0_7g_4, a0_7g_5, a0_7g_6, a0_7g_7, a0_7g_8, a0_7g_9, a0_7g_10, a0_7g_11, a0_7g_12, a0_7g_13, a0_7g_14]))] → va_S A s.heap H locs → lv_has ls 4 [(0, .ref a0), (1, .int a1), (3, .int j21l3)] → K H locs (F0 m 37 ls [.int j37s0, .int a1]) := by
            intro j37s0 H locs ls  bj37s0_l bj37s0_u hP hD hS hl
            refine (hK0 _ _ _).mpr ?_
            refine lv_iload_n hx hb dX7_rest_37 rfl (lv_at hl 2 rfl) ?_
            refine lv_iconst (v := 2) hx hb dX7_rest_38 zk_iconst_2 ?_
            refine lv_irem hx hb dX7_rest_39 (by decide +kernel) ?_
            refine lv_topi (fun x39 ex39 => ?_)
            have qx39 := ai_rem2 ex39 bj21l3_l (Int.lt_of_lt_of_le zq100 zq12) zq13
            have wx39 : x39.toInt = j21l3.toInt % 2 := qx39.1
            refine lv_iconst (v := 1) hx hb dX7_rest_40 zk_iconst_1 ?_
            have J49 : ∀ (j49s0 : Int32) (H : Heap) (locs : List Loc) (ls : Array Slot), (0 : Int) ≤ j49s0.toInt → j49s0.toInt ≤ (1 : Int) → va_P (dC, dI) vwCl [(a0, .inr (7, [a0g_0, a0g_1, a0g_2, a0g_3, a0g_4, a0g_5, a0g_6, .ref a0_7, .int a0_8, a0g_9, a0g_10])), (a0_7, .inr (0, [.int a0_7_0, a0_7g_1, a0_7g_2, a0_7g_3, a0_7g_4, a0_7g_5, a0_7g_6, a0_7g_7, a0_7g_8, a0_7g_9, a0_7g_10, a0_7g_11, a0_7g_12, a0_7g_13, a0_7g_14]))] H → va_D A [(a0, .inr (7, [a0g_0, a0g_1, a0g_2, a0g_3, a0g_4, a0g_5, a0g_6, .ref a0_7, .int a0_8, a0g_9, a0g_10])), (a0_7, .inr (0, [.int a0_7_0, a0_7g_1, a0_7g_2, a0_7g_3, a0_7g_4, a0_7g_5, a0_7g_6, a0_7g_7, a0_7g_8, a0_7g_9, a0_7g_10, a0_7g_11, a0_7g_12, a0_7g_13, a0_7g_14]))] → va_S A s.heap H locs → lv_has ls 4 [(0, .ref a0), (1, .int a1), (3, .int j21l3)] → K H locs (F0 m 49 ls [.int j49s0, .int j37s0, .int a1]) := by
              intro j49s0 H locs ls  bj49s0_l bj49s0_u hP hD hS hl
              refine (hK0 _ _ _).mpr ?_
              refine va_calli (va_runS (As := [.int a1, .int j37s0, .int j49s0]) (rest := []) ⟨hx, hb, hml, hown, hts⟩ (c_X7_isRest l dC dI H.size a1 j37s0 j49s0 ) (va_cwS 3 hts gX7_rest_X7_isRest rfl rfl rfl zd_X7_isRest.2 ⟨Nat.le_of_ble_eq_true rfl, Nat.le_of_ble_eq_true rfl⟩) ⟨ax_blind (fun _ _ _ _ _ => trivial), ax_pre (zp_P0 hP) (zp_K hK) (zp_D0 hD) (fun _ _ => trivial)⟩ rfl rfl hl.1 rfl (lv_room (Nat.le_of_ble_eq_true rfl)) dX7_rest_49 ⟨Nat.le_of_ble_eq_true rfl, Nat.le_of_ble_eq_true rfl⟩) hS (fun q _ h => zp_F0 hD hS hA q h) (zp_F0 hD hS hA) (fun r49 u t H locs ht hvm hw hB hz1 hk1 hS1 => zo0 hB ht hP hD hk1 (zp_F0 hD hS hA) hS1 (fun hP hK1 hD hS => ?_))
              rcases hw with hw | hw
              · subst hw
                refine lv_if_eq (tgt := 70) hx hb dX7_rest_52 (by decide) (fun c52 => absurd c52 (by decide +kernel)) (fun _ => ?_)
                refine lv_aload_n hx hb dX7_rest_55 rfl (lv_at hl 0 rfl) ?_
                refine lv_bipush (v := 10) hx hb dX7_rest_56 zk_bipush_10 ?_
                refine lv_iload_n hx hb dX7_rest_58 rfl (lv_at hl 2 rfl) ?_
                refine lv_iconst (v := 2) hx hb dX7_rest_59 zk_iconst_2 ?_
                refine lv_idiv hx hb dX7_rest_60 (by decide +kernel) ?_
                refine lv_topi (fun x60 ex60 => ?_)
                have qx60 := ai_div ex60 ⟨bj21l3_l, u23f_j21l3⟩ (Int.lt_of_lt_of_le zq100 zq12)
                have u60z_x60 : x60.toInt ≤ (1 : Int) := (by have h1 := qx60.1; have h2 := u23f_j21l3; have h3 : (2 : Int32).toInt = 2 := (by decide); rw [h3] at h1; omega)
                refine lv_imul hx hb dX7_rest_61 ?_
                refine lv_topi (fun x61 ex61 => ?_)
                have qx61 : x61.toInt = (10 : Int32).toInt * x60.toInt ∧ (0 : Int) ≤ x61.toInt ∧ x61.toInt ≤ 10 := ai_mul ex61 ⟨zq26, zq27⟩ ⟨qx60.2.1, u60z_x60⟩ (by decide) (by decide) zq103
                have wx61 : x61.toInt = 10 * x60.toInt := qx61.1
                refine lv_iload_n hx hb dX7_rest_62 rfl (lv_at hl 2 rfl) ?_
                refine lv_iconst (v := 2) hx hb dX7_rest_63 zk_iconst_2 ?_
                refine lv_irem hx hb dX7_rest_64 (by decide +kernel) ?_
                refine lv_topi (fun x64 ex64 => ?_)
                have qx64 := ai_rem2 ex64 bj21l3_l (Int.lt_of_lt_of_le zq100 zq12) zq13
                have wx64 : x64.toInt = j21l3.toInt % 2 := qx64.1
                refine lv_iadd hx hb dX7_rest_65 ?_
                refine lv_topi (fun x65 ex65 => ?_)
                have qx65 : x65.toInt = x61.toInt + x64.toInt := ai_add ex65 ⟨qx61.2.1, qx61.2.2⟩ ⟨qx64.2.1, qx64.2.2⟩ (by decide) (by decide)
                have bx65 : (0 : Int) ≤ x65.toInt ∧ x65.toInt ≤ 11 := ⟨by rw [qx65]; exact Int.add_le_add qx61.2.1 qx64.2.1, by rw [qx65]; exact Int.add_le_add qx61.2.2 qx64.2.2⟩
                refine va_calli (va_runV (As := [.int x65]) (rest := []) ⟨hx, hb, hml, hown, hts⟩ (c_X7_answered l dC dI H.size a0 x65 a0g_0 a0g_1 a0g_2 a0g_3 a0g_4 a0g_5 a0g_6 (.ref a0_7) a0g_9 a0g_10 a0_8 ) (cwV 1 hts gX7_rest_X7_answered rfl rfl rfl zd_X7_answered ⟨Nat.le_of_ble_eq_true rfl, Nat.le_of_ble_eq_true rfl⟩) ⟨ax_blind (fun _ _ _ _ _ => trivial), zr_7 (zp_K hK) (zp_P1 hP) (q0 := 0) rfl, ax_pre (zp_P1 hP) (zp_K hK) (zp_D1 hD) (fun _ _ => trivial)⟩ rfl rfl hl.1 rfl (lv_room (Nat.le_of_ble_eq_true rfl)) dX7_rest_66 ⟨Nat.le_of_ble_eq_true rfl, Nat.le_of_ble_eq_true rfl⟩) hS (fun q _ h => zp_F1 hD hS hA q h) (zp_F1 hD hS hA) (fun r66 u t H locs ht hvm hw hB hz1 hk1 hS1 => zx_1 hB (fun v66na0_8 hB => zo1 hB ht hP hD hk1 (zp_F1 hD hS hA) hS1 (fun hP hK1 hD hS => ?_)))
                have hw : r66 = x65 := hw
                have hw := hw.symm
                subst hw
                exact W.iret (v := x65) hx hb hr (fun t ht hW => ⟨⟨x65, (), rfl, ⟨(Int.le_trans zq75 bx65.1), bx65.2⟩, v66na0_8, by rw [ht]; exact hP, va_K.moved hW.alike hK, hD⟩, hS.F ht⟩) hS.2.2 dX7_rest_69
              · subst hw
                refine lv_if_eq (tgt := 70) hx hb dX7_rest_52 (by decide) (fun _ => ?_) (fun c52 => absurd (by decide +kernel) c52)
                obtain ⟨x70, ex70⟩ : ∃ y : Int32, y = j21l3 + Int32.ofInt 1 := ⟨_, rfl⟩
                have qx70 : x70.toInt = j21l3.toInt + 1 := ai_inc ex70 (by decide) (by decide) u23f_j21l3 (by decide)
                have bx70 : (1 : Int) ≤ x70.toInt ∧ x70.toInt ≤ 4 := ⟨by rw [qx70]; exact Int.add_le_add bj21l3_l (Int.le_refl _), by rw [qx70]; exact Int.add_le_add u23f_j21l3 (Int.le_refl _)⟩
                refine lv_iinc (v := x70) (lv' := [(3, .int x70), (0, .ref a0), (1, .int a1)]) hx hb dX7_rest_70 hl (k := 2) rfl ex70.symm (by decide) rfl (fun ls hl => ?_)
                refine lv_goto (tgt := 21) hx hb dX7_rest_73 (by decide) ?_
                exact (hK0 _ _ _).mp (ih21 x70 _ _ _ (by have h0 := qx70; omega) (Int.le_trans zq4 bx70.1) bx70.2 hP hD hS (lv_sub hl [1, 2, 0] rfl))
            refine lv_icmp_ne (tgt := 48) hx hb dX7_rest_41 (by decide) (fun c41 => ?_) (fun c41 => ?_)
            · have gc41 := ai_ne c41
              have u41t_x39 : x39.toInt ≤ (0 : Int) := (by have h1 := qx39.2.2; have h2 : (1 : Int32).toInt = 1 := (by decide); rw [h2] at gc41; omega)
              refine lv_iconst (v := 0) hx hb dX7_rest_48 zk_iconst_0 ?_
              exact (hK0 _ _ _).mp (J49 0 _ _ _  zq5 (Int.le_trans zq6 zq4) hP hD hS (lv_sub hl [0, 1, 2] rfl))
            · have gc41 := ai_eq c41
              have u41f_x39 : x39.toInt ≤ (1 : Int) := qx39.2.2
              have l41f_x39 : (1 : Int) ≤ x39.toInt := Int.le_trans zq1 (Int.le_of_eq gc41.symm)
              refine lv_iconst (v := 1) hx hb dX7_rest_44 zk_iconst_1 ?_
              refine lv_goto (tgt := 49) hx hb dX7_rest_45 (by decide) ?_
              exact (hK0 _ _ _).mp (J49 1 _ _ _  (Int.le_trans zq4 zq1) zq0 hP hD hS (lv_sub hl [0, 1, 2] rfl))
          refine lv_icmp_lt (tgt := 36) hx hb dX7_rest_29 (by decide) (fun c29 => ?_) (fun c29 => ?_)
          · have gc29 := ai_lt c29
            have u29t_j21l3 : j21l3.toInt ≤ (1 : Int) := ai_lthi gc29 zq13
            refine lv_iconst (v := 0) hx hb dX7_rest_36 zk_iconst_0 ?_
            exact (hK0 _ _ _).mp (J37 0 _ _ _  zq5 (Int.le_trans zq6 zq4) hP hD hS (lv_sub hl [0, 1, 2] rfl))
          · have gc29 := ai_nlt c29
            have l29f_j21l3 : (2 : Int) ≤ j21l3.toInt := Int.le_trans zq12 gc29
            refine lv_iconst (v := 1) hx hb dX7_rest_32 zk_iconst_1 ?_
            refine lv_goto (tgt := 37) hx hb dX7_rest_33 (by decide) ?_
            exact (hK0 _ _ _).mp (J37 1 _ _ _  (Int.le_trans zq4 zq1) zq0 hP hD hS (lv_sub hl [0, 1, 2] rfl))
    exact (hK0 _ _ _).mp (J21 5 0 _ _ _ (by have h1 : (0 : Int) ≤ (0 : Int32).toInt := zq5; have h2 : (0 : Int32).toInt ≤ (0 : Int) := zq6; omega) zq5 (Int.le_trans zq6 zq101) hP hD hS (lv_sub hl [2, 3, 0] rfl))
  · subst hw
    refine lv_istore_n (lv' := [(2, .int 1), (0, .ref a0), (1, .int a1)]) hx hb dX7_rest_8 rfl hl (by decide) rfl (fun ls hl => ?_)
    refine lv_iload_n hx hb dX7_rest_9 rfl (lv_at hl 0 rfl) ?_
    refine lv_if_eq (tgt := 19) hx hb dX7_rest_10 (by decide) (fun c10 => absurd c10 (by decide +kernel)) (fun _ => ?_)
    refine lv_aload_n hx hb dX7_rest_13 rfl (lv_at hl 1 rfl) ?_
    refine lv_iload_n hx hb dX7_rest_14 rfl (lv_at hl 0 rfl) ?_
    refine va_calli (va_runV (As := [.int 1]) (rest := []) ⟨hx, hb, hml, hown, hts⟩ (c_X7_refused l dC dI H.size a0 1 a0g_0 a0g_1 a0g_2 a0g_3 a0g_4 a0g_5 a0g_6 (.ref a0_7) a0g_9 a0g_10 a0_8 ) (cwV 1 hts gX7_rest_X7_refused rfl rfl rfl zd_X7_refused ⟨Nat.le_of_ble_eq_true rfl, Nat.le_of_ble_eq_true rfl⟩) ⟨ax_blind (fun _ _ _ _ _ => trivial), zr_7 (zp_K hK) (zp_P1 hP) (q0 := 0) rfl, ax_pre (zp_P1 hP) (zp_K hK) (zp_D1 hD) (fun _ _ => trivial)⟩ rfl rfl hl.1 rfl (lv_room (Nat.le_of_ble_eq_true rfl)) dX7_rest_15 ⟨Nat.le_of_ble_eq_true rfl, Nat.le_of_ble_eq_true rfl⟩) hS (fun q _ h => zp_F1 hD hS hA q h) (zp_F1 hD hS hA) (fun r15 u t H locs ht hvm hw hB hz1 hk1 hS1 => zx_1 hB (fun v15na0_8 hB => zo1 hB ht hP hD hk1 (zp_F1 hD hS hA) hS1 (fun hP hK1 hD hS => ?_)))
    have hw : r15 = (-1) := hw
    have hw := hw.symm
    subst hw
    exact W.iret (v := (-1)) hx hb hr (fun t ht hW => ⟨⟨(-1), (), rfl, ⟨(Int.le_trans zq76 zq70), (Int.le_trans zq71 zq104)⟩, v15na0_8, by rw [ht]; exact hP, va_K.moved hW.alike hK, hD⟩, hS.F ht⟩) hS.2.2 dX7_rest_18
  · subst hw
    refine lv_istore_n (lv' := [(2, .int 2), (0, .ref a0), (1, .int a1)]) hx hb dX7_rest_8 rfl hl (by decide) rfl (fun ls hl => ?_)
    refine lv_iload_n hx hb dX7_rest_9 rfl (lv_at hl 0 rfl) ?_
    refine lv_if_eq (tgt := 19) hx hb dX7_rest_10 (by decide) (fun c10 => absurd c10 (by decide +kernel)) (fun _ => ?_)
    refine lv_aload_n hx hb dX7_rest_13 rfl (lv_at hl 1 rfl) ?_
    refine lv_iload_n hx hb dX7_rest_14 rfl (lv_at hl 0 rfl) ?_
    refine va_calli (va_runV (As := [.int 2]) (rest := []) ⟨hx, hb, hml, hown, hts⟩ (c_X7_refused l dC dI H.size a0 2 a0g_0 a0g_1 a0g_2 a0g_3 a0g_4 a0g_5 a0g_6 (.ref a0_7) a0g_9 a0g_10 a0_8 ) (cwV 1 hts gX7_rest_X7_refused rfl rfl rfl zd_X7_refused ⟨Nat.le_of_ble_eq_true rfl, Nat.le_of_ble_eq_true rfl⟩) ⟨ax_blind (fun _ _ _ _ _ => trivial), zr_7 (zp_K hK) (zp_P1 hP) (q0 := 0) rfl, ax_pre (zp_P1 hP) (zp_K hK) (zp_D1 hD) (fun _ _ => trivial)⟩ rfl rfl hl.1 rfl (lv_room (Nat.le_of_ble_eq_true rfl)) dX7_rest_15 ⟨Nat.le_of_ble_eq_true rfl, Nat.le_of_ble_eq_true rfl⟩) hS (fun q _ h => zp_F1 hD hS hA q h) (zp_F1 hD hS hA) (fun r15 u t H locs ht hvm hw hB hz1 hk1 hS1 => zx_1 hB (fun v15na0_8 hB => zo1 hB ht hP hD hk1 (zp_F1 hD hS hA) hS1 (fun hP hK1 hD hS => ?_)))
    have hw : r15 = (-1) := hw
    have hw := hw.symm
    subst hw
    exact W.iret (v := (-1)) hx hb hr (fun t ht hW => ⟨⟨(-1), (), rfl, ⟨(Int.le_trans zq76 zq70), (Int.le_trans zq71 zq104)⟩, v15na0_8, by rw [ht]; exact hP, va_K.moved hW.alike hK, hD⟩, hS.F ht⟩) hS.2.2 dX7_rest_18

set_option maxHeartbeats 4000000 in
set_option maxRecDepth 100000 in
theorem c_X7_odds (l : Launch) (dC : Nat → ClassId) (dI : Nat → Nat → Nat) (sz : Nat) (a0 : Nat) (a1 : Int32) (a2 : Int32) (a3 : Int32) (a0g_0 a0g_2 a0g_3 a0g_4 a0g_5 a0g_6 a0g_9 a0g_10 : Value) (a0_1 : Nat) (a0_7 : Nat) (a0_8 : Int32) (a0_7_0 : Int32) (a0_7g_1 a0_7g_2 a0_7g_4 a0_7g_7 a0_7g_8 a0_7g_9 a0_7g_10 a0_7g_11 a0_7g_12 a0_7g_13 a0_7g_14 : Value) (a0_7_3 : Int32) (a0_7_5 : Int32) (a0_7_6 : Int32) (a0_1g_0 a0_1g_2 a0_1g_3 a0_1g_4 a0_1g_5 a0_1g_6 : Value) (a0_1_1 : Int32) (ba0_7_0_l : (0 : Int) ≤ a0_7_0.toInt) (ba0_7_0_u : a0_7_0.toInt ≤ (9 : Int)) (ba0_7_5_l : (0 : Int) ≤ a0_7_5.toInt) (ba0_7_5_u : a0_7_5.toInt ≤ (8 : Int)) (ba0_7_6_l : (0 : Int) ≤ a0_7_6.toInt) (ba0_7_6_u : a0_7_6.toInt ≤ (8 : Int)) (ba0_1_1_l : (0 : Int) ≤ a0_1_1.toInt) (ba0_1_1_u : a0_1_1.toInt ≤ (8 : Int)) : zm l yX7_odds wsX7_odds ({ frames := 3, cells := 0, slots := 0, locals := 66 }) [.ref a0, .int a1, .int a2, .int a3] dC dI sz [(a0, .inr (7, [a0g_0, .ref a0_1, a0g_2, a0g_3, a0g_4, a0g_5, a0g_6, .ref a0_7, .int a0_8, a0g_9, a0g_10])), (a0_7, .inr (0, [.int a0_7_0, a0_7g_1, a0_7g_2, .int a0_7_3, a0_7g_4, .int a0_7_5, .int a0_7_6, a0_7g_7, a0_7g_8, a0_7g_9, a0_7g_10, a0_7g_11, a0_7g_12, a0_7g_13, a0_7g_14])), (a0_1, .inr (5, [a0_1g_0, .int a0_1_1, a0_1g_2, a0_1g_3, a0_1g_4, a0_1g_5, a0_1g_6]))] [] (fun A _ => True) (fun A => va_Ql (fun (r : Int64) (_ : Unit) => True) (fun (_ : Unit) (t : State) => ∃ na0_8 : Int32, ax_B dC dI A [(a0, .inr (7, [a0g_0, .ref a0_1, a0g_2, a0g_3, a0g_4, a0g_5, a0g_6, .ref a0_7, .int na0_8, a0g_9, a0g_10])), (a0_7, .inr (0, [.int a0_7_0, a0_7g_1, a0_7g_2, .int a0_7_3, a0_7g_4, .int a0_7_5, .int a0_7_6, a0_7g_7, a0_7g_8, a0_7g_9, a0_7g_10, a0_7g_11, a0_7g_12, a0_7g_13, a0_7g_14])), (a0_1, .inr (5, [a0_1g_0, .int a0_1_1, a0_1g_2, a0_1g_3, a0_1g_4, a0_1g_5, a0_1g_6]))] [] t) A) := by
  refine zh (cc := cX7_odds) (maxL := 11) (ret := (some .long)) zn_RX7 rfl (Nat.le_of_ble_eq_true rfl) (fun p e s m below meth c A ls hx hb hml hr hts (hown : s.vm.findClass RX7 = some m.cls) hlocks hA hS hP hK hD hE (hl : lv_has ls 11 [(0, .ref a0), (1, .int a1), (2, .int a2), (3, .int a3)]) => ?_)
  refine ai_open (fun K hK0 => ?_)
  refine (hK0 _ _ _).mpr ?_
  refine lv_aload_n hx hb dX7_odds_0 rfl (lv_at hl 0 rfl) ?_
  refine lv_iload_n hx hb dX7_odds_1 rfl (lv_at hl 1 rfl) ?_
  refine lv_iload_n hx hb dX7_odds_2 rfl (lv_at hl 2 rfl) ?_
  refine lv_bipush (v := 8) hx hb dX7_odds_3 zk_bipush_8 ?_
  refine va_calli (va_runV (As := [.int a1, .int a2, .int 8]) (rest := []) ⟨hx, hb, hml, hown, hts⟩ (c_X7_troubleOfFigureWithin l dC dI s.heap.size a0 a1 a2 8 a0g_0 (.ref a0_1) a0g_2 a0g_3 a0g_4 a0g_5 a0g_6 (.int a0_8) a0g_9 a0g_10 a0_7 a0_7_0 a0_7g_1 a0_7g_2 (.int a0_7_3) a0_7g_4 (.int a0_7_5) (.int a0_7_6) a0_7g_7 a0_7g_8 a0_7g_9 a0_7g_10 a0_7g_11 a0_7g_12 a0_7g_13 a0_7g_14 ba0_7_0_l ba0_7_0_u) (cwV 3 hts gX7_odds_X7_troubleOfFigureWithin rfl rfl rfl zd_X7_troubleOfFigureWithin ⟨Nat.le_of_ble_eq_true rfl, Nat.le_of_ble_eq_true rfl⟩) ⟨ax_blind (fun _ _ _ _ _ => trivial), zr_7 (zp_K hK) (zp_P2 hP) (q0 := 0) rfl, ax_pre (zp_P2 hP) (zp_K hK) (zp_D2 hD) (fun _ _ => trivial)⟩ rfl rfl hl.1 rfl (lv_room (Nat.le_of_ble_eq_true rfl)) dX7_odds_5 ⟨Nat.le_of_ble_eq_true rfl, Nat.le_of_ble_eq_true rfl⟩) hS (fun q _ h => zp_F2 hD hS hA q h) (zp_F2 hD hS hA) (fun r5 u t H locs ht hvm hw hB hz1 hk1 hS1 => zo2 hB ht hP hD hk1 (zp_F2 hD hS hA) hS1 (fun hP hK1 hD hS => ?_))
  rcases hw with hw | hw | hw
  · obtain ⟨hw, fh5, gh5, kh5, h5⟩ := hw
    subst hw
    have l5k0_a0_7_0 : (1 : Int) ≤ a0_7_0.toInt := fh5
    have l5k0_a1 : (0 : Int) ≤ a1.toInt := gh5
    have u5k0_a1 : a1.toInt ≤ (8 : Int) := kh5
    have l5k0_a2 : (0 : Int) ≤ a2.toInt := Int.le_trans zq5 h5.1
    have u5k0_a2 : a2.toInt ≤ (8 : Int) := Int.le_trans h5.2 zq28
    refine lv_istore (lv' := [(4, .int 0), (0, .ref a0), (1, .int a1), (2, .int a2), (3, .int a3)]) hx hb dX7_odds_8 hl (by decide) rfl (fun ls hl => ?_)
    refine lv_iload hx hb dX7_odds_10 (lv_at hl 0 rfl) ?_
    refine lv_if_eq (tgt := 23) hx hb dX7_odds_12 (by decide) (fun _ => ?_) (fun c12 => absurd (by decide +kernel) c12)
    refine lv_lconst (v := 1) hx hb dX7_odds_23 (by decide) ?_
    refine lv_lstore (lv' := [(5, .long 1), (4, .int 0), (0, .ref a0), (1, .int a1), (2, .int a2), (3, .int a3)]) hx hb dX7_odds_24 hl (by decide) rfl (fun ls hl => ?_)
    refine lv_lconst (v := 1) hx hb dX7_odds_26 (by decide) ?_
    refine lv_lstore (lv' := [(7, .long 1), (5, .long 1), (4, .int 0), (0, .ref a0), (1, .int a1), (2, .int a2), (3, .int a3)]) hx hb dX7_odds_27 hl (by decide) rfl (fun ls hl => ?_)
    refine lv_aload_n hx hb dX7_odds_29 rfl (lv_at hl 3 rfl) ?_
    refine lv_iload_n hx hb dX7_odds_30 rfl (lv_at hl 4 rfl) ?_
    refine lv_iload_n hx hb dX7_odds_31 rfl (lv_at hl 5 rfl) ?_
    refine zc_cutc (wc := [(a0, .inr (7, [a0g_0, .ref a0_1, a0g_2, a0g_3, a0g_4, a0g_5, a0g_6, .ref a0_7, .int a0_8, a0g_9, a0g_10])), (a0_1, .inr (5, [a0_1g_0, .int a0_1_1, a0_1g_2, a0_1g_3, a0_1g_4, a0_1g_5, a0_1g_6])), (a0_7, .inr (0, [.int a0_7_0, a0_7g_1, a0_7g_2, .int a0_7_3, a0_7g_4, .int a0_7_5, .int a0_7_6, a0_7g_7, a0_7g_8, a0_7g_9, a0_7g_10, a0_7g_11, a0_7g_12, a0_7g_13, a0_7g_14]))]) hP hD hS hA [0, 2, 1] (by decide +kernel) rfl (fun hPc hDc hFc hCc => ?_)
    have hKc := zp_K hK
    refine va_calli (va_runV (As := [.int a1, .int a2]) (rest := []) ⟨hx, hb, hml, hown, hts⟩ (c_X7_ownTurns l dC dI H.size a0 a1 a2 a0g_0 a0g_2 a0g_3 a0g_4 a0g_5 a0g_6 (.int a0_8) a0g_9 a0g_10 a0_1 a0_7 a0_1g_0 a0_1g_2 a0_1g_3 a0_1g_4 a0_1g_5 a0_1g_6 a0_1_1 a0_7_0 a0_7g_1 a0_7g_2 (.int a0_7_3) a0_7g_4 a0_7g_7 a0_7g_8 a0_7g_9 a0_7g_10 a0_7g_11 a0_7g_12 a0_7g_13 a0_7g_14 a0_7_5 a0_7_6 ba0_1_1_l ba0_1_1_u (Int.le_trans zq4 l5k0_a0_7_0) ba0_7_0_u ba0_7_5_l ba0_7_5_u ba0_7_6_l ba0_7_6_u) (cwV 2 hts gX7_odds_X7_ownTurns rfl rfl rfl zd_X7_ownTurns ⟨Nat.le_of_ble_eq_true rfl, Nat.le_of_ble_eq_true rfl⟩) ⟨ax_blind (fun _ _ _ _ _ => trivial), zr_7 hKc hPc (q0 := 0) rfl, ax_pre hPc hKc hDc (fun _ _ => trivial)⟩ rfl rfl hl.1 rfl (lv_room (Nat.le_of_ble_eq_true rfl)) dX7_odds_32 ⟨Nat.le_of_ble_eq_true rfl, Nat.le_of_ble_eq_true rfl⟩) hS (fun q _ h => hFc q h) hFc (fun r32 u t H locs ht hvm hw hB hz1 hk1 hS => zo hB ht (fun hP1 hK1 hD1 => ?_))
    refine zc_backc (w := [(a0, .inr (7, [a0g_0, .ref a0_1, a0g_2, a0g_3, a0g_4, a0g_5, a0g_6, .ref a0_7, .int a0_8, a0g_9, a0g_10])), (a0_7, .inr (0, [.int a0_7_0, a0_7g_1, a0_7g_2, .int a0_7_3, a0_7g_4, .int a0_7_5, .int a0_7_6, a0_7g_7, a0_7g_8, a0_7g_9, a0_7g_10, a0_7g_11, a0_7g_12, a0_7g_13, a0_7g_14])), (a0_1, .inr (5, [a0_1g_0, .int a0_1_1, a0_1g_2, a0_1g_3, a0_1g_4, a0_1g_5, a0_1g_6]))]) hP hD hCc hk1 hFc hP1 hD1 [.inr 0, .inr 2, .inr 1] (by decide +kernel) rfl (fun hP hD => ?_)
    refine lv_istore (lv' := [(9, .int r32), (7, .long 1), (5, .long 1), (4, .int 0), (0, .ref a0), (1, .int a1), (2, .int a2), (3, .int a3)]) hx hb dX7_odds_35 hl (by decide) rfl (fun ls hl => ?_)
    refine lv_iconst (v := 0) hx hb dX7_odds_37 zk_iconst_0 ?_
    refine lv_istore (lv' := [(10, .int 0), (9, .int r32), (7, .long 1), (5, .long 1), (4, .int 0), (0, .ref a0), (1, .int a1), (2, .int a2), (3, .int a3)]) hx hb dX7_odds_38 hl (by decide) rfl (fun ls hl => ?_)
    have J40 : ∀ (n : Nat) (j40l10 : Int32) (j40l7 : Int64) (j40l5 : Int64) (H : Heap) (locs : List Loc) (ls : Array Slot), (2147483648 : Int) - j40l10.toInt ≤ (n : Int) → (0 : Int) ≤ j40l10.toInt → va_P (dC, dI) vwCl [(a0, .inr (7, [a0g_0, .ref a0_1, a0g_2, a0g_3, a0g_4, a0g_5, a0g_6, .ref a0_7, .int a0_8, a0g_9, a0g_10])), (a0_7, .inr (0, [.int a0_7_0, a0_7g_1, a0_7g_2, .int a0_7_3, a0_7g_4, .int a0_7_5, .int a0_7_6, a0_7g_7, a0_7g_8, a0_7g_9, a0_7g_10, a0_7g_11, a0_7g_12, a0_7g_13, a0_7g_14])), (a0_1, .inr (5, [a0_1g_0, .int a0_1_1, a0_1g_2, a0_1g_3, a0_1g_4, a0_1g_5, a0_1g_6]))] H → va_D A [(a0, .inr (7, [a0g_0, .ref a0_1, a0g_2, a0g_3, a0g_4, a0g_5, a0g_6, .ref a0_7, .int a0_8, a0g_9, a0g_10])), (a0_7, .inr (0, [.int a0_7_0, a0_7g_1, a0_7g_2, .int a0_7_3, a0_7g_4, .int a0_7_5, .int a0_7_6, a0_7g_7, a0_7g_8, a0_7g_9, a0_7g_10, a0_7g_11, a0_7g_12, a0_7g_13, a0_7g_14])), (a0_1, .inr (5, [a0_1g_0, .int a0_1_1, a0_1g_2, a0_1g_3, a0_1g_4, a0_1g_5, a0_1g_6]))] → va_S A s.heap H locs → lv_has ls 11 [(0, .ref a0), (3, .int a3), (5, .long j40l5), (7, .long j40l7), (9, .int r32), (10, .int j40l10)] → K H locs (F0 m 40 ls []) := by
      intro n
      induction n with
      | zero =>
        intro j40l10 j40l7 j40l5 H locs ls hm bj40l10_l hP hD hS hl
        have h8 := ai_min j40l10
        have h9 := ai_max j40l10
        exact absurd hm (by omega)
      | succ n ih40 =>
        intro j40l10 j40l7 j40l5 H locs ls hm bj40l10_l hP hD hS hl
        refine (hK0 _ _ _).mpr ?_
        have hm40 := hm
        refine lv_iload hx hb dX7_odds_40 (lv_at hl 5 rfl) ?_
        refine lv_iload hx hb dX7_odds_42 (lv_at hl 4 rfl) ?_
        refine lv_icmp_ge (tgt := 74) hx hb dX7_odds_44 (by decide) (fun c44 => ?_) (fun c44 => ?_)
        · have gc44 := ai_le c44
          refine lv_aload_n hx hb dX7_odds_74 rfl (lv_at hl 0 rfl) ?_
          refine lv_iconst (v := 0) hx hb dX7_odds_75 zk_iconst_0 ?_
          refine va_put (D := (dC, dI)) (ci := 7) (v := .int 0) (ty := .int) (C := RX7) (T := TX7) (N := 11) hx hb hts zi_X7_odds_7 tyX7 tyX7_ok nmX7 hown hK hP hD hS 0 rfl rfl 8 (by decide) (hts (.fieldLink RX7 61 "WaxTurns" "latestTrouble" "I") (zm_X7_odds_r1 (List.mem_of_getElem? (i := 3) rfl))) (fun _ h9 => h9) rfl (tyX7_ok 8 (by decide)) rfl rfl (Nat.le_of_ble_eq_true rfl) dX7_odds_76 (fun H locs hP hD hS => ?_)
          refine zs_0 (y := (a0, .inr (7, [a0g_0, .ref a0_1, a0g_2, a0g_3, a0g_4, a0g_5, a0g_6, .ref a0_7, .int 0, a0g_9, a0g_10]))) hP hD rfl (fun hP hD => ?_)
          refine lv_lload hx hb dX7_odds_79 (lv_at hl 2 rfl) ?_
          refine lv_lload hx hb dX7_odds_81 (lv_at hl 3 rfl) ?_
          refine lv_lsub hx hb dX7_odds_83 ?_
          refine lv_topl (fun x83 ex83 => ?_)
          refine lv_lload hx hb dX7_odds_84 (lv_at hl 2 rfl) ?_
          refine lv_iload_n hx hb dX7_odds_86 rfl (lv_at hl 1 rfl) ?_
          refine va_calll (va_runS (As := [.long x83, .long j40l5, .int a3]) (rest := []) ⟨hx, hb, hml, hown, hts⟩ (c_X7_inLowestTerms l dC dI H.size x83 j40l5 a3 ) (va_cwS 3 hts gX7_odds_X7_inLowestTerms rfl rfl rfl zd_X7_inLowestTerms.2 ⟨Nat.le_of_ble_eq_true rfl, Nat.le_of_ble_eq_true rfl⟩) ⟨ax_blind (fun _ _ _ _ _ => trivial), ax_pre (zp_P0 hP) (zp_K hK) (zp_D0 hD) (fun _ _ => trivial)⟩ rfl rfl hl.1 rfl (lv_room (Nat.le_of_ble_eq_true rfl)) dX7_odds_87 ⟨Nat.le_of_ble_eq_true rfl, Nat.le_of_ble_eq_true rfl⟩) hS (fun q _ h => zp_F0 hD hS hA q h) (zp_F0 hD hS hA) (fun r87 u t H locs ht hvm hw hB hz1 hk1 hS1 => zo0 hB ht hP hD hk1 (zp_F0 hD hS hA) hS1 (fun hP hK1 hD hS => ?_))
          exact W.lret (v := r87) hx hb hr (fun t ht hW => ⟨⟨r87, (), rfl, trivial, 0, by rw [ht]; exact hP, va_K.moved hW.alike hK, hD⟩, hS.F ht⟩) hS.2.2 dX7_odds_90
        · have gc44 := ai_nle c44
          have u44f_j40l10 : j40l10.toInt ≤ (2147483646 : Int) := ai_lthi gc44 (ai_max r32)
          have l44f_r32 : (1 : Int) ≤ r32.toInt := ai_ltlo gc44 bj40l10_l
          refine lv_lload hx hb dX7_odds_47 (lv_at hl 2 rfl) ?_
          refine lv_ldc2 (v := 100) hx hb hown (hts (.constantLong RX7 314 (100)) (zm_X7_odds_r1 (List.mem_of_getElem? (i := 0) rfl))) dX7_odds_49 ?_
          refine lv_lmul hx hb dX7_odds_52 ?_
          refine lv_topl (fun x52 ex52 => ?_)
          refine lv_lstore (lv' := [(5, .long x52), (0, .ref a0), (3, .int a3), (7, .long j40l7), (9, .int r32), (10, .int j40l10)]) hx hb dX7_odds_53 hl (by decide) rfl (fun ls hl => ?_)
          refine lv_lload hx hb dX7_odds_55 (lv_at hl 3 rfl) ?_
          refine lv_aload_n hx hb dX7_odds_57 rfl (lv_at hl 1 rfl) ?_
          refine va_get (D := (dC, dI)) (ci := 7) (v := .ref a0_7) (C := RX7) (T := TX7) (N := 11) hx hb hts zi_X7_odds_7 hown hK hP 0 rfl rfl 7 (by decide) (hts (.fieldLink RX7 57 "WaxTurns" "hall" "LWaxTurns$Hall;") (zm_X7_odds_r1 (List.mem_of_getElem? (i := 1) rfl))) (fun _ h9 => h9) rfl dX7_odds_58 ?_
          refine va_get (D := (dC, dI)) (ci := 0) (v := .int a0_7_3) (C := RX0) (T := TX0) (N := 15) hx hb hts zi_X7_odds_0 hown hK hP 1 rfl rfl 3 (by decide) (hts (.fieldLink RX7 316 "WaxTurns$Hall" "shut" "I") (zm_X7_odds_r1 (List.mem_of_getElem? (i := 2) rfl))) (fun _ h9 => h9) rfl dX7_odds_61 ?_
          obtain ⟨x64, ex64⟩ : ∃ y : Int64, y = (a0_7_3 : Int32).toInt64 := ⟨_, rfl⟩
          refine lv_i2l (v := x64) hx hb dX7_odds_64 ex64.symm ?_
          refine lv_lmul hx hb dX7_odds_65 ?_
          refine lv_topl (fun x65 ex65 => ?_)
          refine lv_lstore (lv' := [(7, .long x65), (5, .long x52), (0, .ref a0), (3, .int a3), (9, .int r32), (10, .int j40l10)]) hx hb dX7_odds_66 hl (by decide) rfl (fun ls hl => ?_)
          obtain ⟨x68, ex68⟩ : ∃ y : Int32, y = j40l10 + Int32.ofInt 1 := ⟨_, rfl⟩
          have qx68 : x68.toInt = j40l10.toInt + 1 := ai_inc ex68 (by decide) (by decide) u44f_j40l10 (by decide)
          have bx68 : (1 : Int) ≤ x68.toInt ∧ x68.toInt ≤ 2147483647 := ⟨by rw [qx68]; exact Int.add_le_add bj40l10_l (Int.le_refl _), by rw [qx68]; exact Int.add_le_add u44f_j40l10 (Int.le_refl _)⟩
          refine lv_iinc (v := x68) (lv' := [(10, .int x68), (7, .long x65), (5, .long x52), (0, .ref a0), (3, .int a3), (9, .int r32)]) hx hb dX7_odds_68 hl (k := 5) rfl ex68.symm (by decide) rfl (fun ls hl => ?_)
          refine lv_goto (tgt := 40) hx hb dX7_odds_71 (by decide) ?_
          exact (hK0 _ _ _).mp (ih40 x68 x65 x52 _ _ _ (by have h0 := qx68; omega) (Int.le_trans zq4 bx68.1) hP hD hS (lv_sub hl [3, 4, 2, 1, 5, 0] rfl))
    exact (hK0 _ _ _).mp (J40 2147483648 0 1 1 _ _ _ (by have h1 : (0 : Int) ≤ (0 : Int32).toInt := zq5; have h2 : (0 : Int32).toInt ≤ (0 : Int) := zq6; omega) zq5 hP hD hS (lv_sub hl [5, 8, 3, 2, 1, 0] rfl))
  · subst hw
    refine lv_istore (lv' := [(4, .int 1), (0, .ref a0), (1, .int a1), (2, .int a2), (3, .int a3)]) hx hb dX7_odds_8 hl (by decide) rfl (fun ls hl => ?_)
    refine lv_iload hx hb dX7_odds_10 (lv_at hl 0 rfl) ?_
    refine lv_if_eq (tgt := 23) hx hb dX7_odds_12 (by decide) (fun c12 => absurd c12 (by decide +kernel)) (fun _ => ?_)
    refine lv_aload_n hx hb dX7_odds_15 rfl (lv_at hl 1 rfl) ?_
    refine lv_iload hx hb dX7_odds_16 (lv_at hl 0 rfl) ?_
    refine va_calli (va_runV (As := [.int 1]) (rest := []) ⟨hx, hb, hml, hown, hts⟩ (c_X7_refused l dC dI H.size a0 1 a0g_0 (.ref a0_1) a0g_2 a0g_3 a0g_4 a0g_5 a0g_6 (.ref a0_7) a0g_9 a0g_10 a0_8 ) (cwV 1 hts gX7_odds_X7_refused rfl rfl rfl zd_X7_refused ⟨Nat.le_of_ble_eq_true rfl, Nat.le_of_ble_eq_true rfl⟩) ⟨ax_blind (fun _ _ _ _ _ => trivial), zr_7 (zp_K hK) (zp_P1 hP) (q0 := 0) rfl, ax_pre (zp_P1 hP) (zp_K hK) (zp_D1 hD) (fun _ _ => trivial)⟩ rfl rfl hl.1 rfl (lv_room (Nat.le_of_ble_eq_true rfl)) dX7_odds_18 ⟨Nat.le_of_ble_eq_true rfl, Nat.le_of_ble_eq_true rfl⟩) hS (fun q _ h => zp_F1 hD hS hA q h) (zp_F1 hD hS hA) (fun r18 u t H locs ht hvm hw hB hz1 hk1 hS1 => zx_1 hB (fun v18na0_8 hB => zo1 hB ht hP hD hk1 (zp_F1 hD hS hA) hS1 (fun hP hK1 hD hS => ?_)))
    have hw : r18 = (-1) := hw
    have hw := hw.symm
    subst hw
    obtain ⟨x21, ex21⟩ : ∃ y : Int64, y = ((-1) : Int32).toInt64 := ⟨_, rfl⟩
    refine lv_i2l (v := x21) hx hb dX7_odds_21 ex21.symm ?_
    exact W.lret (v := x21) hx hb hr (fun t ht hW => ⟨⟨x21, (), rfl, trivial, v18na0_8, by rw [ht]; exact hP, va_K.moved hW.alike hK, hD⟩, hS.F ht⟩) hS.2.2 dX7_odds_22
  · subst hw
    refine lv_istore (lv' := [(4, .int 2), (0, .ref a0), (1, .int a1), (2, .int a2), (3, .int a3)]) hx hb dX7_odds_8 hl (by decide) rfl (fun ls hl => ?_)
    refine lv_iload hx hb dX7_odds_10 (lv_at hl 0 rfl) ?_
    refine lv_if_eq (tgt := 23) hx hb dX7_odds_12 (by decide) (fun c12 => absurd c12 (by decide +kernel)) (fun _ => ?_)
    refine lv_aload_n hx hb dX7_odds_15 rfl (lv_at hl 1 rfl) ?_
    refine lv_iload hx hb dX7_odds_16 (lv_at hl 0 rfl) ?_
    refine va_calli (va_runV (As := [.int 2]) (rest := []) ⟨hx, hb, hml, hown, hts⟩ (c_X7_refused l dC dI H.size a0 2 a0g_0 (.ref a0_1) a0g_2 a0g_3 a0g_4 a0g_5 a0g_6 (.ref a0_7) a0g_9 a0g_10 a0_8 ) (cwV 1 hts gX7_odds_X7_refused rfl rfl rfl zd_X7_refused ⟨Nat.le_of_ble_eq_true rfl, Nat.le_of_ble_eq_true rfl⟩) ⟨ax_blind (fun _ _ _ _ _ => trivial), zr_7 (zp_K hK) (zp_P1 hP) (q0 := 0) rfl, ax_pre (zp_P1 hP) (zp_K hK) (zp_D1 hD) (fun _ _ => trivial)⟩ rfl rfl hl.1 rfl (lv_room (Nat.le_of_ble_eq_true rfl)) dX7_odds_18 ⟨Nat.le_of_ble_eq_true rfl, Nat.le_of_ble_eq_true rfl⟩) hS (fun q _ h => zp_F1 hD hS hA q h) (zp_F1 hD hS hA) (fun r18 u t H locs ht hvm hw hB hz1 hk1 hS1 => zx_1 hB (fun v18na0_8 hB => zo1 hB ht hP hD hk1 (zp_F1 hD hS hA) hS1 (fun hP hK1 hD hS => ?_)))
    have hw : r18 = (-1) := hw
    have hw := hw.symm
    subst hw
    obtain ⟨x21, ex21⟩ : ∃ y : Int64, y = ((-1) : Int32).toInt64 := ⟨_, rfl⟩
    refine lv_i2l (v := x21) hx hb dX7_odds_21 ex21.symm ?_
    exact W.lret (v := x21) hx hb hr (fun t ht hW => ⟨⟨x21, (), rfl, trivial, v18na0_8, by rw [ht]; exact hP, va_K.moved hW.alike hK, hD⟩, hS.F ht⟩) hS.2.2 dX7_odds_22
end P121_safe
section P122_safe
set_option maxHeartbeats 4000000 in
set_option maxRecDepth 100000 in
theorem c_X7_mean (l : Launch) (dC : Nat → ClassId) (dI : Nat → Nat → Nat) (sz : Nat) (a0 : Nat) (a1 : Int32) (a2 : Int32) (a3 : Int32) (a0g_0 a0g_2 a0g_3 a0g_4 a0g_5 a0g_6 a0g_9 a0g_10 : Value) (a0_1 : Nat) (a0_7 : Nat) (a0_8 : Int32) (a0_7_0 : Int32) (a0_7g_1 a0_7g_2 a0_7g_4 a0_7g_7 a0_7g_8 a0_7g_9 a0_7g_10 a0_7g_11 a0_7g_12 a0_7g_13 a0_7g_14 : Value) (a0_7_3 : Int32) (a0_7_5 : Int32) (a0_7_6 : Int32) (a0_1g_0 a0_1g_2 a0_1g_3 a0_1g_4 a0_1g_5 a0_1g_6 : Value) (a0_1_1 : Int32) (ba0_7_0_l : (0 : Int) ≤ a0_7_0.toInt) (ba0_7_0_u : a0_7_0.toInt ≤ (9 : Int)) (ba0_7_5_l : (0 : Int) ≤ a0_7_5.toInt) (ba0_7_5_u : a0_7_5.toInt ≤ (8 : Int)) (ba0_7_6_l : (0 : Int) ≤ a0_7_6.toInt) (ba0_7_6_u : a0_7_6.toInt ≤ (8 : Int)) (ba0_1_1_l : (0 : Int) ≤ a0_1_1.toInt) (ba0_1_1_u : a0_1_1.toInt ≤ (8 : Int)) : zm l yX7_mean wsX7_mean ({ frames := 3, cells := 0, slots := 0, locals := 66 }) [.ref a0, .int a1, .int a2, .int a3] dC dI sz [(a0, .inr (7, [a0g_0, .ref a0_1, a0g_2, a0g_3, a0g_4, a0g_5, a0g_6, .ref a0_7, .int a0_8, a0g_9, a0g_10])), (a0_7, .inr (0, [.int a0_7_0, a0_7g_1, a0_7g_2, .int a0_7_3, a0_7g_4, .int a0_7_5, .int a0_7_6, a0_7g_7, a0_7g_8, a0_7g_9, a0_7g_10, a0_7g_11, a0_7g_12, a0_7g_13, a0_7g_14])), (a0_1, .inr (5, [a0_1g_0, .int a0_1_1, a0_1g_2, a0_1g_3, a0_1g_4, a0_1g_5, a0_1g_6]))] [] (fun A _ => True) (fun A => va_Ql (fun (r : Int64) (_ : Unit) => True) (fun (_ : Unit) (t : State) => ∃ na0_8 : Int32, ax_B dC dI A [(a0, .inr (7, [a0g_0, .ref a0_1, a0g_2, a0g_3, a0g_4, a0g_5, a0g_6, .ref a0_7, .int na0_8, a0g_9, a0g_10])), (a0_7, .inr (0, [.int a0_7_0, a0_7g_1, a0_7g_2, .int a0_7_3, a0_7g_4, .int a0_7_5, .int a0_7_6, a0_7g_7, a0_7g_8, a0_7g_9, a0_7g_10, a0_7g_11, a0_7g_12, a0_7g_13, a0_7g_14])), (a0_1, .inr (5, [a0_1g_0, .int a0_1_1, a0_1g_2, a0_1g_3, a0_1g_4, a0_1g_5, a0_1g_6]))] [] t) A) := by
  refine zh (cc := cX7_mean) (maxL := 5) (ret := (some .long)) zn_RX7 rfl (Nat.le_of_ble_eq_true rfl) (fun p e s m below meth c A ls hx hb hml hr hts (hown : s.vm.findClass RX7 = some m.cls) hlocks hA hS hP hK hD hE (hl : lv_has ls 5 [(0, .ref a0), (1, .int a1), (2, .int a2), (3, .int a3)]) => ?_)
  refine lv_aload_n hx hb dX7_mean_0 rfl (lv_at hl 0 rfl) ?_
  refine lv_iload_n hx hb dX7_mean_1 rfl (lv_at hl 1 rfl) ?_
  refine lv_iload_n hx hb dX7_mean_2 rfl (lv_at hl 2 rfl) ?_
  refine lv_bipush (v := 8) hx hb dX7_mean_3 zk_bipush_8 ?_
  refine va_calli (va_runV (As := [.int a1, .int a2, .int 8]) (rest := []) ⟨hx, hb, hml, hown, hts⟩ (c_X7_troubleOfFigureWithin l dC dI s.heap.size a0 a1 a2 8 a0g_0 (.ref a0_1) a0g_2 a0g_3 a0g_4 a0g_5 a0g_6 (.int a0_8) a0g_9 a0g_10 a0_7 a0_7_0 a0_7g_1 a0_7g_2 (.int a0_7_3) a0_7g_4 (.int a0_7_5) (.int a0_7_6) a0_7g_7 a0_7g_8 a0_7g_9 a0_7g_10 a0_7g_11 a0_7g_12 a0_7g_13 a0_7g_14 ba0_7_0_l ba0_7_0_u) (cwV 3 hts gX7_mean_X7_troubleOfFigureWithin rfl rfl rfl zd_X7_troubleOfFigureWithin ⟨Nat.le_of_ble_eq_true rfl, Nat.le_of_ble_eq_true rfl⟩) ⟨ax_blind (fun _ _ _ _ _ => trivial), zr_7 (zp_K hK) (zp_P2 hP) (q0 := 0) rfl, ax_pre (zp_P2 hP) (zp_K hK) (zp_D2 hD) (fun _ _ => trivial)⟩ rfl rfl hl.1 rfl (lv_room (Nat.le_of_ble_eq_true rfl)) dX7_mean_5 ⟨Nat.le_of_ble_eq_true rfl, Nat.le_of_ble_eq_true rfl⟩) hS (fun q _ h => zp_F2 hD hS hA q h) (zp_F2 hD hS hA) (fun r5 u t H locs ht hvm hw hB hz1 hk1 hS1 => zo2 hB ht hP hD hk1 (zp_F2 hD hS hA) hS1 (fun hP hK1 hD hS => ?_))
  rcases hw with hw | hw | hw
  · obtain ⟨hw, fh5, gh5, kh5, h5⟩ := hw
    subst hw
    have l5k0_a0_7_0 : (1 : Int) ≤ a0_7_0.toInt := fh5
    have l5k0_a1 : (0 : Int) ≤ a1.toInt := gh5
    have u5k0_a1 : a1.toInt ≤ (8 : Int) := kh5
    have l5k0_a2 : (0 : Int) ≤ a2.toInt := Int.le_trans zq5 h5.1
    have u5k0_a2 : a2.toInt ≤ (8 : Int) := Int.le_trans h5.2 zq28
    refine lv_istore (lv' := [(4, .int 0), (0, .ref a0), (1, .int a1), (2, .int a2), (3, .int a3)]) hx hb dX7_mean_8 hl (by decide) rfl (fun ls hl => ?_)
    refine lv_iload hx hb dX7_mean_10 (lv_at hl 0 rfl) ?_
    refine lv_if_eq (tgt := 23) hx hb dX7_mean_12 (by decide) (fun _ => ?_) (fun c12 => absurd (by decide +kernel) c12)
    refine lv_aload_n hx hb dX7_mean_23 rfl (lv_at hl 1 rfl) ?_
    refine lv_iconst (v := 0) hx hb dX7_mean_24 zk_iconst_0 ?_
    refine va_put (D := (dC, dI)) (ci := 7) (v := .int 0) (ty := .int) (C := RX7) (T := TX7) (N := 11) hx hb hts zi_X7_mean_7 tyX7 tyX7_ok nmX7 hown hK hP hD hS 0 rfl rfl 8 (by decide) (hts (.fieldLink RX7 61 "WaxTurns" "latestTrouble" "I") (zm_X7_mean_r1 (List.mem_of_getElem? (i := 0) rfl))) (fun _ h9 => h9) rfl (tyX7_ok 8 (by decide)) rfl rfl (Nat.le_of_ble_eq_true rfl) dX7_mean_25 (fun H locs hP hD hS => ?_)
    refine zs_0 (y := (a0, .inr (7, [a0g_0, .ref a0_1, a0g_2, a0g_3, a0g_4, a0g_5, a0g_6, .ref a0_7, .int 0, a0g_9, a0g_10]))) hP hD rfl (fun hP hD => ?_)
    refine lv_aload_n hx hb dX7_mean_28 rfl (lv_at hl 1 rfl) ?_
    refine lv_iload_n hx hb dX7_mean_29 rfl (lv_at hl 2 rfl) ?_
    refine lv_iload_n hx hb dX7_mean_30 rfl (lv_at hl 3 rfl) ?_
    refine zc_cutc (wc := [(a0, .inr (7, [a0g_0, .ref a0_1, a0g_2, a0g_3, a0g_4, a0g_5, a0g_6, .ref a0_7, .int 0, a0g_9, a0g_10])), (a0_1, .inr (5, [a0_1g_0, .int a0_1_1, a0_1g_2, a0_1g_3, a0_1g_4, a0_1g_5, a0_1g_6])), (a0_7, .inr (0, [.int a0_7_0, a0_7g_1, a0_7g_2, .int a0_7_3, a0_7g_4, .int a0_7_5, .int a0_7_6, a0_7g_7, a0_7g_8, a0_7g_9, a0_7g_10, a0_7g_11, a0_7g_12, a0_7g_13, a0_7g_14]))]) hP hD hS hA [0, 2, 1] (by decide +kernel) rfl (fun hPc hDc hFc hCc => ?_)
    have hKc := zp_K hK
    refine va_calli (va_runV (As := [.int a1, .int a2]) (rest := []) ⟨hx, hb, hml, hown, hts⟩ (c_X7_ownTurns l dC dI H.size a0 a1 a2 a0g_0 a0g_2 a0g_3 a0g_4 a0g_5 a0g_6 (.int 0) a0g_9 a0g_10 a0_1 a0_7 a0_1g_0 a0_1g_2 a0_1g_3 a0_1g_4 a0_1g_5 a0_1g_6 a0_1_1 a0_7_0 a0_7g_1 a0_7g_2 (.int a0_7_3) a0_7g_4 a0_7g_7 a0_7g_8 a0_7g_9 a0_7g_10 a0_7g_11 a0_7g_12 a0_7g_13 a0_7g_14 a0_7_5 a0_7_6 ba0_1_1_l ba0_1_1_u (Int.le_trans zq4 l5k0_a0_7_0) ba0_7_0_u ba0_7_5_l ba0_7_5_u ba0_7_6_l ba0_7_6_u) (cwV 2 hts gX7_mean_X7_ownTurns rfl rfl rfl zd_X7_ownTurns ⟨Nat.le_of_ble_eq_true rfl, Nat.le_of_ble_eq_true rfl⟩) ⟨ax_blind (fun _ _ _ _ _ => trivial), zr_7 hKc hPc (q0 := 0) rfl, ax_pre hPc hKc hDc (fun _ _ => trivial)⟩ rfl rfl hl.1 rfl (lv_room (Nat.le_of_ble_eq_true rfl)) dX7_mean_31 ⟨Nat.le_of_ble_eq_true rfl, Nat.le_of_ble_eq_true rfl⟩) hS (fun q _ h => hFc q h) hFc (fun r31 u t H locs ht hvm hw hB hz1 hk1 hS => zo hB ht (fun hP1 hK1 hD1 => ?_))
    refine zc_backc (w := [(a0, .inr (7, [a0g_0, .ref a0_1, a0g_2, a0g_3, a0g_4, a0g_5, a0g_6, .ref a0_7, .int 0, a0g_9, a0g_10])), (a0_7, .inr (0, [.int a0_7_0, a0_7g_1, a0_7g_2, .int a0_7_3, a0_7g_4, .int a0_7_5, .int a0_7_6, a0_7g_7, a0_7g_8, a0_7g_9, a0_7g_10, a0_7g_11, a0_7g_12, a0_7g_13, a0_7g_14])), (a0_1, .inr (5, [a0_1g_0, .int a0_1_1, a0_1g_2, a0_1g_3, a0_1g_4, a0_1g_5, a0_1g_6]))]) hP hD hCc hk1 hFc hP1 hD1 [.inr 0, .inr 2, .inr 1] (by decide +kernel) rfl (fun hP hD => ?_)
    obtain ⟨x34, ex34⟩ : ∃ y : Int64, y = (r31 : Int32).toInt64 := ⟨_, rfl⟩
    refine lv_i2l (v := x34) hx hb dX7_mean_34 ex34.symm ?_
    refine lv_bipush (v := 100) hx hb dX7_mean_35 zk_bipush_100 ?_
    refine lv_aload_n hx hb dX7_mean_37 rfl (lv_at hl 1 rfl) ?_
    refine va_get (D := (dC, dI)) (ci := 7) (v := .ref a0_7) (C := RX7) (T := TX7) (N := 11) hx hb hts zi_X7_mean_7 hown hK hP 0 rfl rfl 7 (by decide) (hts (.fieldLink RX7 57 "WaxTurns" "hall" "LWaxTurns$Hall;") (zm_X7_mean_r1 (List.mem_of_getElem? (i := 1) rfl))) (fun _ h9 => h9) rfl dX7_mean_38 ?_
    refine va_get (D := (dC, dI)) (ci := 0) (v := .int a0_7_3) (C := RX0) (T := TX0) (N := 15) hx hb hts zi_X7_mean_0 hown hK hP 1 rfl rfl 3 (by decide) (hts (.fieldLink RX7 316 "WaxTurns$Hall" "shut" "I") (zm_X7_mean_r1 (List.mem_of_getElem? (i := 2) rfl))) (fun _ h9 => h9) rfl dX7_mean_41 ?_
    refine lv_isub hx hb dX7_mean_44 ?_
    refine lv_topi (fun x44 ex44 => ?_)
    obtain ⟨x45, ex45⟩ : ∃ y : Int64, y = (x44 : Int32).toInt64 := ⟨_, rfl⟩
    refine lv_i2l (v := x45) hx hb dX7_mean_45 ex45.symm ?_
    refine lv_lmul hx hb dX7_mean_46 ?_
    refine lv_topl (fun x46 ex46 => ?_)
    refine lv_ldc2 (v := 100) hx hb hown (hts (.constantLong RX7 314 (100)) (zm_X7_mean_r1 (List.mem_of_getElem? (i := 3) rfl))) dX7_mean_47 ?_
    refine lv_iload_n hx hb dX7_mean_50 rfl (lv_at hl 4 rfl) ?_
    refine va_calll (va_runS (As := [.long x46, .long 100, .int a3]) (rest := []) ⟨hx, hb, hml, hown, hts⟩ (c_X7_inLowestTerms l dC dI H.size x46 100 a3 ) (va_cwS 3 hts gX7_mean_X7_inLowestTerms rfl rfl rfl zd_X7_inLowestTerms.2 ⟨Nat.le_of_ble_eq_true rfl, Nat.le_of_ble_eq_true rfl⟩) ⟨ax_blind (fun _ _ _ _ _ => trivial), ax_pre (zp_P0 hP) (zp_K hK) (zp_D0 hD) (fun _ _ => trivial)⟩ rfl rfl hl.1 rfl (lv_room (Nat.le_of_ble_eq_true rfl)) dX7_mean_51 ⟨Nat.le_of_ble_eq_true rfl, Nat.le_of_ble_eq_true rfl⟩) hS (fun q _ h => zp_F0 hD hS hA q h) (zp_F0 hD hS hA) (fun r51 u t H locs ht hvm hw hB hz1 hk1 hS1 => zo0 hB ht hP hD hk1 (zp_F0 hD hS hA) hS1 (fun hP hK1 hD hS => ?_))
    exact W.lret (v := r51) hx hb hr (fun t ht hW => ⟨⟨r51, (), rfl, trivial, 0, by rw [ht]; exact hP, va_K.moved hW.alike hK, hD⟩, hS.F ht⟩) hS.2.2 dX7_mean_54
  · subst hw
    refine lv_istore (lv' := [(4, .int 1), (0, .ref a0), (1, .int a1), (2, .int a2), (3, .int a3)]) hx hb dX7_mean_8 hl (by decide) rfl (fun ls hl => ?_)
    refine lv_iload hx hb dX7_mean_10 (lv_at hl 0 rfl) ?_
    refine lv_if_eq (tgt := 23) hx hb dX7_mean_12 (by decide) (fun c12 => absurd c12 (by decide +kernel)) (fun _ => ?_)
    refine lv_aload_n hx hb dX7_mean_15 rfl (lv_at hl 1 rfl) ?_
    refine lv_iload hx hb dX7_mean_16 (lv_at hl 0 rfl) ?_
    refine va_calli (va_runV (As := [.int 1]) (rest := []) ⟨hx, hb, hml, hown, hts⟩ (c_X7_refused l dC dI H.size a0 1 a0g_0 (.ref a0_1) a0g_2 a0g_3 a0g_4 a0g_5 a0g_6 (.ref a0_7) a0g_9 a0g_10 a0_8 ) (cwV 1 hts gX7_mean_X7_refused rfl rfl rfl zd_X7_refused ⟨Nat.le_of_ble_eq_true rfl, Nat.le_of_ble_eq_true rfl⟩) ⟨ax_blind (fun _ _ _ _ _ => trivial), zr_7 (zp_K hK) (zp_P1 hP) (q0 := 0) rfl, ax_pre (zp_P1 hP) (zp_K hK) (zp_D1 hD) (fun _ _ => trivial)⟩ rfl rfl hl.1 rfl (lv_room (Nat.le_of_ble_eq_true rfl)) dX7_mean_18 ⟨Nat.le_of_ble_eq_true rfl, Nat.le_of_ble_eq_true rfl⟩) hS (fun q _ h => zp_F1 hD hS hA q h) (zp_F1 hD hS hA) (fun r18 u t H locs ht hvm hw hB hz1 hk1 hS1 => zx_1 hB (fun v18na0_8 hB => zo1 hB ht hP hD hk1 (zp_F1 hD hS hA) hS1 (fun hP hK1 hD hS => ?_)))
    have hw : r18 = (-1) := hw
    have hw := hw.symm
    subst hw
    obtain ⟨x21, ex21⟩ : ∃ y : Int64, y = ((-1) : Int32).toInt64 := ⟨_, rfl⟩
    refine lv_i2l (v := x21) hx hb dX7_mean_21 ex21.symm ?_
    exact W.lret (v := x21) hx hb hr (fun t ht hW => ⟨⟨x21, (), rfl, trivial, v18na0_8, by rw [ht]; exact hP, va_K.moved hW.alike hK, hD⟩, hS.F ht⟩) hS.2.2 dX7_mean_22
  · subst hw
    refine lv_istore (lv' := [(4, .int 2), (0, .ref a0), (1, .int a1), (2, .int a2), (3, .int a3)]) hx hb dX7_mean_8 hl (by decide) rfl (fun ls hl => ?_)
    refine lv_iload hx hb dX7_mean_10 (lv_at hl 0 rfl) ?_
    refine lv_if_eq (tgt := 23) hx hb dX7_mean_12 (by decide) (fun c12 => absurd c12 (by decide +kernel)) (fun _ => ?_)
    refine lv_aload_n hx hb dX7_mean_15 rfl (lv_at hl 1 rfl) ?_
    refine lv_iload hx hb dX7_mean_16 (lv_at hl 0 rfl) ?_
    refine va_calli (va_runV (As := [.int 2]) (rest := []) ⟨hx, hb, hml, hown, hts⟩ (c_X7_refused l dC dI H.size a0 2 a0g_0 (.ref a0_1) a0g_2 a0g_3 a0g_4 a0g_5 a0g_6 (.ref a0_7) a0g_9 a0g_10 a0_8 ) (cwV 1 hts gX7_mean_X7_refused rfl rfl rfl zd_X7_refused ⟨Nat.le_of_ble_eq_true rfl, Nat.le_of_ble_eq_true rfl⟩) ⟨ax_blind (fun _ _ _ _ _ => trivial), zr_7 (zp_K hK) (zp_P1 hP) (q0 := 0) rfl, ax_pre (zp_P1 hP) (zp_K hK) (zp_D1 hD) (fun _ _ => trivial)⟩ rfl rfl hl.1 rfl (lv_room (Nat.le_of_ble_eq_true rfl)) dX7_mean_18 ⟨Nat.le_of_ble_eq_true rfl, Nat.le_of_ble_eq_true rfl⟩) hS (fun q _ h => zp_F1 hD hS hA q h) (zp_F1 hD hS hA) (fun r18 u t H locs ht hvm hw hB hz1 hk1 hS1 => zx_1 hB (fun v18na0_8 hB => zo1 hB ht hP hD hk1 (zp_F1 hD hS hA) hS1 (fun hP hK1 hD hS => ?_)))
    have hw : r18 = (-1) := hw
    have hw := hw.symm
    subst hw
    obtain ⟨x21, ex21⟩ : ∃ y : Int64, y = ((-1) : Int32).toInt64 := ⟨_, rfl⟩
    refine lv_i2l (v := x21) hx hb dX7_mean_21 ex21.symm ?_
    exact W.lret (v := x21) hx hb hr (fun t ht hW => ⟨⟨x21, (), rfl, trivial, v18na0_8, by rw [ht]; exact hP, va_K.moved hW.alike hK, hD⟩, hS.F ht⟩) hS.2.2 dX7_mean_22

set_option maxHeartbeats 4000000 in
set_option maxRecDepth 100000 in
theorem c_X7_drawn (l : Launch) (dC : Nat → ClassId) (dI : Nat → Nat → Nat) (sz : Nat) (a0 : Nat) (a1 : Int32) (a2 : Int32) (a3 : Int32) (a0g_0 a0g_2 a0g_3 a0g_4 a0g_5 a0g_6 a0g_9 a0g_10 : Value) (a0_1 : Nat) (a0_7 : Nat) (a0_8 : Int32) (a0_7_0 : Int32) (a0_7g_1 a0_7g_2 a0_7g_4 a0_7g_7 a0_7g_8 a0_7g_9 a0_7g_10 a0_7g_11 a0_7g_12 a0_7g_13 a0_7g_14 : Value) (a0_7_3 : Int32) (a0_7_5 : Int32) (a0_7_6 : Int32) (a0_1g_0 a0_1g_2 a0_1g_3 a0_1g_4 a0_1g_5 a0_1g_6 : Value) (a0_1_1 : Int32) (ba0_7_0_l : (0 : Int) ≤ a0_7_0.toInt) (ba0_7_0_u : a0_7_0.toInt ≤ (9 : Int)) (ba0_7_5_l : (0 : Int) ≤ a0_7_5.toInt) (ba0_7_5_u : a0_7_5.toInt ≤ (8 : Int)) (ba0_7_6_l : (0 : Int) ≤ a0_7_6.toInt) (ba0_7_6_u : a0_7_6.toInt ≤ (8 : Int)) (ba0_1_1_l : (0 : Int) ≤ a0_1_1.toInt) (ba0_1_1_u : a0_1_1.toInt ≤ (8 : Int)) : zm l yX7_drawn wsX7_drawn ({ frames := 2, cells := 0, slots := 0, locals := 43 }) [.ref a0, .int a1, .int a2, .int a3] dC dI sz [(a0, .inr (7, [a0g_0, .ref a0_1, a0g_2, a0g_3, a0g_4, a0g_5, a0g_6, .ref a0_7, .int a0_8, a0g_9, a0g_10])), (a0_7, .inr (0, [.int a0_7_0, a0_7g_1, a0_7g_2, .int a0_7_3, a0_7g_4, .int a0_7_5, .int a0_7_6, a0_7g_7, a0_7g_8, a0_7g_9, a0_7g_10, a0_7g_11, a0_7g_12, a0_7g_13, a0_7g_14])), (a0_1, .inr (5, [a0_1g_0, .int a0_1_1, a0_1g_2, a0_1g_3, a0_1g_4, a0_1g_5, a0_1g_6]))] [] (fun A _ => True) (fun A => va_Qi (fun (r : Int32) (_ : Unit) => True) (fun (_ : Unit) (t : State) => ∃ na0_8 : Int32, ax_B dC dI A [(a0, .inr (7, [a0g_0, .ref a0_1, a0g_2, a0g_3, a0g_4, a0g_5, a0g_6, .ref a0_7, .int na0_8, a0g_9, a0g_10])), (a0_7, .inr (0, [.int a0_7_0, a0_7g_1, a0_7g_2, .int a0_7_3, a0_7g_4, .int a0_7_5, .int a0_7_6, a0_7g_7, a0_7g_8, a0_7g_9, a0_7g_10, a0_7g_11, a0_7g_12, a0_7g_13, a0_7g_14])), (a0_1, .inr (5, [a0_1g_0, .int a0_1_1, a0_1g_2, a0_1g_3, a0_1g_4, a0_1g_5, a0_1g_6]))] [] t) A) := by
  refine zh (cc := cX7_drawn) (maxL := 8) (ret := (some .int)) zn_RX7 rfl (Nat.le_of_ble_eq_true rfl) (fun p e s m below meth c A ls hx hb hml hr hts (hown : s.vm.findClass RX7 = some m.cls) hlocks hA hS hP hK hD hE (hl : lv_has ls 8 [(0, .ref a0), (1, .int a1), (2, .int a2), (3, .int a3)]) => ?_)
  refine ai_open (fun K hK0 => ?_)
  refine (hK0 _ _ _).mpr ?_
  refine lv_aload_n hx hb dX7_drawn_0 rfl (lv_at hl 0 rfl) ?_
  refine lv_iload_n hx hb dX7_drawn_1 rfl (lv_at hl 1 rfl) ?_
  refine va_calli (va_runV (As := [.int a1]) (rest := []) ⟨hx, hb, hml, hown, hts⟩ (c_X7_isFigure l dC dI s.heap.size a0 a1 a0g_0 (.ref a0_1) a0g_2 a0g_3 a0g_4 a0g_5 a0g_6 (.int a0_8) a0g_9 a0g_10 a0_7 a0_7_0 a0_7g_1 a0_7g_2 (.int a0_7_3) a0_7g_4 (.int a0_7_5) (.int a0_7_6) a0_7g_7 a0_7g_8 a0_7g_9 a0_7g_10 a0_7g_11 a0_7g_12 a0_7g_13 a0_7g_14 ba0_7_0_l ba0_7_0_u) (cwV 1 hts gX7_drawn_X7_isFigure rfl rfl rfl zd_X7_isFigure ⟨Nat.le_of_ble_eq_true rfl, Nat.le_of_ble_eq_true rfl⟩) ⟨ax_blind (fun _ _ _ _ _ => trivial), zr_7 (zp_K hK) (zp_P2 hP) (q0 := 0) rfl, ax_pre (zp_P2 hP) (zp_K hK) (zp_D2 hD) (fun _ _ => trivial)⟩ rfl rfl hl.1 rfl (lv_room (Nat.le_of_ble_eq_true rfl)) dX7_drawn_2 ⟨Nat.le_of_ble_eq_true rfl, Nat.le_of_ble_eq_true rfl⟩) hS (fun q _ h => zp_F2 hD hS hA q h) (zp_F2 hD hS hA) (fun r2 u t H locs ht hvm hw hB hz1 hk1 hS1 => zo2 hB ht hP hD hk1 (zp_F2 hD hS hA) hS1 (fun hP hK1 hD hS => ?_))
  rcases hw with hw | hw
  · obtain ⟨hw, h2_0, h2_1, h2_2, h2_3⟩ := hw
    subst hw
    have l2k0_a1 : (0 : Int) ≤ a1.toInt := h2_0
    have u2k0_a1 : a1.toInt ≤ (8 : Int) := h2_1
    have l2k0_a0_7_0 : (1 : Int) ≤ a0_7_0.toInt := h2_2
    have u2k0_a0_7_0 : a0_7_0.toInt ≤ (9 : Int) := ba0_7_0_u
    refine lv_if_ne (tgt := 14) hx hb dX7_drawn_5 (by decide) (fun _ => ?_) (fun c5 => absurd c5 (by decide +kernel))
    refine lv_iload_n hx hb dX7_drawn_14 rfl (lv_at hl 2 rfl) ?_
    refine lv_iconst (v := 0) hx hb dX7_drawn_15 zk_iconst_0 ?_
    refine lv_ldcw (v := 65536) hx hb hown (hts (.constant RX7 323 (65536)) (zm_X7_drawn_r1 (List.mem_of_getElem? (i := 0) rfl))) dX7_drawn_16 ?_
    refine va_calli (va_runS (As := [.int a2, .int 0, .int 65536]) (rest := []) ⟨hx, hb, hml, hown, hts⟩ (c_X7_within l dC dI H.size a2 0 65536 ) (va_cwS 3 hts gX7_drawn_X7_within rfl rfl rfl zd_X7_within.2 ⟨Nat.le_of_ble_eq_true rfl, Nat.le_of_ble_eq_true rfl⟩) ⟨ax_blind (fun _ _ _ _ _ => trivial), ax_pre (zp_P0 hP) (zp_K hK) (zp_D0 hD) (fun _ _ => trivial)⟩ rfl rfl hl.1 rfl (lv_room (Nat.le_of_ble_eq_true rfl)) dX7_drawn_19 ⟨Nat.le_of_ble_eq_true rfl, Nat.le_of_ble_eq_true rfl⟩) hS (fun q _ h => zp_F0 hD hS hA q h) (zp_F0 hD hS hA) (fun r19 u t H locs ht hvm hw hB hz1 hk1 hS1 => zo0 hB ht hP hD hk1 (zp_F0 hD hS hA) hS1 (fun hP hK1 hD hS => ?_))
    rcases hw with hw | hw
    · obtain ⟨hw, h19⟩ := hw
      subst hw
      have l19k0_a2 : (0 : Int) ≤ a2.toInt := Int.le_trans zq5 h19.1
      have u19k0_a2 : a2.toInt ≤ (65536 : Int) := Int.le_trans h19.2 zq105
      refine lv_if_eq (tgt := 36) hx hb dX7_drawn_22 (by decide) (fun c22 => absurd c22 (by decide +kernel)) (fun _ => ?_)
      have J36 : ∀ (H : Heap) (locs : List Loc) (ls : Array Slot), va_P (dC, dI) vwCl [(a0, .inr (7, [a0g_0, .ref a0_1, a0g_2, a0g_3, a0g_4, a0g_5, a0g_6, .ref a0_7, .int a0_8, a0g_9, a0g_10])), (a0_7, .inr (0, [.int a0_7_0, a0_7g_1, a0_7g_2, .int a0_7_3, a0_7g_4, .int a0_7_5, .int a0_7_6, a0_7g_7, a0_7g_8, a0_7g_9, a0_7g_10, a0_7g_11, a0_7g_12, a0_7g_13, a0_7g_14])), (a0_1, .inr (5, [a0_1g_0, .int a0_1_1, a0_1g_2, a0_1g_3, a0_1g_4, a0_1g_5, a0_1g_6]))] H → va_D A [(a0, .inr (7, [a0g_0, .ref a0_1, a0g_2, a0g_3, a0g_4, a0g_5, a0g_6, .ref a0_7, .int a0_8, a0g_9, a0g_10])), (a0_7, .inr (0, [.int a0_7_0, a0_7g_1, a0_7g_2, .int a0_7_3, a0_7g_4, .int a0_7_5, .int a0_7_6, a0_7g_7, a0_7g_8, a0_7g_9, a0_7g_10, a0_7g_11, a0_7g_12, a0_7g_13, a0_7g_14])), (a0_1, .inr (5, [a0_1g_0, .int a0_1_1, a0_1g_2, a0_1g_3, a0_1g_4, a0_1g_5, a0_1g_6]))] → va_S A s.heap H locs → lv_has ls 8 [(0, .ref a0)] → K H locs (F0 m 36 ls []) := by
        intro  H locs ls   hP hD hS hl
        refine (hK0 _ _ _).mpr ?_
        refine lv_aload_n hx hb dX7_drawn_36 rfl (lv_at hl 0 rfl) ?_
        refine lv_iconst (v := 2) hx hb dX7_drawn_37 zk_iconst_2 ?_
        refine va_calli (va_runV (As := [.int 2]) (rest := []) ⟨hx, hb, hml, hown, hts⟩ (c_X7_refused l dC dI H.size a0 2 a0g_0 (.ref a0_1) a0g_2 a0g_3 a0g_4 a0g_5 a0g_6 (.ref a0_7) a0g_9 a0g_10 a0_8 ) (cwV 1 hts gX7_drawn_X7_refused rfl rfl rfl zd_X7_refused ⟨Nat.le_of_ble_eq_true rfl, Nat.le_of_ble_eq_true rfl⟩) ⟨ax_blind (fun _ _ _ _ _ => trivial), zr_7 (zp_K hK) (zp_P1 hP) (q0 := 0) rfl, ax_pre (zp_P1 hP) (zp_K hK) (zp_D1 hD) (fun _ _ => trivial)⟩ rfl rfl hl.1 rfl (lv_room (Nat.le_of_ble_eq_true rfl)) dX7_drawn_38 ⟨Nat.le_of_ble_eq_true rfl, Nat.le_of_ble_eq_true rfl⟩) hS (fun q _ h => zp_F1 hD hS hA q h) (zp_F1 hD hS hA) (fun r38 u t H locs ht hvm hw hB hz1 hk1 hS1 => zx_1 hB (fun v38na0_8 hB => zo1 hB ht hP hD hk1 (zp_F1 hD hS hA) hS1 (fun hP hK1 hD hS => ?_)))
        have hw : r38 = (-1) := hw
        have hw := hw.symm
        subst hw
        exact W.iret (v := (-1)) hx hb hr (fun t ht hW => ⟨⟨(-1), (), rfl, trivial, v38na0_8, by rw [ht]; exact hP, va_K.moved hW.alike hK, hD⟩, hS.F ht⟩) hS.2.2 dX7_drawn_41
      refine lv_iload_n hx hb dX7_drawn_25 rfl (lv_at hl 3 rfl) ?_
      refine lv_iconst (v := 0) hx hb dX7_drawn_26 zk_iconst_0 ?_
      refine lv_sipush (v := 200) hx hb dX7_drawn_27 zk_sipush_200 ?_
      refine va_calli (va_runS (As := [.int a3, .int 0, .int 200]) (rest := []) ⟨hx, hb, hml, hown, hts⟩ (c_X7_within l dC dI H.size a3 0 200 ) (va_cwS 3 hts gX7_drawn_X7_within rfl rfl rfl zd_X7_within.2 ⟨Nat.le_of_ble_eq_true rfl, Nat.le_of_ble_eq_true rfl⟩) ⟨ax_blind (fun _ _ _ _ _ => trivial), ax_pre (zp_P0 hP) (zp_K hK) (zp_D0 hD) (fun _ _ => trivial)⟩ rfl rfl hl.1 rfl (lv_room (Nat.le_of_ble_eq_true rfl)) dX7_drawn_30 ⟨Nat.le_of_ble_eq_true rfl, Nat.le_of_ble_eq_true rfl⟩) hS (fun q _ h => zp_F0 hD hS hA q h) (zp_F0 hD hS hA) (fun r30 u t H locs ht hvm hw hB hz1 hk1 hS1 => zo0 hB ht hP hD hk1 (zp_F0 hD hS hA) hS1 (fun hP hK1 hD hS => ?_))
      rcases hw with hw | hw
      · obtain ⟨hw, h30⟩ := hw
        subst hw
        have l30k0_a3 : (0 : Int) ≤ a3.toInt := Int.le_trans zq5 h30.1
        have u30k0_a3 : a3.toInt ≤ (200 : Int) := Int.le_trans h30.2 zq65
        refine lv_if_ne (tgt := 42) hx hb dX7_drawn_33 (by decide) (fun _ => ?_) (fun c33 => absurd c33 (by decide +kernel))
        refine lv_iconst (v := 0) hx hb dX7_drawn_42 zk_iconst_0 ?_
        refine lv_istore (lv' := [(4, .int 0), (0, .ref a0), (1, .int a1), (2, .int a2), (3, .int a3)]) hx hb dX7_drawn_43 hl (by decide) rfl (fun ls hl => ?_)
        refine lv_iload_n hx hb dX7_drawn_45 rfl (lv_at hl 3 rfl) ?_
        refine lv_istore (lv' := [(5, .int a2), (4, .int 0), (0, .ref a0), (1, .int a1), (2, .int a2), (3, .int a3)]) hx hb dX7_drawn_46 hl (by decide) rfl (fun ls hl => ?_)
        refine lv_aload_n hx hb dX7_drawn_48 rfl (lv_at hl 2 rfl) ?_
        refine va_get (D := (dC, dI)) (ci := 7) (v := .ref a0_1) (C := RX7) (T := TX7) (N := 11) hx hb hts zi_X7_drawn_7 hown hK hP 0 rfl rfl 1 (by decide) (hts (.fieldLink RX7 19 "WaxTurns" "now" "LWaxTurns$Scene;") (zm_X7_drawn_r1 (List.mem_of_getElem? (i := 1) rfl))) (fun _ h9 => h9) rfl dX7_drawn_49 ?_
        refine va_get (D := (dC, dI)) (ci := 5) (v := .int a0_1_1) (C := RX5) (T := TX5) (N := 7) hx hb hts zi_X7_drawn_5 hown hK hP 2 rfl rfl 1 (by decide) (hts (.fieldLink RX7 158 "WaxTurns$Scene" "turn" "I") (zm_X7_drawn_r1 (List.mem_of_getElem? (i := 2) rfl))) (fun _ h9 => h9) rfl dX7_drawn_52 ?_
        refine lv_istore (lv' := [(6, .int a0_1_1), (5, .int a2), (4, .int 0), (0, .ref a0), (1, .int a1), (2, .int a2), (3, .int a3)]) hx hb dX7_drawn_55 hl (by decide) rfl (fun ls hl => ?_)
        refine lv_iconst (v := 1) hx hb dX7_drawn_57 zk_iconst_1 ?_
        refine lv_istore (lv' := [(7, .int 1), (6, .int a0_1_1), (5, .int a2), (4, .int 0), (0, .ref a0), (1, .int a1), (2, .int a2), (3, .int a3)]) hx hb dX7_drawn_58 hl (by decide) rfl (fun ls hl => ?_)
        have J60 : ∀ (n : Nat) (j60l7 : Int32) (j60l6 : Int32) (j60l5 : Int32) (j60l4 : Int32) (H : Heap) (locs : List Loc) (ls : Array Slot), (202 : Int) - j60l7.toInt ≤ (n : Int) → (1 : Int) ≤ j60l7.toInt → j60l7.toInt ≤ (201 : Int) → (0 : Int) ≤ j60l6.toInt → j60l6.toInt ≤ (8 : Int) → va_P (dC, dI) vwCl [(a0, .inr (7, [a0g_0, .ref a0_1, a0g_2, a0g_3, a0g_4, a0g_5, a0g_6, .ref a0_7, .int a0_8, a0g_9, a0g_10])), (a0_7, .inr (0, [.int a0_7_0, a0_7g_1, a0_7g_2, .int a0_7_3, a0_7g_4, .int a0_7_5, .int a0_7_6, a0_7g_7, a0_7g_8, a0_7g_9, a0_7g_10, a0_7g_11, a0_7g_12, a0_7g_13, a0_7g_14])), (a0_1, .inr (5, [a0_1g_0, .int a0_1_1, a0_1g_2, a0_1g_3, a0_1g_4, a0_1g_5, a0_1g_6]))] H → va_D A [(a0, .inr (7, [a0g_0, .ref a0_1, a0g_2, a0g_3, a0g_4, a0g_5, a0g_6, .ref a0_7, .int a0_8, a0g_9, a0g_10])), (a0_7, .inr (0, [.int a0_7_0, a0_7g_1, a0_7g_2, .int a0_7_3, a0_7g_4, .int a0_7_5, .int a0_7_6, a0_7g_7, a0_7g_8, a0_7g_9, a0_7g_10, a0_7g_11, a0_7g_12, a0_7g_13, a0_7g_14])), (a0_1, .inr (5, [a0_1g_0, .int a0_1_1, a0_1g_2, a0_1g_3, a0_1g_4, a0_1g_5, a0_1g_6]))] → va_S A s.heap H locs → lv_has ls 8 [(0, .ref a0), (1, .int a1), (3, .int a3), (4, .int j60l4), (5, .int j60l5), (6, .int j60l6), (7, .int j60l7)] → K H locs (F0 m 60 ls []) := by
          intro n
          induction n with
          | zero =>
            intro j60l7 j60l6 j60l5 j60l4 H locs ls hm bj60l7_l bj60l7_u bj60l6_l bj60l6_u hP hD hS hl
            have h8 := ai_min j60l7
            have h9 := ai_max j60l7
            exact absurd hm (by omega)
          | succ n ih60 =>
            intro j60l7 j60l6 j60l5 j60l4 H locs ls hm bj60l7_l bj60l7_u bj60l6_l bj60l6_u hP hD hS hl
            refine (hK0 _ _ _).mpr ?_
            have hm60 := hm
            refine lv_iload hx hb dX7_drawn_60 (lv_at hl 6 rfl) ?_
            refine lv_iload_n hx hb dX7_drawn_62 rfl (lv_at hl 2 rfl) ?_
            refine lv_icmp_gt (tgt := 108) hx hb dX7_drawn_63 (by decide) (fun c63 => ?_) (fun c63 => ?_)
            · have gc63 := ai_lt c63
              have u63t_a3 : a3.toInt ≤ (200 : Int) := u30k0_a3
              have l63t_j60l7 : (1 : Int) ≤ j60l7.toInt := bj60l7_l
              refine lv_aload_n hx hb dX7_drawn_108 rfl (lv_at hl 0 rfl) ?_
              refine lv_iload hx hb dX7_drawn_109 (lv_at hl 3 rfl) ?_
              refine va_calli (va_runV (As := [.int j60l4]) (rest := []) ⟨hx, hb, hml, hown, hts⟩ (c_X7_answered l dC dI H.size a0 j60l4 a0g_0 (.ref a0_1) a0g_2 a0g_3 a0g_4 a0g_5 a0g_6 (.ref a0_7) a0g_9 a0g_10 a0_8 ) (cwV 1 hts gX7_drawn_X7_answered rfl rfl rfl zd_X7_answered ⟨Nat.le_of_ble_eq_true rfl, Nat.le_of_ble_eq_true rfl⟩) ⟨ax_blind (fun _ _ _ _ _ => trivial), zr_7 (zp_K hK) (zp_P1 hP) (q0 := 0) rfl, ax_pre (zp_P1 hP) (zp_K hK) (zp_D1 hD) (fun _ _ => trivial)⟩ rfl rfl hl.1 rfl (lv_room (Nat.le_of_ble_eq_true rfl)) dX7_drawn_111 ⟨Nat.le_of_ble_eq_true rfl, Nat.le_of_ble_eq_true rfl⟩) hS (fun q _ h => zp_F1 hD hS hA q h) (zp_F1 hD hS hA) (fun r111 u t H locs ht hvm hw hB hz1 hk1 hS1 => zx_1 hB (fun v111na0_8 hB => zo1 hB ht hP hD hk1 (zp_F1 hD hS hA) hS1 (fun hP hK1 hD hS => ?_)))
              have hw : r111 = j60l4 := hw
              have hw := hw.symm
              subst hw
              exact W.iret (v := j60l4) hx hb hr (fun t ht hW => ⟨⟨j60l4, (), rfl, trivial, v111na0_8, by rw [ht]; exact hP, va_K.moved hW.alike hK, hD⟩, hS.F ht⟩) hS.2.2 dX7_drawn_114
            · have gc63 := ai_nlt c63
              have u63f_j60l7 : j60l7.toInt ≤ (200 : Int) := Int.le_trans gc63 u30k0_a3
              have l63f_a3 : (1 : Int) ≤ a3.toInt := Int.le_trans bj60l7_l gc63
              refine lv_iload hx hb dX7_drawn_66 (lv_at hl 4 rfl) ?_
              refine va_calli (va_runS (As := [.int j60l5]) (rest := []) ⟨hx, hb, hml, hown, hts⟩ (c_X7_nextDraw l dC dI H.size j60l5 ) (va_cwS 1 hts gX7_drawn_X7_nextDraw rfl rfl rfl zd_X7_nextDraw.2 ⟨Nat.le_of_ble_eq_true rfl, Nat.le_of_ble_eq_true rfl⟩) ⟨ax_blind (fun _ _ _ _ _ => trivial), ax_pre (zp_P0 hP) (zp_K hK) (zp_D0 hD) (fun _ _ => trivial)⟩ rfl rfl hl.1 rfl (lv_room (Nat.le_of_ble_eq_true rfl)) dX7_drawn_68 ⟨Nat.le_of_ble_eq_true rfl, Nat.le_of_ble_eq_true rfl⟩) hS (fun q _ h => zp_F0 hD hS hA q h) (zp_F0 hD hS hA) (fun r68 u t H locs ht hvm hw hB hz1 hk1 hS1 => zo0 hB ht hP hD hk1 (zp_F0 hD hS hA) hS1 (fun hP hK1 hD hS => ?_))
              refine lv_istore (lv' := [(5, .int r68), (0, .ref a0), (1, .int a1), (3, .int a3), (4, .int j60l4), (6, .int j60l6), (7, .int j60l7)]) hx hb dX7_drawn_71 hl (by decide) rfl (fun ls hl => ?_)
              refine lv_aload_n hx hb dX7_drawn_73 rfl (lv_at hl 1 rfl) ?_
              refine va_get (D := (dC, dI)) (ci := 7) (v := .ref a0_7) (C := RX7) (T := TX7) (N := 11) hx hb hts zi_X7_drawn_7 hown hK hP 0 rfl rfl 7 (by decide) (hts (.fieldLink RX7 57 "WaxTurns" "hall" "LWaxTurns$Hall;") (zm_X7_drawn_r1 (List.mem_of_getElem? (i := 3) rfl))) (fun _ h9 => h9) rfl dX7_drawn_74 ?_
              refine lv_iload hx hb dX7_drawn_77 (lv_at hl 5 rfl) ?_
              refine zc_cutc (wc := [(a0_7, .inr (0, [.int a0_7_0, a0_7g_1, a0_7g_2, .int a0_7_3, a0_7g_4, .int a0_7_5, .int a0_7_6, a0_7g_7, a0_7g_8, a0_7g_9, a0_7g_10, a0_7g_11, a0_7g_12, a0_7g_13, a0_7g_14]))]) hP hD hS hA [1] (by decide +kernel) rfl (fun hPc hDc hFc hCc => ?_)
              have hKc := zp_K hK
              refine va_calli (va_runV (As := [.int j60l6]) (rest := []) ⟨hx, hb, hml, hown, hts⟩ (c_X0_next l dC dI H.size a0_7 j60l6 a0_7_0 a0_7g_1 a0_7g_2 (.int a0_7_3) a0_7g_4 a0_7g_7 a0_7g_8 a0_7g_9 a0_7g_10 a0_7g_11 a0_7g_12 a0_7g_13 a0_7g_14 a0_7_5 a0_7_6 bj60l6_l bj60l6_u (Int.le_trans zq4 l2k0_a0_7_0) u2k0_a0_7_0 ba0_7_5_l ba0_7_5_u ba0_7_6_l ba0_7_6_u) (cwV 1 hts gX7_drawn_X0_next rfl rfl rfl zd_X0_next ⟨Nat.le_of_ble_eq_true rfl, Nat.le_of_ble_eq_true rfl⟩) ⟨ax_blind (fun _ _ _ _ _ => trivial), zr_0 hKc hPc (q0 := 0) rfl, ax_pre hPc hKc hDc (fun _ _ => trivial)⟩ rfl rfl hl.1 rfl (lv_room (Nat.le_of_ble_eq_true rfl)) dX7_drawn_79 ⟨Nat.le_of_ble_eq_true rfl, Nat.le_of_ble_eq_true rfl⟩) hS (fun q _ h => hFc q h) hFc (fun r79 u t H locs ht hvm hw hB hz1 hk1 hS => zo hB ht (fun hP1 hK1 hD1 => ?_))
              refine zc_backc (w := [(a0, .inr (7, [a0g_0, .ref a0_1, a0g_2, a0g_3, a0g_4, a0g_5, a0g_6, .ref a0_7, .int a0_8, a0g_9, a0g_10])), (a0_7, .inr (0, [.int a0_7_0, a0_7g_1, a0_7g_2, .int a0_7_3, a0_7g_4, .int a0_7_5, .int a0_7_6, a0_7g_7, a0_7g_8, a0_7g_9, a0_7g_10, a0_7g_11, a0_7g_12, a0_7g_13, a0_7g_14])), (a0_1, .inr (5, [a0_1g_0, .int a0_1_1, a0_1g_2, a0_1g_3, a0_1g_4, a0_1g_5, a0_1g_6]))]) hP hD hCc hk1 hFc hP1 hD1 [.inl 0, .inr 0, .inl 2] (by decide +kernel) rfl (fun hP hD => ?_)
              have hw : (0 : Int) ≤ r79.toInt ∧ r79.toInt ≤ (8 : Int) := hw
              obtain ⟨h79_0, h79_1⟩ := hw
              refine lv_istore (lv' := [(6, .int r79), (5, .int r68), (0, .ref a0), (1, .int a1), (3, .int a3), (4, .int j60l4), (7, .int j60l7)]) hx hb dX7_drawn_82 hl (by decide) rfl (fun ls hl => ?_)
              refine lv_iload hx hb dX7_drawn_84 (lv_at hl 0 rfl) ?_
              refine lv_iload_n hx hb dX7_drawn_86 rfl (lv_at hl 3 rfl) ?_
              have J102 : ∀ (j102l4 : Int32) (H : Heap) (locs : List Loc) (ls : Array Slot), va_P (dC, dI) vwCl [(a0, .inr (7, [a0g_0, .ref a0_1, a0g_2, a0g_3, a0g_4, a0g_5, a0g_6, .ref a0_7, .int a0_8, a0g_9, a0g_10])), (a0_7, .inr (0, [.int a0_7_0, a0_7g_1, a0_7g_2, .int a0_7_3, a0_7g_4, .int a0_7_5, .int a0_7_6, a0_7g_7, a0_7g_8, a0_7g_9, a0_7g_10, a0_7g_11, a0_7g_12, a0_7g_13, a0_7g_14])), (a0_1, .inr (5, [a0_1g_0, .int a0_1_1, a0_1g_2, a0_1g_3, a0_1g_4, a0_1g_5, a0_1g_6]))] H → va_D A [(a0, .inr (7, [a0g_0, .ref a0_1, a0g_2, a0g_3, a0g_4, a0g_5, a0g_6, .ref a0_7, .int a0_8, a0g_9, a0g_10])), (a0_7, .inr (0, [.int a0_7_0, a0_7g_1, a0_7g_2, .int a0_7_3, a0_7g_4, .int a0_7_5, .int a0_7_6, a0_7g_7, a0_7g_8, a0_7g_9, a0_7g_10, a0_7g_11, a0_7g_12, a0_7g_13, a0_7g_14])), (a0_1, .inr (5, [a0_1g_0, .int a0_1_1, a0_1g_2, a0_1g_3, a0_1g_4, a0_1g_5, a0_1g_6]))] → va_S A s.heap H locs → lv_has ls 8 [(0, .ref a0), (1, .int a1), (3, .int a3), (4, .int j102l4), (5, .int r68), (6, .int r79), (7, .int j60l7)] → K H locs (F0 m 102 ls []) := by
                intro j102l4 H locs ls   hP hD hS hl
                refine (hK0 _ _ _).mpr ?_
                obtain ⟨x102, ex102⟩ : ∃ y : Int32, y = j60l7 + Int32.ofInt 1 := ⟨_, rfl⟩
                have qx102 : x102.toInt = j60l7.toInt + 1 := ai_inc ex102 (by decide) (by decide) u63f_j60l7 (by decide)
                have bx102 : (2 : Int) ≤ x102.toInt ∧ x102.toInt ≤ 201 := ⟨by rw [qx102]; exact Int.add_le_add bj60l7_l (Int.le_refl _), by rw [qx102]; exact Int.add_le_add u63f_j60l7 (Int.le_refl _)⟩
                refine lv_iinc (v := x102) (lv' := [(7, .int x102), (0, .ref a0), (1, .int a1), (3, .int a3), (4, .int j102l4), (5, .int r68), (6, .int r79)]) hx hb dX7_drawn_102 hl (k := 6) rfl ex102.symm (by decide) rfl (fun ls hl => ?_)
                refine lv_goto (tgt := 60) hx hb dX7_drawn_105 (by decide) ?_
                exact (hK0 _ _ _).mp (ih60 x102 r79 r68 j102l4 _ _ _ (by have h0 := qx102; omega) (Int.le_trans zq54 bx102.1) bx102.2 h79_0 h79_1 hP hD hS (lv_sub hl [1, 2, 3, 4, 5, 6, 0] rfl))
              refine lv_icmp_ne (tgt := 102) hx hb dX7_drawn_87 (by decide) (fun c87 => ?_) (fun c87 => ?_)
              · have gc87 := ai_ne c87
                exact (hK0 _ _ _).mp (J102 j60l4 _ _ _   hP hD hS (lv_sub hl [2, 3, 4, 5, 1, 0, 6] rfl))
              · have gc87 := ai_eq c87
                have u87f_r79 : r79.toInt ≤ (8 : Int) := h79_1
                have l87f_r79 : (0 : Int) ≤ r79.toInt := h79_0
                have u87f_a1 : a1.toInt ≤ (8 : Int) := u2k0_a1
                have l87f_a1 : (0 : Int) ≤ a1.toInt := l2k0_a1
                refine lv_aload_n hx hb dX7_drawn_90 rfl (lv_at hl 2 rfl) ?_
                refine lv_iload hx hb dX7_drawn_91 (lv_at hl 1 rfl) ?_
                refine va_calli (va_runV (As := [.int r68]) (rest := []) ⟨hx, hb, hml, hown, hts⟩ (c_X7_isShut l dC dI H.size a0 r68 a0g_0 (.ref a0_1) a0g_2 a0g_3 a0g_4 a0g_5 a0g_6 (.int a0_8) a0g_9 a0g_10 a0_7 (.int a0_7_0) a0_7g_1 a0_7g_2 a0_7g_4 (.int a0_7_5) (.int a0_7_6) a0_7g_7 a0_7g_8 a0_7g_9 a0_7g_10 a0_7g_11 a0_7g_12 a0_7g_13 a0_7g_14 a0_7_3 ) (cwV 1 hts gX7_drawn_X7_isShut rfl rfl rfl zd_X7_isShut ⟨Nat.le_of_ble_eq_true rfl, Nat.le_of_ble_eq_true rfl⟩) ⟨ax_blind (fun _ _ _ _ _ => trivial), zr_7 (zp_K hK) (zp_P2 hP) (q0 := 0) rfl, ax_pre (zp_P2 hP) (zp_K hK) (zp_D2 hD) (fun _ _ => trivial)⟩ rfl rfl hl.1 rfl (lv_room (Nat.le_of_ble_eq_true rfl)) dX7_drawn_93 ⟨Nat.le_of_ble_eq_true rfl, Nat.le_of_ble_eq_true rfl⟩) hS (fun q _ h => zp_F2 hD hS hA q h) (zp_F2 hD hS hA) (fun r93 u t H locs ht hvm hw hB hz1 hk1 hS1 => zo2 hB ht hP hD hk1 (zp_F2 hD hS hA) hS1 (fun hP hK1 hD hS => ?_))
                rcases hw with hw | hw
                · obtain ⟨hw, h93_0⟩ := hw
                  subst hw
                  have l93k0_a0_7_3 : (-2147483647 : Int) ≤ a0_7_3.toInt := h93_0
                  refine lv_if_ne (tgt := 102) hx hb dX7_drawn_96 (by decide) (fun _ => ?_) (fun c96 => absurd c96 (by decide +kernel))
                  exact (hK0 _ _ _).mp (J102 j60l4 _ _ _   hP hD hS (lv_sub hl [2, 3, 4, 5, 1, 0, 6] rfl))
                · subst hw
                  refine lv_if_ne (tgt := 102) hx hb dX7_drawn_96 (by decide) (fun c96 => absurd (by decide +kernel) c96) (fun _ => ?_)
                  obtain ⟨x99, ex99⟩ : ∃ y : Int32, y = j60l4 + Int32.ofInt 1 := ⟨_, rfl⟩
                  refine lv_iinc (v := x99) (lv' := [(4, .int x99), (6, .int r79), (5, .int r68), (0, .ref a0), (1, .int a1), (3, .int a3), (7, .int j60l7)]) hx hb dX7_drawn_99 hl (k := 5) rfl ex99.symm (by decide) rfl (fun ls hl => ?_)
                  exact (hK0 _ _ _).mp (J102 x99 _ _ _   hP hD hS (lv_sub hl [3, 4, 5, 0, 2, 1, 6] rfl))
        exact (hK0 _ _ _).mp (J60 201 1 a0_1_1 a2 0 _ _ _ (by have h1 : (1 : Int) ≤ (1 : Int32).toInt := zq1; have h2 : (1 : Int32).toInt ≤ (1 : Int) := zq0; omega) zq1 (Int.le_trans zq0 zq106) ba0_1_1_l ba0_1_1_u hP hD hS (lv_sub hl [4, 5, 7, 3, 2, 1, 0] rfl))
      · obtain ⟨hw, h30⟩ := hw
        subst hw
        refine lv_if_ne (tgt := 42) hx hb dX7_drawn_33 (by decide) (fun c33 => absurd (by decide +kernel) c33) (fun _ => ?_)
        exact (hK0 _ _ _).mp (J36  _ _ _   hP hD hS (lv_sub hl [0] rfl))
    · obtain ⟨hw, h19⟩ := hw
      subst hw
      refine lv_if_eq (tgt := 36) hx hb dX7_drawn_22 (by decide) (fun _ => ?_) (fun c22 => absurd (by decide +kernel) c22)
      have J36 : ∀ (H : Heap) (locs : List Loc) (ls : Array Slot), va_P (dC, dI) vwCl [(a0, .inr (7, [a0g_0, .ref a0_1, a0g_2, a0g_3, a0g_4, a0g_5, a0g_6, .ref a0_7, .int a0_8, a0g_9, a0g_10])), (a0_7, .inr (0, [.int a0_7_0, a0_7g_1, a0_7g_2, .int a0_7_3, a0_7g_4, .int a0_7_5, .int a0_7_6, a0_7g_7, a0_7g_8, a0_7g_9, a0_7g_10, a0_7g_11, a0_7g_12, a0_7g_13, a0_7g_14])), (a0_1, .inr (5, [a0_1g_0, .int a0_1_1, a0_1g_2, a0_1g_3, a0_1g_4, a0_1g_5, a0_1g_6]))] H → va_D A [(a0, .inr (7, [a0g_0, .ref a0_1, a0g_2, a0g_3, a0g_4, a0g_5, a0g_6, .ref a0_7, .int a0_8, a0g_9, a0g_10])), (a0_7, .inr (0, [.int a0_7_0, a0_7g_1, a0_7g_2, .int a0_7_3, a0_7g_4, .int a0_7_5, .int a0_7_6, a0_7g_7, a0_7g_8, a0_7g_9, a0_7g_10, a0_7g_11, a0_7g_12, a0_7g_13, a0_7g_14])), (a0_1, .inr (5, [a0_1g_0, .int a0_1_1, a0_1g_2, a0_1g_3, a0_1g_4, a0_1g_5, a0_1g_6]))] → va_S A s.heap H locs → lv_has ls 8 [(0, .ref a0)] → K H locs (F0 m 36 ls []) := by
        intro  H locs ls   hP hD hS hl
        refine (hK0 _ _ _).mpr ?_
        refine lv_aload_n hx hb dX7_drawn_36 rfl (lv_at hl 0 rfl) ?_
        refine lv_iconst (v := 2) hx hb dX7_drawn_37 zk_iconst_2 ?_
        refine va_calli (va_runV (As := [.int 2]) (rest := []) ⟨hx, hb, hml, hown, hts⟩ (c_X7_refused l dC dI H.size a0 2 a0g_0 (.ref a0_1) a0g_2 a0g_3 a0g_4 a0g_5 a0g_6 (.ref a0_7) a0g_9 a0g_10 a0_8 ) (cwV 1 hts gX7_drawn_X7_refused rfl rfl rfl zd_X7_refused ⟨Nat.le_of_ble_eq_true rfl, Nat.le_of_ble_eq_true rfl⟩) ⟨ax_blind (fun _ _ _ _ _ => trivial), zr_7 (zp_K hK) (zp_P1 hP) (q0 := 0) rfl, ax_pre (zp_P1 hP) (zp_K hK) (zp_D1 hD) (fun _ _ => trivial)⟩ rfl rfl hl.1 rfl (lv_room (Nat.le_of_ble_eq_true rfl)) dX7_drawn_38 ⟨Nat.le_of_ble_eq_true rfl, Nat.le_of_ble_eq_true rfl⟩) hS (fun q _ h => zp_F1 hD hS hA q h) (zp_F1 hD hS hA) (fun r38 u t H locs ht hvm hw hB hz1 hk1 hS1 => zx_1 hB (fun v38na0_8 hB => zo1 hB ht hP hD hk1 (zp_F1 hD hS hA) hS1 (fun hP hK1 hD hS => ?_)))
        have hw : r38 = (-1) := hw
        have hw := hw.symm
        subst hw
        exact W.iret (v := (-1)) hx hb hr (fun t ht hW => ⟨⟨(-1), (), rfl, trivial, v38na0_8, by rw [ht]; exact hP, va_K.moved hW.alike hK, hD⟩, hS.F ht⟩) hS.2.2 dX7_drawn_41
      exact (hK0 _ _ _).mp (J36  _ _ _   hP hD hS (lv_sub hl [0] rfl))
  · subst hw
    refine lv_if_ne (tgt := 14) hx hb dX7_drawn_5 (by decide) (fun c5 => absurd (by decide +kernel) c5) (fun _ => ?_)
    refine lv_aload_n hx hb dX7_drawn_8 rfl (lv_at hl 0 rfl) ?_
    refine lv_iconst (v := 1) hx hb dX7_drawn_9 zk_iconst_1 ?_
    refine va_calli (va_runV (As := [.int 1]) (rest := []) ⟨hx, hb, hml, hown, hts⟩ (c_X7_refused l dC dI H.size a0 1 a0g_0 (.ref a0_1) a0g_2 a0g_3 a0g_4 a0g_5 a0g_6 (.ref a0_7) a0g_9 a0g_10 a0_8 ) (cwV 1 hts gX7_drawn_X7_refused rfl rfl rfl zd_X7_refused ⟨Nat.le_of_ble_eq_true rfl, Nat.le_of_ble_eq_true rfl⟩) ⟨ax_blind (fun _ _ _ _ _ => trivial), zr_7 (zp_K hK) (zp_P1 hP) (q0 := 0) rfl, ax_pre (zp_P1 hP) (zp_K hK) (zp_D1 hD) (fun _ _ => trivial)⟩ rfl rfl hl.1 rfl (lv_room (Nat.le_of_ble_eq_true rfl)) dX7_drawn_10 ⟨Nat.le_of_ble_eq_true rfl, Nat.le_of_ble_eq_true rfl⟩) hS (fun q _ h => zp_F1 hD hS hA q h) (zp_F1 hD hS hA) (fun r10 u t H locs ht hvm hw hB hz1 hk1 hS1 => zx_1 hB (fun v10na0_8 hB => zo1 hB ht hP hD hk1 (zp_F1 hD hS hA) hS1 (fun hP hK1 hD hS => ?_)))
    have hw : r10 = (-1) := hw
    have hw := hw.symm
    subst hw
    exact W.iret (v := (-1)) hx hb hr (fun t ht hW => ⟨⟨(-1), (), rfl, trivial, v10na0_8, by rw [ht]; exact hP, va_K.moved hW.alike hK, hD⟩, hS.F ht⟩) hS.2.2 dX7_drawn_13

set_option maxHeartbeats 4000000 in
set_option maxRecDepth 100000 in
theorem c_X7_firstShut (l : Launch) (dC : Nat → ClassId) (dI : Nat → Nat → Nat) (sz : Nat) (a0 : Nat) (a1 : Int32) (a2 : Int32) (a0g_0 a0g_1 a0g_2 a0g_3 a0g_4 a0g_5 a0g_6 a0g_9 a0g_10 : Value) (a0_7 : Nat) (a0_8 : Int32) (a0_7_0 : Int32) (a0_7g_1 a0_7g_2 a0_7g_4 a0_7g_5 a0_7g_6 a0_7g_7 a0_7g_8 a0_7g_9 a0_7g_10 a0_7g_11 a0_7g_12 a0_7g_13 a0_7g_14 : Value) (a0_7_3 : Int32) (ba0_7_0_l : (0 : Int) ≤ a0_7_0.toInt) (ba0_7_0_u : a0_7_0.toInt ≤ (9 : Int)) : zm l yX7_firstShut wsX7_firstShut ({ frames := 1, cells := 0, slots := 0, locals := 22 }) [.ref a0, .int a1, .int a2] dC dI sz [(a0, .inr (7, [a0g_0, a0g_1, a0g_2, a0g_3, a0g_4, a0g_5, a0g_6, .ref a0_7, .int a0_8, a0g_9, a0g_10])), (a0_7, .inr (0, [.int a0_7_0, a0_7g_1, a0_7g_2, .int a0_7_3, a0_7g_4, a0_7g_5, a0_7g_6, a0_7g_7, a0_7g_8, a0_7g_9, a0_7g_10, a0_7g_11, a0_7g_12, a0_7g_13, a0_7g_14]))] [] (fun A _ => True) (fun A => va_Qi (fun (r : Int32) (_ : Unit) => (-2 : Int) ≤ r.toInt ∧ r.toInt ≤ (200 : Int)) (fun (_ : Unit) (t : State) => ∃ na0_8 : Int32, ax_B dC dI A [(a0, .inr (7, [a0g_0, a0g_1, a0g_2, a0g_3, a0g_4, a0g_5, a0g_6, .ref a0_7, .int na0_8, a0g_9, a0g_10])), (a0_7, .inr (0, [.int a0_7_0, a0_7g_1, a0_7g_2, .int a0_7_3, a0_7g_4, a0_7g_5, a0_7g_6, a0_7g_7, a0_7g_8, a0_7g_9, a0_7g_10, a0_7g_11, a0_7g_12, a0_7g_13, a0_7g_14]))] [] t) A) := by
  refine zh (cc := cX7_firstShut) (maxL := 5) (ret := (some .int)) zn_RX7 rfl (Nat.le_of_ble_eq_true rfl) (fun p e s m below meth c A ls hx hb hml hr hts (hown : s.vm.findClass RX7 = some m.cls) hlocks hA hS hP hK hD hE (hl : lv_has ls 5 [(0, .ref a0), (1, .int a1), (2, .int a2)]) => ?_)
  refine ai_open (fun K hK0 => ?_)
  refine (hK0 _ _ _).mpr ?_
  refine lv_aload_n hx hb dX7_firstShut_0 rfl (lv_at hl 0 rfl) ?_
  refine va_calli (va_runV (As := []) (rest := []) ⟨hx, hb, hml, hown, hts⟩ (c_X7_hasGallery l dC dI s.heap.size a0 a0g_0 a0g_1 a0g_2 a0g_3 a0g_4 a0g_5 a0g_6 (.int a0_8) a0g_9 a0g_10 a0_7 a0_7_0 a0_7g_1 a0_7g_2 (.int a0_7_3) a0_7g_4 a0_7g_5 a0_7g_6 a0_7g_7 a0_7g_8 a0_7g_9 a0_7g_10 a0_7g_11 a0_7g_12 a0_7g_13 a0_7g_14 ba0_7_0_l ba0_7_0_u) (cwV 0 hts gX7_firstShut_X7_hasGallery rfl rfl rfl zd_X7_hasGallery ⟨Nat.le_of_ble_eq_true rfl, Nat.le_of_ble_eq_true rfl⟩) ⟨ax_blind (fun _ _ _ _ _ => trivial), zr_7 (zp_K hK) (zp_P2 hP) (q0 := 0) rfl, ax_pre (zp_P2 hP) (zp_K hK) (zp_D2 hD) (fun _ _ => trivial)⟩ rfl rfl hl.1 rfl (lv_room (Nat.le_of_ble_eq_true rfl)) dX7_firstShut_1 ⟨Nat.le_of_ble_eq_true rfl, Nat.le_of_ble_eq_true rfl⟩) hS (fun q _ h => zp_F2 hD hS hA q h) (zp_F2 hD hS hA) (fun r1 u t H locs ht hvm hw hB hz1 hk1 hS1 => zo2 hB ht hP hD hk1 (zp_F2 hD hS hA) hS1 (fun hP hK1 hD hS => ?_))
  rcases hw with hw | hw
  · obtain ⟨hw, h1_0, h1_1⟩ := hw
    subst hw
    have l1k0_a0_7_0 : (1 : Int) ≤ a0_7_0.toInt := h1_0
    have u1k0_a0_7_0 : a0_7_0.toInt ≤ (9 : Int) := ba0_7_0_u
    refine lv_if_ne (tgt := 13) hx hb dX7_firstShut_4 (by decide) (fun _ => ?_) (fun c4 => absurd c4 (by decide +kernel))
    refine lv_iload_n hx hb dX7_firstShut_13 rfl (lv_at hl 1 rfl) ?_
    refine lv_iconst (v := 0) hx hb dX7_firstShut_14 zk_iconst_0 ?_
    refine lv_ldcw (v := 65536) hx hb hown (hts (.constant RX7 323 (65536)) (zm_X7_firstShut_r1 (List.mem_of_getElem? (i := 0) rfl))) dX7_firstShut_15 ?_
    refine va_calli (va_runS (As := [.int a1, .int 0, .int 65536]) (rest := []) ⟨hx, hb, hml, hown, hts⟩ (c_X7_within l dC dI H.size a1 0 65536 ) (va_cwS 3 hts gX7_firstShut_X7_within rfl rfl rfl zd_X7_within.2 ⟨Nat.le_of_ble_eq_true rfl, Nat.le_of_ble_eq_true rfl⟩) ⟨ax_blind (fun _ _ _ _ _ => trivial), ax_pre (zp_P0 hP) (zp_K hK) (zp_D0 hD) (fun _ _ => trivial)⟩ rfl rfl hl.1 rfl (lv_room (Nat.le_of_ble_eq_true rfl)) dX7_firstShut_18 ⟨Nat.le_of_ble_eq_true rfl, Nat.le_of_ble_eq_true rfl⟩) hS (fun q _ h => zp_F0 hD hS hA q h) (zp_F0 hD hS hA) (fun r18 u t H locs ht hvm hw hB hz1 hk1 hS1 => zo0 hB ht hP hD hk1 (zp_F0 hD hS hA) hS1 (fun hP hK1 hD hS => ?_))
    rcases hw with hw | hw
    · obtain ⟨hw, h18⟩ := hw
      subst hw
      have l18k0_a1 : (0 : Int) ≤ a1.toInt := Int.le_trans zq5 h18.1
      have u18k0_a1 : a1.toInt ≤ (65536 : Int) := Int.le_trans h18.2 zq105
      refine lv_if_eq (tgt := 35) hx hb dX7_firstShut_21 (by decide) (fun c21 => absurd c21 (by decide +kernel)) (fun _ => ?_)
      have J35 : ∀ (H : Heap) (locs : List Loc) (ls : Array Slot), va_P (dC, dI) vwCl [(a0, .inr (7, [a0g_0, a0g_1, a0g_2, a0g_3, a0g_4, a0g_5, a0g_6, .ref a0_7, .int a0_8, a0g_9, a0g_10])), (a0_7, .inr (0, [.int a0_7_0, a0_7g_1, a0_7g_2, .int a0_7_3, a0_7g_4, a0_7g_5, a0_7g_6, a0_7g_7, a0_7g_8, a0_7g_9, a0_7g_10, a0_7g_11, a0_7g_12, a0_7g_13, a0_7g_14]))] H → va_D A [(a0, .inr (7, [a0g_0, a0g_1, a0g_2, a0g_3, a0g_4, a0g_5, a0g_6, .ref a0_7, .int a0_8, a0g_9, a0g_10])), (a0_7, .inr (0, [.int a0_7_0, a0_7g_1, a0_7g_2, .int a0_7_3, a0_7g_4, a0_7g_5, a0_7g_6, a0_7g_7, a0_7g_8, a0_7g_9, a0_7g_10, a0_7g_11, a0_7g_12, a0_7g_13, a0_7g_14]))] → va_S A s.heap H locs → lv_has ls 5 [(0, .ref a0)] → K H locs (F0 m 35 ls []) := by
        intro  H locs ls   hP hD hS hl
        refine (hK0 _ _ _).mpr ?_
        refine lv_aload_n hx hb dX7_firstShut_35 rfl (lv_at hl 0 rfl) ?_
        refine lv_iconst (v := 2) hx hb dX7_firstShut_36 zk_iconst_2 ?_
        refine va_calli (va_runV (As := [.int 2]) (rest := []) ⟨hx, hb, hml, hown, hts⟩ (c_X7_refused l dC dI H.size a0 2 a0g_0 a0g_1 a0g_2 a0g_3 a0g_4 a0g_5 a0g_6 (.ref a0_7) a0g_9 a0g_10 a0_8 ) (cwV 1 hts gX7_firstShut_X7_refused rfl rfl rfl zd_X7_refused ⟨Nat.le_of_ble_eq_true rfl, Nat.le_of_ble_eq_true rfl⟩) ⟨ax_blind (fun _ _ _ _ _ => trivial), zr_7 (zp_K hK) (zp_P1 hP) (q0 := 0) rfl, ax_pre (zp_P1 hP) (zp_K hK) (zp_D1 hD) (fun _ _ => trivial)⟩ rfl rfl hl.1 rfl (lv_room (Nat.le_of_ble_eq_true rfl)) dX7_firstShut_37 ⟨Nat.le_of_ble_eq_true rfl, Nat.le_of_ble_eq_true rfl⟩) hS (fun q _ h => zp_F1 hD hS hA q h) (zp_F1 hD hS hA) (fun r37 u t H locs ht hvm hw hB hz1 hk1 hS1 => zx_1 hB (fun v37na0_8 hB => zo1 hB ht hP hD hk1 (zp_F1 hD hS hA) hS1 (fun hP hK1 hD hS => ?_)))
        have hw : r37 = (-1) := hw
        have hw := hw.symm
        subst hw
        exact W.iret (v := (-1)) hx hb hr (fun t ht hW => ⟨⟨(-1), (), rfl, ⟨(Int.le_trans zq76 zq70), (Int.le_trans zq71 zq107)⟩, v37na0_8, by rw [ht]; exact hP, va_K.moved hW.alike hK, hD⟩, hS.F ht⟩) hS.2.2 dX7_firstShut_40
      refine lv_iload_n hx hb dX7_firstShut_24 rfl (lv_at hl 2 rfl) ?_
      refine lv_iconst (v := 0) hx hb dX7_firstShut_25 zk_iconst_0 ?_
      refine lv_sipush (v := 200) hx hb dX7_firstShut_26 zk_sipush_200 ?_
      refine va_calli (va_runS (As := [.int a2, .int 0, .int 200]) (rest := []) ⟨hx, hb, hml, hown, hts⟩ (c_X7_within l dC dI H.size a2 0 200 ) (va_cwS 3 hts gX7_firstShut_X7_within rfl rfl rfl zd_X7_within.2 ⟨Nat.le_of_ble_eq_true rfl, Nat.le_of_ble_eq_true rfl⟩) ⟨ax_blind (fun _ _ _ _ _ => trivial), ax_pre (zp_P0 hP) (zp_K hK) (zp_D0 hD) (fun _ _ => trivial)⟩ rfl rfl hl.1 rfl (lv_room (Nat.le_of_ble_eq_true rfl)) dX7_firstShut_29 ⟨Nat.le_of_ble_eq_true rfl, Nat.le_of_ble_eq_true rfl⟩) hS (fun q _ h => zp_F0 hD hS hA q h) (zp_F0 hD hS hA) (fun r29 u t H locs ht hvm hw hB hz1 hk1 hS1 => zo0 hB ht hP hD hk1 (zp_F0 hD hS hA) hS1 (fun hP hK1 hD hS => ?_))
      rcases hw with hw | hw
      · obtain ⟨hw, h29⟩ := hw
        subst hw
        have l29k0_a2 : (0 : Int) ≤ a2.toInt := Int.le_trans zq5 h29.1
        have u29k0_a2 : a2.toInt ≤ (200 : Int) := Int.le_trans h29.2 zq65
        refine lv_if_ne (tgt := 41) hx hb dX7_firstShut_32 (by decide) (fun _ => ?_) (fun c32 => absurd c32 (by decide +kernel))
        refine lv_iload_n hx hb dX7_firstShut_41 rfl (lv_at hl 1 rfl) ?_
        refine lv_istore_n (lv' := [(3, .int a1), (0, .ref a0), (1, .int a1), (2, .int a2)]) hx hb dX7_firstShut_42 rfl hl (by decide) rfl (fun ls hl => ?_)
        refine lv_iconst (v := 1) hx hb dX7_firstShut_43 zk_iconst_1 ?_
        refine lv_istore (lv' := [(4, .int 1), (3, .int a1), (0, .ref a0), (1, .int a1), (2, .int a2)]) hx hb dX7_firstShut_44 hl (by decide) rfl (fun ls hl => ?_)
        have J46 : ∀ (n : Nat) (j46l4 : Int32) (j46l3 : Int32) (H : Heap) (locs : List Loc) (ls : Array Slot), (202 : Int) - j46l4.toInt ≤ (n : Int) → (1 : Int) ≤ j46l4.toInt → j46l4.toInt ≤ (201 : Int) → va_P (dC, dI) vwCl [(a0, .inr (7, [a0g_0, a0g_1, a0g_2, a0g_3, a0g_4, a0g_5, a0g_6, .ref a0_7, .int a0_8, a0g_9, a0g_10])), (a0_7, .inr (0, [.int a0_7_0, a0_7g_1, a0_7g_2, .int a0_7_3, a0_7g_4, a0_7g_5, a0_7g_6, a0_7g_7, a0_7g_8, a0_7g_9, a0_7g_10, a0_7g_11, a0_7g_12, a0_7g_13, a0_7g_14]))] H → va_D A [(a0, .inr (7, [a0g_0, a0g_1, a0g_2, a0g_3, a0g_4, a0g_5, a0g_6, .ref a0_7, .int a0_8, a0g_9, a0g_10])), (a0_7, .inr (0, [.int a0_7_0, a0_7g_1, a0_7g_2, .int a0_7_3, a0_7g_4, a0_7g_5, a0_7g_6, a0_7g_7, a0_7g_8, a0_7g_9, a0_7g_10, a0_7g_11, a0_7g_12, a0_7g_13, a0_7g_14]))] → va_S A s.heap H locs → lv_has ls 5 [(0, .ref a0), (2, .int a2), (3, .int j46l3), (4, .int j46l4)] → K H locs (F0 m 46 ls []) := by
          intro n
          induction n with
          | zero =>
            intro j46l4 j46l3 H locs ls hm bj46l4_l bj46l4_u hP hD hS hl
            have h8 := ai_min j46l4
            have h9 := ai_max j46l4
            exact absurd hm (by omega)
          | succ n ih46 =>
            intro j46l4 j46l3 H locs ls hm bj46l4_l bj46l4_u hP hD hS hl
            refine (hK0 _ _ _).mpr ?_
            have hm46 := hm
            refine lv_iload hx hb dX7_firstShut_46 (lv_at hl 3 rfl) ?_
            refine lv_iload_n hx hb dX7_firstShut_48 rfl (lv_at hl 1 rfl) ?_
            refine lv_icmp_gt (tgt := 78) hx hb dX7_firstShut_49 (by decide) (fun c49 => ?_) (fun c49 => ?_)
            · have gc49 := ai_lt c49
              have u49t_a2 : a2.toInt ≤ (200 : Int) := u29k0_a2
              have l49t_j46l4 : (1 : Int) ≤ j46l4.toInt := bj46l4_l
              refine lv_aload_n hx hb dX7_firstShut_78 rfl (lv_at hl 0 rfl) ?_
              refine lv_bipush (v := (-2)) hx hb dX7_firstShut_79 zk_bipush_n2 ?_
              refine va_calli (va_runV (As := [.int (-2)]) (rest := []) ⟨hx, hb, hml, hown, hts⟩ (c_X7_answered l dC dI H.size a0 (-2) a0g_0 a0g_1 a0g_2 a0g_3 a0g_4 a0g_5 a0g_6 (.ref a0_7) a0g_9 a0g_10 a0_8 ) (cwV 1 hts gX7_firstShut_X7_answered rfl rfl rfl zd_X7_answered ⟨Nat.le_of_ble_eq_true rfl, Nat.le_of_ble_eq_true rfl⟩) ⟨ax_blind (fun _ _ _ _ _ => trivial), zr_7 (zp_K hK) (zp_P1 hP) (q0 := 0) rfl, ax_pre (zp_P1 hP) (zp_K hK) (zp_D1 hD) (fun _ _ => trivial)⟩ rfl rfl hl.1 rfl (lv_room (Nat.le_of_ble_eq_true rfl)) dX7_firstShut_81 ⟨Nat.le_of_ble_eq_true rfl, Nat.le_of_ble_eq_true rfl⟩) hS (fun q _ h => zp_F1 hD hS hA q h) (zp_F1 hD hS hA) (fun r81 u t H locs ht hvm hw hB hz1 hk1 hS1 => zx_1 hB (fun v81na0_8 hB => zo1 hB ht hP hD hk1 (zp_F1 hD hS hA) hS1 (fun hP hK1 hD hS => ?_)))
              have hw : r81 = (-2) := hw
              have hw := hw.symm
              subst hw
              exact W.iret (v := (-2)) hx hb hr (fun t ht hW => ⟨⟨(-2), (), rfl, ⟨zq45, (Int.le_trans zq44 zq108)⟩, v81na0_8, by rw [ht]; exact hP, va_K.moved hW.alike hK, hD⟩, hS.F ht⟩) hS.2.2 dX7_firstShut_84
            · have gc49 := ai_nlt c49
              have u49f_j46l4 : j46l4.toInt ≤ (200 : Int) := Int.le_trans gc49 u29k0_a2
              have l49f_a2 : (1 : Int) ≤ a2.toInt := Int.le_trans bj46l4_l gc49
              refine lv_iload_n hx hb dX7_firstShut_52 rfl (lv_at hl 2 rfl) ?_
              refine va_calli (va_runS (As := [.int j46l3]) (rest := []) ⟨hx, hb, hml, hown, hts⟩ (c_X7_nextDraw l dC dI H.size j46l3 ) (va_cwS 1 hts gX7_firstShut_X7_nextDraw rfl rfl rfl zd_X7_nextDraw.2 ⟨Nat.le_of_ble_eq_true rfl, Nat.le_of_ble_eq_true rfl⟩) ⟨ax_blind (fun _ _ _ _ _ => trivial), ax_pre (zp_P0 hP) (zp_K hK) (zp_D0 hD) (fun _ _ => trivial)⟩ rfl rfl hl.1 rfl (lv_room (Nat.le_of_ble_eq_true rfl)) dX7_firstShut_53 ⟨Nat.le_of_ble_eq_true rfl, Nat.le_of_ble_eq_true rfl⟩) hS (fun q _ h => zp_F0 hD hS hA q h) (zp_F0 hD hS hA) (fun r53 u t H locs ht hvm hw hB hz1 hk1 hS1 => zo0 hB ht hP hD hk1 (zp_F0 hD hS hA) hS1 (fun hP hK1 hD hS => ?_))
              refine lv_istore_n (lv' := [(3, .int r53), (0, .ref a0), (2, .int a2), (4, .int j46l4)]) hx hb dX7_firstShut_56 rfl hl (by decide) rfl (fun ls hl => ?_)
              refine lv_aload_n hx hb dX7_firstShut_57 rfl (lv_at hl 1 rfl) ?_
              refine lv_iload_n hx hb dX7_firstShut_58 rfl (lv_at hl 0 rfl) ?_
              refine va_calli (va_runV (As := [.int r53]) (rest := []) ⟨hx, hb, hml, hown, hts⟩ (c_X7_isShut l dC dI H.size a0 r53 a0g_0 a0g_1 a0g_2 a0g_3 a0g_4 a0g_5 a0g_6 (.int a0_8) a0g_9 a0g_10 a0_7 (.int a0_7_0) a0_7g_1 a0_7g_2 a0_7g_4 a0_7g_5 a0_7g_6 a0_7g_7 a0_7g_8 a0_7g_9 a0_7g_10 a0_7g_11 a0_7g_12 a0_7g_13 a0_7g_14 a0_7_3 ) (cwV 1 hts gX7_firstShut_X7_isShut rfl rfl rfl zd_X7_isShut ⟨Nat.le_of_ble_eq_true rfl, Nat.le_of_ble_eq_true rfl⟩) ⟨ax_blind (fun _ _ _ _ _ => trivial), zr_7 (zp_K hK) (zp_P2 hP) (q0 := 0) rfl, ax_pre (zp_P2 hP) (zp_K hK) (zp_D2 hD) (fun _ _ => trivial)⟩ rfl rfl hl.1 rfl (lv_room (Nat.le_of_ble_eq_true rfl)) dX7_firstShut_59 ⟨Nat.le_of_ble_eq_true rfl, Nat.le_of_ble_eq_true rfl⟩) hS (fun q _ h => zp_F2 hD hS hA q h) (zp_F2 hD hS hA) (fun r59 u t H locs ht hvm hw hB hz1 hk1 hS1 => zo2 hB ht hP hD hk1 (zp_F2 hD hS hA) hS1 (fun hP hK1 hD hS => ?_))
              rcases hw with hw | hw
              · obtain ⟨hw, h59_0⟩ := hw
                subst hw
                have l59k0_a0_7_3 : (-2147483647 : Int) ≤ a0_7_3.toInt := h59_0
                refine lv_if_eq (tgt := 72) hx hb dX7_firstShut_62 (by decide) (fun c62 => absurd c62 (by decide +kernel)) (fun _ => ?_)
                refine lv_aload_n hx hb dX7_firstShut_65 rfl (lv_at hl 1 rfl) ?_
                refine lv_iload hx hb dX7_firstShut_66 (lv_at hl 3 rfl) ?_
                refine va_calli (va_runV (As := [.int j46l4]) (rest := []) ⟨hx, hb, hml, hown, hts⟩ (c_X7_answered l dC dI H.size a0 j46l4 a0g_0 a0g_1 a0g_2 a0g_3 a0g_4 a0g_5 a0g_6 (.ref a0_7) a0g_9 a0g_10 a0_8 ) (cwV 1 hts gX7_firstShut_X7_answered rfl rfl rfl zd_X7_answered ⟨Nat.le_of_ble_eq_true rfl, Nat.le_of_ble_eq_true rfl⟩) ⟨ax_blind (fun _ _ _ _ _ => trivial), zr_7 (zp_K hK) (zp_P1 hP) (q0 := 0) rfl, ax_pre (zp_P1 hP) (zp_K hK) (zp_D1 hD) (fun _ _ => trivial)⟩ rfl rfl hl.1 rfl (lv_room (Nat.le_of_ble_eq_true rfl)) dX7_firstShut_68 ⟨Nat.le_of_ble_eq_true rfl, Nat.le_of_ble_eq_true rfl⟩) hS (fun q _ h => zp_F1 hD hS hA q h) (zp_F1 hD hS hA) (fun r68 u t H locs ht hvm hw hB hz1 hk1 hS1 => zx_1 hB (fun v68na0_8 hB => zo1 hB ht hP hD hk1 (zp_F1 hD hS hA) hS1 (fun hP hK1 hD hS => ?_)))
                have hw : r68 = j46l4 := hw
                have hw := hw.symm
                subst hw
                exact W.iret (v := j46l4) hx hb hr (fun t ht hW => ⟨⟨j46l4, (), rfl, ⟨(Int.le_trans zq59 bj46l4_l), u49f_j46l4⟩, v68na0_8, by rw [ht]; exact hP, va_K.moved hW.alike hK, hD⟩, hS.F ht⟩) hS.2.2 dX7_firstShut_71
              · subst hw
                refine lv_if_eq (tgt := 72) hx hb dX7_firstShut_62 (by decide) (fun _ => ?_) (fun c62 => absurd (by decide +kernel) c62)
                obtain ⟨x72, ex72⟩ : ∃ y : Int32, y = j46l4 + Int32.ofInt 1 := ⟨_, rfl⟩
                have qx72 : x72.toInt = j46l4.toInt + 1 := ai_inc ex72 (by decide) (by decide) u49f_j46l4 (by decide)
                have bx72 : (2 : Int) ≤ x72.toInt ∧ x72.toInt ≤ 201 := ⟨by rw [qx72]; exact Int.add_le_add bj46l4_l (Int.le_refl _), by rw [qx72]; exact Int.add_le_add u49f_j46l4 (Int.le_refl _)⟩
                refine lv_iinc (v := x72) (lv' := [(4, .int x72), (3, .int r53), (0, .ref a0), (2, .int a2)]) hx hb dX7_firstShut_72 hl (k := 3) rfl ex72.symm (by decide) rfl (fun ls hl => ?_)
                refine lv_goto (tgt := 46) hx hb dX7_firstShut_75 (by decide) ?_
                exact (hK0 _ _ _).mp (ih46 x72 r53 _ _ _ (by have h0 := qx72; omega) (Int.le_trans zq54 bx72.1) bx72.2 hP hD hS (lv_sub hl [2, 3, 1, 0] rfl))
        exact (hK0 _ _ _).mp (J46 201 1 a1 _ _ _ (by have h1 : (1 : Int) ≤ (1 : Int32).toInt := zq1; have h2 : (1 : Int32).toInt ≤ (1 : Int) := zq0; omega) zq1 (Int.le_trans zq0 zq106) hP hD hS (lv_sub hl [2, 4, 1, 0] rfl))
      · obtain ⟨hw, h29⟩ := hw
        subst hw
        refine lv_if_ne (tgt := 41) hx hb dX7_firstShut_32 (by decide) (fun c32 => absurd (by decide +kernel) c32) (fun _ => ?_)
        exact (hK0 _ _ _).mp (J35  _ _ _   hP hD hS (lv_sub hl [0] rfl))
    · obtain ⟨hw, h18⟩ := hw
      subst hw
      refine lv_if_eq (tgt := 35) hx hb dX7_firstShut_21 (by decide) (fun _ => ?_) (fun c21 => absurd (by decide +kernel) c21)
      have J35 : ∀ (H : Heap) (locs : List Loc) (ls : Array Slot), va_P (dC, dI) vwCl [(a0, .inr (7, [a0g_0, a0g_1, a0g_2, a0g_3, a0g_4, a0g_5, a0g_6, .ref a0_7, .int a0_8, a0g_9, a0g_10])), (a0_7, .inr (0, [.int a0_7_0, a0_7g_1, a0_7g_2, .int a0_7_3, a0_7g_4, a0_7g_5, a0_7g_6, a0_7g_7, a0_7g_8, a0_7g_9, a0_7g_10, a0_7g_11, a0_7g_12, a0_7g_13, a0_7g_14]))] H → va_D A [(a0, .inr (7, [a0g_0, a0g_1, a0g_2, a0g_3, a0g_4, a0g_5, a0g_6, .ref a0_7, .int a0_8, a0g_9, a0g_10])), (a0_7, .inr (0, [.int a0_7_0, a0_7g_1, a0_7g_2, .int a0_7_3, a0_7g_4, a0_7g_5, a0_7g_6, a0_7g_7, a0_7g_8, a0_7g_9, a0_7g_10, a0_7g_11, a0_7g_12, a0_7g_13, a0_7g_14]))] → va_S A s.heap H locs → lv_has ls 5 [(0, .ref a0)] → K H locs (F0 m 35 ls []) := by
        intro  H locs ls   hP hD hS hl
        refine (hK0 _ _ _).mpr ?_
        refine lv_aload_n hx hb dX7_firstShut_35 rfl (lv_at hl 0 rfl) ?_
        refine lv_iconst (v := 2) hx hb dX7_firstShut_36 zk_iconst_2 ?_
        refine va_calli (va_runV (As := [.int 2]) (rest := []) ⟨hx, hb, hml, hown, hts⟩ (c_X7_refused l dC dI H.size a0 2 a0g_0 a0g_1 a0g_2 a0g_3 a0g_4 a0g_5 a0g_6 (.ref a0_7) a0g_9 a0g_10 a0_8 ) (cwV 1 hts gX7_firstShut_X7_refused rfl rfl rfl zd_X7_refused ⟨Nat.le_of_ble_eq_true rfl, Nat.le_of_ble_eq_true rfl⟩) ⟨ax_blind (fun _ _ _ _ _ => trivial), zr_7 (zp_K hK) (zp_P1 hP) (q0 := 0) rfl, ax_pre (zp_P1 hP) (zp_K hK) (zp_D1 hD) (fun _ _ => trivial)⟩ rfl rfl hl.1 rfl (lv_room (Nat.le_of_ble_eq_true rfl)) dX7_firstShut_37 ⟨Nat.le_of_ble_eq_true rfl, Nat.le_of_ble_eq_true rfl⟩) hS (fun q _ h => zp_F1 hD hS hA q h) (zp_F1 hD hS hA) (fun r37 u t H locs ht hvm hw hB hz1 hk1 hS1 => zx_1 hB (fun v37na0_8 hB => zo1 hB ht hP hD hk1 (zp_F1 hD hS hA) hS1 (fun hP hK1 hD hS => ?_)))
        have hw : r37 = (-1) := hw
        have hw := hw.symm
        subst hw
        exact W.iret (v := (-1)) hx hb hr (fun t ht hW => ⟨⟨(-1), (), rfl, ⟨(Int.le_trans zq76 zq70), (Int.le_trans zq71 zq107)⟩, v37na0_8, by rw [ht]; exact hP, va_K.moved hW.alike hK, hD⟩, hS.F ht⟩) hS.2.2 dX7_firstShut_40
      exact (hK0 _ _ _).mp (J35  _ _ _   hP hD hS (lv_sub hl [0] rfl))
  · obtain ⟨hw, h1_0, h1_1⟩ := hw
    subst hw
    have l1k1_a0_7_0 : (0 : Int) ≤ a0_7_0.toInt := ba0_7_0_l
    have u1k1_a0_7_0 : a0_7_0.toInt ≤ (0 : Int) := h1_1
    refine lv_if_ne (tgt := 13) hx hb dX7_firstShut_4 (by decide) (fun c4 => absurd (by decide +kernel) c4) (fun _ => ?_)
    refine lv_aload_n hx hb dX7_firstShut_7 rfl (lv_at hl 0 rfl) ?_
    refine lv_iconst (v := 1) hx hb dX7_firstShut_8 zk_iconst_1 ?_
    refine va_calli (va_runV (As := [.int 1]) (rest := []) ⟨hx, hb, hml, hown, hts⟩ (c_X7_refused l dC dI H.size a0 1 a0g_0 a0g_1 a0g_2 a0g_3 a0g_4 a0g_5 a0g_6 (.ref a0_7) a0g_9 a0g_10 a0_8 ) (cwV 1 hts gX7_firstShut_X7_refused rfl rfl rfl zd_X7_refused ⟨Nat.le_of_ble_eq_true rfl, Nat.le_of_ble_eq_true rfl⟩) ⟨ax_blind (fun _ _ _ _ _ => trivial), zr_7 (zp_K hK) (zp_P1 hP) (q0 := 0) rfl, ax_pre (zp_P1 hP) (zp_K hK) (zp_D1 hD) (fun _ _ => trivial)⟩ rfl rfl hl.1 rfl (lv_room (Nat.le_of_ble_eq_true rfl)) dX7_firstShut_9 ⟨Nat.le_of_ble_eq_true rfl, Nat.le_of_ble_eq_true rfl⟩) hS (fun q _ h => zp_F1 hD hS hA q h) (zp_F1 hD hS hA) (fun r9 u t H locs ht hvm hw hB hz1 hk1 hS1 => zx_1 hB (fun v9na0_8 hB => zo1 hB ht hP hD hk1 (zp_F1 hD hS hA) hS1 (fun hP hK1 hD hS => ?_)))
    have hw : r9 = (-1) := hw
    have hw := hw.symm
    subst hw
    exact W.iret (v := (-1)) hx hb hr (fun t ht hW => ⟨⟨(-1), (), rfl, ⟨(Int.le_trans zq76 zq70), (Int.le_trans zq71 zq107)⟩, v9na0_8, by rw [ht]; exact hP, va_K.moved hW.alike hK, hD⟩, hS.F ht⟩) hS.2.2 dX7_firstShut_12
end P122_safe
section P129_safe
set_option maxHeartbeats 4000000 in
set_option maxRecDepth 100000 in
theorem c_X7_size (l : Launch) (dC : Nat → ClassId) (dI : Nat → Nat → Nat) (sz : Nat) (a0 : Nat) (a1 : Int32) (a0_0 : Nat) (a0_1 : Nat) (a0g_2 a0g_3 a0g_5 a0g_6 a0g_8 a0g_9 a0g_10 : Value) (a0_4 : Nat) (a0_7 : Nat) (a0_1_0 : Int32) (a0_1g_1 a0_1g_2 a0_1g_3 a0_1g_4 a0_1g_5 a0_1g_6 : Value) (a0_4_0 : Int32) (a0_4_1 : Int32) (a0_4g_2 a0_4g_3 a0_4g_4 : Value) (a0_0_0 : Int32) (a0_0g_1 a0_0g_2 a0_0g_3 a0_0g_4 a0_0g_5 a0_0g_6 a0_0g_7 a0_0g_8 a0_0g_9 a0_0g_10 a0_0g_11 a0_0g_12 a0_0g_13 : Value) (a0_7_0 : Int32) (a0_7_1 : Int32) (a0_7_2 : Int32) (a0_7_3 : Int32) (a0_7g_4 a0_7g_10 a0_7g_11 a0_7g_12 a0_7g_13 : Value) (a0_7_5 : Int32) (a0_7_6 : Int32) (a0_7_7 : Int32) (a0_7_8 : Int32) (a0_7_9 : Int32) (a0_7_14 : Nat) (a0_7_14_0 : Int32) (a0_7_14g_1 a0_7_14g_2 a0_7_14g_3 : Value) (ba0_4_0_l : (0 : Int) ≤ a0_4_0.toInt) (ba0_4_0_u : a0_4_0.toInt ≤ (16 : Int)) (ba0_4_1_l : (0 : Int) ≤ a0_4_1.toInt) (ba0_4_1_u : a0_4_1.toInt ≤ (3 : Int)) (ba0_0_0_l : (0 : Int) ≤ a0_0_0.toInt) (ba0_0_0_u : a0_0_0.toInt ≤ (900 : Int)) (ba0_7_0_l : (0 : Int) ≤ a0_7_0.toInt) (ba0_7_0_u : a0_7_0.toInt ≤ (9 : Int)) (ba0_7_5_l : (0 : Int) ≤ a0_7_5.toInt) (ba0_7_5_u : a0_7_5.toInt ≤ (8 : Int)) (ba0_7_6_l : (0 : Int) ≤ a0_7_6.toInt) (ba0_7_6_u : a0_7_6.toInt ≤ (8 : Int)) (ba0_7_7_l : (0 : Int) ≤ a0_7_7.toInt) (ba0_7_7_u : a0_7_7.toInt ≤ (8 : Int)) (ba0_7_9_l : (0 : Int) ≤ a0_7_9.toInt) (ba0_7_9_u : a0_7_9.toInt ≤ (6 : Int)) (ba0_7_14_0_l : (0 : Int) ≤ a0_7_14_0.toInt) (ba0_7_14_0_u : a0_7_14_0.toInt ≤ (3 : Int)) : zm l yX7_size wsX7_size ({ frames := 2, cells := 0, slots := 0, locals := 41 }) [.ref a0, .int a1] dC dI sz [(a0, .inr (7, [.ref a0_0, .ref a0_1, a0g_2, a0g_3, .ref a0_4, a0g_5, a0g_6, .ref a0_7, a0g_8, a0g_9, a0g_10])), (a0_1, .inr (5, [.int a0_1_0, a0_1g_1, a0_1g_2, a0_1g_3, a0_1g_4, a0_1g_5, a0_1g_6])), (a0_4, .inr (1, [.int a0_4_0, .int a0_4_1, a0_4g_2, a0_4g_3, a0_4g_4])), (a0_0, .inr (3, [.int a0_0_0, a0_0g_1, a0_0g_2, a0_0g_3, a0_0g_4, a0_0g_5, a0_0g_6, a0_0g_7, a0_0g_8, a0_0g_9, a0_0g_10, a0_0g_11, a0_0g_12, a0_0g_13])), (a0_7, .inr (0, [.int a0_7_0, .int a0_7_1, .int a0_7_2, .int a0_7_3, a0_7g_4, .int a0_7_5, .int a0_7_6, .int a0_7_7, .int a0_7_8, .int a0_7_9, a0_7g_10, a0_7g_11, a0_7g_12, a0_7g_13, .ref a0_7_14])), (a0_7_14, .inr (6, [.int a0_7_14_0, a0_7_14g_1, a0_7_14g_2, a0_7_14g_3]))] [] (fun A _ => True) (fun A => va_Qi (fun (r : Int32) (_ : Unit) => True) (fun (_ : Unit) (t : State) => ax_B dC dI A [(a0, .inr (7, [.ref a0_0, .ref a0_1, a0g_2, a0g_3, .ref a0_4, a0g_5, a0g_6, .ref a0_7, a0g_8, a0g_9, a0g_10])), (a0_1, .inr (5, [.int a0_1_0, a0_1g_1, a0_1g_2, a0_1g_3, a0_1g_4, a0_1g_5, a0_1g_6])), (a0_4, .inr (1, [.int a0_4_0, .int a0_4_1, a0_4g_2, a0_4g_3, a0_4g_4])), (a0_0, .inr (3, [.int a0_0_0, a0_0g_1, a0_0g_2, a0_0g_3, a0_0g_4, a0_0g_5, a0_0g_6, a0_0g_7, a0_0g_8, a0_0g_9, a0_0g_10, a0_0g_11, a0_0g_12, a0_0g_13])), (a0_7, .inr (0, [.int a0_7_0, .int a0_7_1, .int a0_7_2, .int a0_7_3, a0_7g_4, .int a0_7_5, .int a0_7_6, .int a0_7_7, .int a0_7_8, .int a0_7_9, a0_7g_10, a0_7g_11, a0_7g_12, a0_7g_13, .ref a0_7_14])), (a0_7_14, .inr (6, [.int a0_7_14_0, a0_7_14g_1, a0_7_14g_2, a0_7_14g_3]))] [] t) A) := by
  refine zh (cc := cX7_size) (maxL := 2) (ret := (some .int)) zn_RX7 rfl (Nat.le_of_ble_eq_true rfl) (fun p e s m below meth c A ls hx hb hml hr hts (hown : s.vm.findClass RX7 = some m.cls) hlocks hA hS hP hK hD hE (hl : lv_has ls 2 [(0, .ref a0), (1, .int a1)]) => ?_)
  refine lv_iload_n hx hb dX7_size_0 rfl (lv_at hl 1 rfl) ?_
  by_cases n_1 : a1 = 10
  · subst n_1
    refine lv_tableIn (off := 31) (tgt := 32) hx hb dX7_size_1 (by decide) (by decide) (by decide +kernel) (by decide) ?_
    refine lv_aload_n hx hb dX7_size_32 rfl (lv_at hl 0 rfl) ?_
    refine va_get (D := (dC, dI)) (ci := 7) (v := .ref a0_1) (C := RX7) (T := TX7) (N := 11) hx hb hts zi_X7_size_7 hown hK hP 0 rfl rfl 1 (by decide) (hts (.fieldLink RX7 19 "WaxTurns" "now" "LWaxTurns$Scene;") (zm_X7_size_r1 (List.mem_of_getElem? (i := 0) rfl))) (fun _ h9 => h9) rfl dX7_size_33 ?_
    refine va_get (D := (dC, dI)) (ci := 5) (v := .int a0_1_0) (C := RX5) (T := TX5) (N := 7) hx hb hts zi_X7_size_5 hown hK hP 1 rfl rfl 0 (by decide) (hts (.fieldLink RX7 147 "WaxTurns$Scene" "minute" "I") (zm_X7_size_r1 (List.mem_of_getElem? (i := 1) rfl))) (fun _ h9 => h9) rfl dX7_size_36 ?_
    exact W.iret (v := a0_1_0) hx hb hr (fun t ht hW => ⟨⟨a0_1_0, (), rfl, trivial, by rw [ht]; exact hP, va_K.moved hW.alike hK, hD⟩, hS.F ht⟩) hS.2.2 dX7_size_39
  by_cases n_2 : a1 = 11
  · subst n_2
    refine lv_tableIn (off := 39) (tgt := 40) hx hb dX7_size_1 (by decide) (by decide) (by decide +kernel) (by decide) ?_
    refine lv_aload_n hx hb dX7_size_40 rfl (lv_at hl 0 rfl) ?_
    refine va_get (D := (dC, dI)) (ci := 7) (v := .ref a0_4) (C := RX7) (T := TX7) (N := 11) hx hb hts zi_X7_size_7 hown hK hP 0 rfl rfl 4 (by decide) (hts (.fieldLink RX7 36 "WaxTurns" "history" "LWaxTurns$History;") (zm_X7_size_r1 (List.mem_of_getElem? (i := 2) rfl))) (fun _ h9 => h9) rfl dX7_size_41 ?_
    refine va_get (D := (dC, dI)) (ci := 1) (v := .int a0_4_0) (C := RX1) (T := TX1) (N := 5) hx hb hts zi_X7_size_1 hown hK hP 2 rfl rfl 0 (by decide) (hts (.fieldLink RX7 355 "WaxTurns$History" "keptCount" "I") (zm_X7_size_r1 (List.mem_of_getElem? (i := 3) rfl))) (fun _ h9 => h9) rfl dX7_size_44 ?_
    exact W.iret (v := a0_4_0) hx hb hr (fun t ht hW => ⟨⟨a0_4_0, (), rfl, trivial, by rw [ht]; exact hP, va_K.moved hW.alike hK, hD⟩, hS.F ht⟩) hS.2.2 dX7_size_47
  by_cases n_3 : a1 = 12
  · subst n_3
    refine lv_tableIn (off := 47) (tgt := 48) hx hb dX7_size_1 (by decide) (by decide) (by decide +kernel) (by decide) ?_
    refine lv_aload_n hx hb dX7_size_48 rfl (lv_at hl 0 rfl) ?_
    refine va_get (D := (dC, dI)) (ci := 7) (v := .ref a0_4) (C := RX7) (T := TX7) (N := 11) hx hb hts zi_X7_size_7 hown hK hP 0 rfl rfl 4 (by decide) (hts (.fieldLink RX7 36 "WaxTurns" "history" "LWaxTurns$History;") (zm_X7_size_r1 (List.mem_of_getElem? (i := 2) rfl))) (fun _ h9 => h9) rfl dX7_size_49 ?_
    refine va_get (D := (dC, dI)) (ci := 1) (v := .int a0_4_1) (C := RX1) (T := TX1) (N := 5) hx hb hts zi_X7_size_1 hown hK hP 2 rfl rfl 1 (by decide) (hts (.fieldLink RX7 337 "WaxTurns$History" "imageCount" "I") (zm_X7_size_r1 (List.mem_of_getElem? (i := 4) rfl))) (fun _ h9 => h9) rfl dX7_size_52 ?_
    exact W.iret (v := a0_4_1) hx hb hr (fun t ht hW => ⟨⟨a0_4_1, (), rfl, trivial, by rw [ht]; exact hP, va_K.moved hW.alike hK, hD⟩, hS.F ht⟩) hS.2.2 dX7_size_55
  by_cases n_4 : a1 = 13
  · subst n_4
    refine lv_tableIn (off := 55) (tgt := 56) hx hb dX7_size_1 (by decide) (by decide) (by decide +kernel) (by decide) ?_
    refine lv_aload_n hx hb dX7_size_56 rfl (lv_at hl 0 rfl) ?_
    refine va_get (D := (dC, dI)) (ci := 7) (v := .ref a0_0) (C := RX7) (T := TX7) (N := 11) hx hb hts zi_X7_size_7 hown hK hP 0 rfl rfl 0 (by decide) (hts (.fieldLink RX7 12 "WaxTurns" "reade\x72" "LWaxTurns$Reader;") (zm_X7_size_r1 (List.mem_of_getElem? (i := 5) rfl))) (fun _ h9 => h9) rfl dX7_size_57 ?_
    refine va_get (D := (dC, dI)) (ci := 3) (v := .int a0_0_0) (C := RX3) (T := TX3) (N := 14) hx hb hts zi_X7_size_3 hown hK hP 3 rfl rfl 0 (by decide) (hts (.fieldLink RX7 71 "WaxTurns$Reade\x72" "tapeSize" "I") (zm_X7_size_r1 (List.mem_of_getElem? (i := 6) rfl))) (fun _ h9 => h9) rfl dX7_size_60 ?_
    exact W.iret (v := a0_0_0) hx hb hr (fun t ht hW => ⟨⟨a0_0_0, (), rfl, trivial, by rw [ht]; exact hP, va_K.moved hW.alike hK, hD⟩, hS.F ht⟩) hS.2.2 dX7_size_63
  have o_5 : a1.toInt < 10 ∨ 13 < a1.toInt := by
    have en_1 : a1.toInt ≠ 10 := fun h9 => n_1 (Int32.toInt_inj.mp (h9.trans (by decide)))
    have en_2 : a1.toInt ≠ 11 := fun h9 => n_2 (Int32.toInt_inj.mp (h9.trans (by decide)))
    have en_3 : a1.toInt ≠ 12 := fun h9 => n_3 (Int32.toInt_inj.mp (h9.trans (by decide)))
    have en_4 : a1.toInt ≠ 13 := fun h9 => n_4 (Int32.toInt_inj.mp (h9.trans (by decide)))
    omega
  refine lv_tableOut (tgt := 64) hx hb dX7_size_1 o_5 (by decide) ?_
  refine lv_aload_n hx hb dX7_size_64 rfl (lv_at hl 0 rfl) ?_
  refine va_get (D := (dC, dI)) (ci := 7) (v := .ref a0_7) (C := RX7) (T := TX7) (N := 11) hx hb hts zi_X7_size_7 hown hK hP 0 rfl rfl 7 (by decide) (hts (.fieldLink RX7 57 "WaxTurns" "hall" "LWaxTurns$Hall;") (zm_X7_size_r1 (List.mem_of_getElem? (i := 7) rfl))) (fun _ h9 => h9) rfl dX7_size_65 ?_
  refine lv_iload_n hx hb dX7_size_68 rfl (lv_at hl 1 rfl) ?_
  refine zc_cutc (wc := [(a0_7, .inr (0, [.int a0_7_0, .int a0_7_1, .int a0_7_2, .int a0_7_3, a0_7g_4, .int a0_7_5, .int a0_7_6, .int a0_7_7, .int a0_7_8, .int a0_7_9, a0_7g_10, a0_7g_11, a0_7g_12, a0_7g_13, .ref a0_7_14])), (a0_7_14, .inr (6, [.int a0_7_14_0, a0_7_14g_1, a0_7_14g_2, a0_7_14g_3]))]) hP hD hS hA [4, 5] (by decide +kernel) rfl (fun hPc hDc hFc hCc => ?_)
  have hKc := zp_K hK
  refine va_calli (va_runV (As := [.int a1]) (rest := []) ⟨hx, hb, hml, hown, hts⟩ (c_X0_sizeTold l dC dI s.heap.size a0_7 a1 a0_7_0 a0_7_1 a0_7_2 a0_7_3 a0_7g_4 a0_7g_10 a0_7g_11 a0_7g_12 a0_7g_13 a0_7_5 a0_7_6 a0_7_7 a0_7_8 a0_7_9 a0_7_14 a0_7_14_0 a0_7_14g_1 a0_7_14g_2 a0_7_14g_3 ba0_7_0_l ba0_7_0_u ba0_7_5_l ba0_7_5_u ba0_7_6_l ba0_7_6_u ba0_7_7_l ba0_7_7_u ba0_7_9_l ba0_7_9_u ba0_7_14_0_l ba0_7_14_0_u) (cwV 1 hts gX7_size_X0_sizeTold rfl rfl rfl zd_X0_sizeTold ⟨Nat.le_of_ble_eq_true rfl, Nat.le_of_ble_eq_true rfl⟩) ⟨ax_blind (fun _ _ _ _ _ => trivial), zr_0 hKc hPc (q0 := 0) rfl, ax_pre hPc hKc hDc (fun _ _ => trivial)⟩ rfl rfl hl.1 rfl (lv_room (Nat.le_of_ble_eq_true rfl)) dX7_size_69 ⟨Nat.le_of_ble_eq_true rfl, Nat.le_of_ble_eq_true rfl⟩) hS (fun q _ h => hFc q h) hFc (fun r69 u t H locs ht hvm hw hB hz1 hk1 hS => zo hB ht (fun hP1 hK1 hD1 => ?_))
  refine zc_backc (w := [(a0, .inr (7, [.ref a0_0, .ref a0_1, a0g_2, a0g_3, .ref a0_4, a0g_5, a0g_6, .ref a0_7, a0g_8, a0g_9, a0g_10])), (a0_1, .inr (5, [.int a0_1_0, a0_1g_1, a0_1g_2, a0_1g_3, a0_1g_4, a0_1g_5, a0_1g_6])), (a0_4, .inr (1, [.int a0_4_0, .int a0_4_1, a0_4g_2, a0_4g_3, a0_4g_4])), (a0_0, .inr (3, [.int a0_0_0, a0_0g_1, a0_0g_2, a0_0g_3, a0_0g_4, a0_0g_5, a0_0g_6, a0_0g_7, a0_0g_8, a0_0g_9, a0_0g_10, a0_0g_11, a0_0g_12, a0_0g_13])), (a0_7, .inr (0, [.int a0_7_0, .int a0_7_1, .int a0_7_2, .int a0_7_3, a0_7g_4, .int a0_7_5, .int a0_7_6, .int a0_7_7, .int a0_7_8, .int a0_7_9, a0_7g_10, a0_7g_11, a0_7g_12, a0_7g_13, .ref a0_7_14])), (a0_7_14, .inr (6, [.int a0_7_14_0, a0_7_14g_1, a0_7_14g_2, a0_7_14g_3]))]) hP hD hCc hk1 hFc hP1 hD1 [.inl 0, .inl 1, .inl 2, .inl 3, .inr 0, .inr 1] (by decide +kernel) rfl (fun hP hD => ?_)
  exact W.iret (v := r69) hx hb hr (fun t ht hW => ⟨⟨r69, (), rfl, trivial, by rw [ht]; exact hP, va_K.moved hW.alike hK, hD⟩, hS.F ht⟩) hS.2.2 dX7_size_72
end P129_safe
