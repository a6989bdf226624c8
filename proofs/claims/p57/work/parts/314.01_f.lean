section P314_01_f
set_option maxHeartbeats 4000000 in
set_option maxRecDepth 100000 in
theorem f_X0_pass (l : Launch) (dC : Nat → ClassId) (dI : Nat → Nat → Nat) (sz : Nat) (a0 : Nat) (a1 : Nat) (a2 : Nat) (a0_0 : Int32) (a0_1 : Int32) (a0_2 : Int32) (a0g_3 a0g_4 a0g_7 a0g_8 a0g_9 a0g_12 a0g_13 a0g_14 : Value) (a0_5 : Int32) (a0_6 : Int32) (a0_10 : Nat) (a0_11 : Nat) (a1_0 : Int32) (a1_1 : Int32) (a1_2 : Int32) (a1_3 : Int32) (a1_4 : Int32) (a1_5 : Nat) (a1_6 : Nat) (ka0_10 : ClassId) (fa0_10 : Nat → Int32) (ka0_11 : ClassId) (fa0_11 : Nat → Int32) (ka1_5 : ClassId) (fa1_5 : Nat → Int32) (a2_0 : Int32) (a2_1 : Int32) (a2_2 : Nat) (a2_3 : Nat) (ka2_3 : ClassId) (fa2_3 : Nat → Int32) (ka2_2 : ClassId) (fa2_2 : Nat → Int32) (ka1_6 : ClassId) (fa1_6 : Nat → Int32) (ba0_0_l : (0 : Int) ≤ a0_0.toInt) (ba0_0_u : a0_0.toInt ≤ (9 : Int)) (ba0_5_l : (0 : Int) ≤ a0_5.toInt) (ba0_5_u : a0_5.toInt ≤ (8 : Int)) (ba0_6_l : (0 : Int) ≤ a0_6.toInt) (ba0_6_u : a0_6.toInt ≤ (8 : Int)) (ba1_1_l : (0 : Int) ≤ a1_1.toInt) (ba1_1_u : a1_1.toInt ≤ (8 : Int)) (ba2_0_l : (0 : Int) ≤ a2_0.toInt) (ba2_0_u : a2_0.toInt ≤ (3 : Int)) (bfa2_3 : (∀ k, (0 : Int) ≤ (fa2_3 k).toInt ∧ (fa2_3 k).toInt ≤ 80)) (bfa2_2 : (∀ k, (0 : Int) ≤ (fa2_2 k).toInt ∧ (fa2_2 k).toInt ≤ 80)) : zm l yX0_pass wsX0_pass ({ frames := 3, cells := 0, slots := 0, locals := 73 }) [.ref a0, .ref a1, .ref a2] dC dI sz [(a0, .inr (0, [.int a0_0, .int a0_1, .int a0_2, a0g_3, a0g_4, .int a0_5, .int a0_6, a0g_7, a0g_8, a0g_9, .ref a0_10, .ref a0_11, a0g_12, a0g_13, a0g_14])), (a1, .inr (5, [.int a1_0, .int a1_1, .int a1_2, .int a1_3, .int a1_4, .ref a1_5, .ref a1_6])), (a0_10, .inl (ka0_10, 9, .inl (fa0_10))), (a0_11, .inl (ka0_11, 9, .inl (fa0_11))), (a1_5, .inl (ka1_5, 9, .inl (fa1_5))), (a2, .inr (6, [.int a2_0, .int a2_1, .ref a2_2, .ref a2_3])), (a2_3, .inl (ka2_3, 3, .inl (fa2_3))), (a2_2, .inl (ka2_2, 3, .inl (fa2_2))), (a1_6, .inl (ka1_6, 9, .inl (fa1_6)))] [(ka0_10, .int), (ka0_11, .int), (ka1_5, .int), (ka2_3, .int), (ka2_2, .int), (ka1_6, .int)] (fun A U => va_Nw (.methodLinkNest RX0 118 yX7_within RX7) U ∧ va_Nw (.methodLinkNest RX5 38 yX7_hasBit RX7) U ∧ va_Nw (.methodLinkNest RX0 129 yX7_hasBit RX7) U) (fun A => va_Qv (fun (_ : Unit) => True) (fun (_ : Unit) (t : State) => ∃ na1_0 : Int32, ∃ na1_1 : Int32, ∃ na1_2 : Int32, ∃ na1_3 : Int32, ∃ na1_4 : Int32, ∃ nfa1_5 : Nat → Int32, ∃ nfa1_6 : Nat → Int32, ((0 : Int) ≤ na1_1.toInt ∧ na1_1.toInt ≤ 8) ∧ (Ff_X0_pass a0_0.toInt a0_1.toInt a0_2.toInt a0_5.toInt a0_6.toInt a1_0.toInt a1_1.toInt a1_2.toInt a1_3.toInt a1_4.toInt (fl_A fa0_10) (fl_A fa0_11) (fl_A fa1_5) a2_0.toInt a2_1.toInt (fl_A fa2_3) (fl_A fa2_2) (fl_A fa1_6) = (na1_0.toInt, na1_1.toInt, na1_2.toInt, na1_3.toInt, na1_4.toInt, (fl_A nfa1_5), (fl_A nfa1_6))) ∧ ax_B dC dI A [(a0, .inr (0, [.int a0_0, .int a0_1, .int a0_2, a0g_3, a0g_4, .int a0_5, .int a0_6, a0g_7, a0g_8, a0g_9, .ref a0_10, .ref a0_11, a0g_12, a0g_13, a0g_14])), (a1, .inr (5, [.int na1_0, .int na1_1, .int na1_2, .int na1_3, .int na1_4, .ref a1_5, .ref a1_6])), (a0_10, .inl (ka0_10, 9, .inl (fa0_10))), (a0_11, .inl (ka0_11, 9, .inl (fa0_11))), (a1_5, .inl (ka1_5, 9, .inl (nfa1_5))), (a2, .inr (6, [.int a2_0, .int a2_1, .ref a2_2, .ref a2_3])), (a2_3, .inl (ka2_3, 3, .inl (fa2_3))), (a2_2, .inl (ka2_2, 3, .inl (fa2_2))), (a1_6, .inl (ka1_6, 9, .inl (nfa1_6)))] [(ka0_10, .int), (ka0_11, .int), (ka1_5, .int), (ka2_3, .int), (ka2_2, .int), (ka1_6, .int)] t) A) := by
  refine zh (cc := cX0_pass) (maxL := 6) (ret := none) zn_RX0 rfl (Nat.le_of_ble_eq_true rfl) (fun p e s m below meth c A ls hx hb hml hr hts (hown : s.vm.findClass RX0 = some m.cls) hlocks hA hS hP hK hD hE (hl : lv_has ls 6 [(0, .ref a0), (1, .ref a1), (2, .ref a2)]) => ?_)
  obtain ⟨hE0, hE1, hE2⟩ := hE
  generalize hFX : Ff_X0_pass a0_0.toInt a0_1.toInt a0_2.toInt a0_5.toInt a0_6.toInt a1_0.toInt a1_1.toInt a1_2.toInt a1_3.toInt a1_4.toInt (fl_A fa0_10) (fl_A fa0_11) (fl_A fa1_5) a2_0.toInt a2_1.toInt (fl_A fa2_3) (fl_A fa2_2) (fl_A fa1_6) = FX at ⊢
  have hF0 := hFX.symm.trans (Ff_X0_pass.eq_1 a0_0.toInt a0_1.toInt a0_2.toInt a0_5.toInt a0_6.toInt a1_0.toInt a1_1.toInt a1_2.toInt a1_3.toInt a1_4.toInt (fl_A fa0_10) (fl_A fa0_11) (fl_A fa1_5) a2_0.toInt a2_1.toInt (fl_A fa2_3) (fl_A fa2_2) (fl_A fa1_6))
  refine lv_aload_n hx hb dX0_pass_0 rfl (lv_at hl 1 rfl) ?_
  refine va_get (D := (dC, dI)) (ci := 5) (v := .int a1_1) (C := RX5) (T := TX5) (N := 7) hx hb hts zi_X0_pass_5 hown hK hP 1 rfl rfl 1 (by decide) (hts (.fieldLink RX0 79 "WaxTurns$Scene" "turn" "I") (zm_X0_pass_r1 (List.mem_of_getElem? (i := 0) rfl))) (fun _ h9 => h9) rfl dX0_pass_1 ?_
  refine lv_istore_n (lv' := [(3, .int a1_1), (0, .ref a0), (1, .ref a1), (2, .ref a2)]) hx hb dX0_pass_4 rfl hl (by decide) rfl (fun ls hl => ?_)
  refine lv_aload_n hx hb dX0_pass_5 rfl (lv_at hl 2 rfl) ?_
  refine va_get (D := (dC, dI)) (ci := 5) (v := .int a1_2) (C := RX5) (T := TX5) (N := 7) hx hb hts zi_X0_pass_5 hown hK hP 1 rfl rfl 2 (by decide) (hts (.fieldLink RX0 84 "WaxTurns$Scene" "spent" "I") (zm_X0_pass_r1 (List.mem_of_getElem? (i := 1) rfl))) (fun _ h9 => h9) rfl dX0_pass_6 ?_
  refine lv_iconst (v := 1) hx hb dX0_pass_9 zk_iconst_1 ?_
  refine lv_iadd hx hb dX0_pass_10 ?_
  refine lv_topi (fun x10 ex10 => ?_)
  have fqx10 := fl_iadd_eq ex10
  have hF0 := hF0.trans (fl_lt_eq (show x10.toInt = fl_iadd a1_2.toInt 1 from fqx10))
  refine lv_istore (lv' := [(4, .int x10), (3, .int a1_1), (0, .ref a0), (1, .ref a1), (2, .ref a2)]) hx hb dX0_pass_11 hl (by decide) rfl (fun ls hl => ?_)
  refine lv_aload_n hx hb dX0_pass_13 rfl (lv_at hl 2 rfl) ?_
  refine lv_iload_n hx hb dX0_pass_14 rfl (lv_at hl 1 rfl) ?_
  refine lv_iload hx hb dX0_pass_15 (lv_at hl 0 rfl) ?_
  refine zc_cutc (wc := [(a0, .inr (0, [.int a0_0, .int a0_1, .int a0_2, a0g_3, a0g_4, .int a0_5, .int a0_6, a0g_7, a0g_8, a0g_9, .ref a0_10, .ref a0_11, a0g_12, a0g_13, a0g_14])), (a0_10, .inl (ka0_10, 9, .inl (fa0_10))), (a0_11, .inl (ka0_11, 9, .inl (fa0_11)))]) hP hD hS hA [0, 2, 3] (by decide +kernel) rfl (fun hPc hDc hFc hCc => ?_)
  have hKc := hK.sub (tys' := [(ka0_10, .int), (ka0_11, .int)]) [0, 1] rfl
  refine va_calli (va_runV (As := [.int a1_1, .int x10]) (rest := []) ⟨hx, hb, hml, hown, hts⟩ (f_X0_stepsIn l dC dI s.heap.size a0 a1_1 x10 (.int a0_0) (.int a0_1) (.int a0_2) a0g_3 a0g_4 (.int a0_5) (.int a0_6) a0g_7 a0g_8 a0g_9 a0g_12 a0g_13 a0g_14 a0_10 a0_11 ka0_10 fa0_10 ka0_11 fa0_11 ) (cwV 2 hts gX0_pass_X0_stepsIn rfl rfl rfl zd_X0_stepsIn ⟨Nat.le_of_ble_eq_true rfl, Nat.le_of_ble_eq_true rfl⟩) ⟨ax_blind (fun _ _ _ _ hq => va_Nw.same rfl rfl (hq)), zr_0 hKc hPc (q0 := 0) rfl, ax_pre hPc hKc hDc (fun _ hW => va_Nw.warmM hW hE0)⟩ rfl rfl hl.1 rfl (lv_room (Nat.le_of_ble_eq_true rfl)) dX0_pass_17 ⟨Nat.le_of_ble_eq_true rfl, Nat.le_of_ble_eq_true rfl⟩) hS (fun q _ h => hFc q h) hFc (fun r17 u t H locs ht hvm hw hB hz1 hk1 hS1 => zo hB ht hS1 (fun hP1 hK1 hD1 hS => ?_))
  refine zc_backc (w := [(a0, .inr (0, [.int a0_0, .int a0_1, .int a0_2, a0g_3, a0g_4, .int a0_5, .int a0_6, a0g_7, a0g_8, a0g_9, .ref a0_10, .ref a0_11, a0g_12, a0g_13, a0g_14])), (a1, .inr (5, [.int a1_0, .int a1_1, .int a1_2, .int a1_3, .int a1_4, .ref a1_5, .ref a1_6])), (a0_10, .inl (ka0_10, 9, .inl (fa0_10))), (a0_11, .inl (ka0_11, 9, .inl (fa0_11))), (a1_5, .inl (ka1_5, 9, .inl (fa1_5))), (a2, .inr (6, [.int a2_0, .int a2_1, .ref a2_2, .ref a2_3])), (a2_3, .inl (ka2_3, 3, .inl (fa2_3))), (a2_2, .inl (ka2_2, 3, .inl (fa2_2))), (a1_6, .inl (ka1_6, 9, .inl (fa1_6)))]) hP hD hCc hk1 hFc hP1 hD1 [.inr 0, .inl 1, .inr 1, .inr 2, .inl 4, .inl 5, .inl 6, .inl 7, .inl 8] (by decide +kernel) rfl (fun hP hD => ?_)
  obtain ⟨hw, hfr17⟩ := hw
  have hc17 : Ff_X0_stepsIn a1_1.toInt x10.toInt (fl_A fa0_10) (fl_A fa0_11) = r17.toInt := hfr17.symm
  have hF0 := hF0.trans (fl_lt_eq hc17.symm)
  rcases hw with hw | hw
  · obtain ⟨hw, h17_0, h17_1⟩ := hw
    subst hw
    have l17k0_a1_1 : (0 : Int) ≤ a1_1.toInt := ba1_1_l
    have u17k0_a1_1 : a1_1.toInt ≤ (8 : Int) := ba1_1_u
    have hF0 := hF0.trans (if_pos (by decide))
    refine lv_if_eq (tgt := 30) hx hb dX0_pass_20 (by decide) (fun c20 => absurd c20 (by decide +kernel)) (fun _ => ?_)
    refine lv_aload_n hx hb dX0_pass_23 rfl (lv_at hl 2 rfl) ?_
    refine lv_aload_n hx hb dX0_pass_24 rfl (lv_at hl 3 rfl) ?_
    refine lv_iload_n hx hb dX0_pass_25 rfl (lv_at hl 1 rfl) ?_
    refine lv_aload_n hx hb dX0_pass_26 rfl (lv_at hl 4 rfl) ?_
    refine zc_cutc (wc := [(a0, .inr (0, [.int a0_0, .int a0_1, .int a0_2, a0g_3, a0g_4, .int a0_5, .int a0_6, a0g_7, a0g_8, a0g_9, .ref a0_10, .ref a0_11, a0g_12, a0g_13, a0g_14])), (a1, .inr (5, [.int a1_0, .int a1_1, .int a1_2, .int a1_3, .int a1_4, .ref a1_5, .ref a1_6])), (a1_5, .inl (ka1_5, 9, .inl (fa1_5))), (a2, .inr (6, [.int a2_0, .int a2_1, .ref a2_2, .ref a2_3])), (a2_3, .inl (ka2_3, 3, .inl (fa2_3))), (a2_2, .inl (ka2_2, 3, .inl (fa2_2)))]) hP hD hS hA [0, 1, 4, 5, 6, 7] (by decide +kernel) rfl (fun hPc hDc hFc hCc => ?_)
    have hKc := hK.sub (tys' := [(ka1_5, .int), (ka2_3, .int), (ka2_2, .int)]) [2, 3, 4] rfl
    refine va_callv (va_runV (As := [.ref a1, .int a1_1, .ref a2]) (rest := []) ⟨hx, hb, hml, hown, hts⟩ (f_X0_step l dC dI H.size a0 a1 a1_1 a2 (.int a0_0) (.int a0_1) a0g_3 a0g_4 (.int a0_5) (.int a0_6) a0g_7 a0g_8 a0g_9 (.ref a0_10) (.ref a0_11) a0g_12 a0g_13 a0g_14 a0_2 a1_0 (.int a1_1) (.int a1_2) (.ref a1_6) a1_3 a1_4 a1_5 ka1_5 fa1_5 a2_0 a2_1 a2_2 a2_3 ka2_3 fa2_3 ka2_2 fa2_2 l17k0_a1_1 u17k0_a1_1 ba2_0_l ba2_0_u bfa2_3 bfa2_2) (cwV 3 hts gX0_pass_X0_step rfl rfl rfl zd_X0_step ⟨Nat.le_of_ble_eq_true rfl, Nat.le_of_ble_eq_true rfl⟩) ⟨ax_blind (fun _ _ _ _ hq => ⟨va_Nw.same rfl rfl (hq.1), va_Nw.same rfl rfl (hq.2)⟩), zr_0 hKc hPc (q0 := 0) rfl, ax_pre hPc hKc hDc (fun _ hW => ⟨va_Nw.warmM hW hE1, va_Nw.warmM hW hE2⟩)⟩ rfl rfl hl.1 rfl (lv_room (Nat.le_of_ble_eq_true rfl)) dX0_pass_27 ⟨Nat.le_of_ble_eq_true rfl, Nat.le_of_ble_eq_true rfl⟩) hS (fun q _ h => hFc q h) hFc (fun u t H locs ht hvm hw => zx_3 (fun v27na1_3 v27na1_4 v27nfa1_5 => zy_1 (fun hraw27_0 hB hz1 hk1 hS1 => zo hB ht hS1 (fun hP1 hK1 hD1 hS => ?_))))
    refine zc_backc (w := [(a0, .inr (0, [.int a0_0, .int a0_1, .int a0_2, a0g_3, a0g_4, .int a0_5, .int a0_6, a0g_7, a0g_8, a0g_9, .ref a0_10, .ref a0_11, a0g_12, a0g_13, a0g_14])), (a1, .inr (5, [.int a1_0, .int a1_1, .int a1_2, .int v27na1_3, .int v27na1_4, .ref a1_5, .ref a1_6])), (a0_10, .inl (ka0_10, 9, .inl (fa0_10))), (a0_11, .inl (ka0_11, 9, .inl (fa0_11))), (a1_5, .inl (ka1_5, 9, .inl (v27nfa1_5))), (a2, .inr (6, [.int a2_0, .int a2_1, .ref a2_2, .ref a2_3])), (a2_3, .inl (ka2_3, 3, .inl (fa2_3))), (a2_2, .inl (ka2_2, 3, .inl (fa2_2))), (a1_6, .inl (ka1_6, 9, .inl (fa1_6)))]) hP hD hCc hk1 hFc hP1 hD1 [.inr 0, .inr 1, .inl 2, .inl 3, .inr 2, .inr 3, .inr 4, .inr 5, .inl 8] (by decide +kernel) rfl (fun hP hD => ?_)
    have hc27 : Ff_X0_step a1_1.toInt a0_2.toInt a1_0.toInt a1_3.toInt a1_4.toInt (fl_A fa1_5) a2_0.toInt a2_1.toInt (fl_A fa2_3) (fl_A fa2_2) = (v27na1_3.toInt, v27na1_4.toInt, (fl_A v27nfa1_5)) := hraw27_0
    have hF0 := hF0.trans (fl_c3_eq hc27)
    refine lv_aload_n hx hb dX0_pass_30 rfl (lv_at hl 2 rfl) ?_
    refine lv_iload_n hx hb dX0_pass_31 rfl (lv_at hl 1 rfl) ?_
    refine lv_iload hx hb dX0_pass_32 (lv_at hl 0 rfl) ?_
    refine zc_cutc (wc := [(a0, .inr (0, [.int a0_0, .int a0_1, .int a0_2, a0g_3, a0g_4, .int a0_5, .int a0_6, a0g_7, a0g_8, a0g_9, .ref a0_10, .ref a0_11, a0g_12, a0g_13, a0g_14])), (a0_10, .inl (ka0_10, 9, .inl (fa0_10))), (a0_11, .inl (ka0_11, 9, .inl (fa0_11)))]) hP hD hS hA [0, 2, 3] (by decide +kernel) rfl (fun hPc hDc hFc hCc => ?_)
    have hKc := hK.sub (tys' := [(ka0_10, .int), (ka0_11, .int)]) [0, 1] rfl
    refine va_calli (va_runV (As := [.int a1_1, .int x10]) (rest := []) ⟨hx, hb, hml, hown, hts⟩ (f_X0_partSaid l dC dI H.size a0 a1_1 x10 (.int a0_0) (.int a0_1) (.int a0_2) a0g_3 a0g_4 (.int a0_5) (.int a0_6) a0g_7 a0g_8 a0g_9 a0g_12 a0g_13 a0g_14 a0_10 a0_11 ka0_10 fa0_10 ka0_11 fa0_11 ) (cwV 2 hts gX0_pass_X0_partSaid rfl rfl rfl zd_X0_partSaid ⟨Nat.le_of_ble_eq_true rfl, Nat.le_of_ble_eq_true rfl⟩) ⟨ax_blind (fun _ _ _ _ hq => va_Nw.same rfl rfl (hq)), zr_0 hKc hPc (q0 := 0) rfl, ax_pre hPc hKc hDc (fun _ hW => va_Nw.warmM hW hE0)⟩ rfl rfl hl.1 rfl (lv_room (Nat.le_of_ble_eq_true rfl)) dX0_pass_34 ⟨Nat.le_of_ble_eq_true rfl, Nat.le_of_ble_eq_true rfl⟩) hS (fun q _ h => hFc q h) hFc (fun r34 u t H locs ht hvm hw hB hz1 hk1 hS1 => zo hB ht hS1 (fun hP1 hK1 hD1 hS => ?_))
    refine zc_backc (w := [(a0, .inr (0, [.int a0_0, .int a0_1, .int a0_2, a0g_3, a0g_4, .int a0_5, .int a0_6, a0g_7, a0g_8, a0g_9, .ref a0_10, .ref a0_11, a0g_12, a0g_13, a0g_14])), (a1, .inr (5, [.int a1_0, .int a1_1, .int a1_2, .int v27na1_3, .int v27na1_4, .ref a1_5, .ref a1_6])), (a0_10, .inl (ka0_10, 9, .inl (fa0_10))), (a0_11, .inl (ka0_11, 9, .inl (fa0_11))), (a1_5, .inl (ka1_5, 9, .inl (v27nfa1_5))), (a2, .inr (6, [.int a2_0, .int a2_1, .ref a2_2, .ref a2_3])), (a2_3, .inl (ka2_3, 3, .inl (fa2_3))), (a2_2, .inl (ka2_2, 3, .inl (fa2_2))), (a1_6, .inl (ka1_6, 9, .inl (fa1_6)))]) hP hD hCc hk1 hFc hP1 hD1 [.inr 0, .inl 1, .inr 1, .inr 2, .inl 4, .inl 5, .inl 6, .inl 7, .inl 8] (by decide +kernel) rfl (fun hP hD => ?_)
    obtain ⟨hw, hfr34⟩ := hw
    have hc34 : Ff_X0_partSaid a1_1.toInt x10.toInt (fl_A fa0_10) (fl_A fa0_11) = r34.toInt := hfr34.symm
    have hF0 := hF0.trans (fl_lt_eq hc34.symm)
    refine lv_istore (lv' := [(5, .int r34), (4, .int x10), (3, .int a1_1), (0, .ref a0), (1, .ref a1), (2, .ref a2)]) hx hb dX0_pass_37 hl (by decide) rfl (fun ls hl => ?_)
    refine lv_iload hx hb dX0_pass_39 (lv_at hl 0 rfl) ?_
    refine lv_if_eq (tgt := 75) hx hb dX0_pass_41 (by decide) (fun c41 => ?_) (fun c41 => ?_)
    · have gc41 := ai_eq c41
      have u41t_r34 : r34.toInt ≤ (0 : Int) := Int.le_trans (Int.le_of_eq gc41) zq6
      have l41t_r34 : (0 : Int) ≤ r34.toInt := Int.le_trans zq5 (Int.le_of_eq gc41.symm)
      have hF0 := hF0.trans (if_pos (show r34.toInt = 0 from gc41))
      refine lv_aload_n hx hb dX0_pass_75 rfl (lv_at hl 4 rfl) ?_
      refine lv_dup hx hb dX0_pass_76 rfl ?_
      refine va_get (D := (dC, dI)) (ci := 5) (v := .int a1_0) (C := RX5) (T := TX5) (N := 7) hx hb hts zi_X0_pass_5 hown hK hP 1 rfl rfl 0 (by decide) (hts (.fieldLink RX0 102 "WaxTurns$Scene" "minute" "I") (zm_X0_pass_r1 (List.mem_of_getElem? (i := 3) rfl))) (fun _ h9 => h9) rfl dX0_pass_77 ?_
      refine lv_iconst (v := 1) hx hb dX0_pass_80 zk_iconst_1 ?_
      refine lv_iadd hx hb dX0_pass_81 ?_
      refine lv_topi (fun x81 ex81 => ?_)
      have fqx81 := fl_iadd_eq ex81
      have hF0 := hF0.trans (fl_lt_eq (show x81.toInt = fl_iadd a1_0.toInt 1 from fqx81))
      refine va_put (D := (dC, dI)) (ci := 5) (v := .int x81) (ty := .int) (C := RX5) (T := TX5) (N := 7) hx hb hts zi_X0_pass_5 tyX5 tyX5_ok nmX5 hown hK hP hD hS 1 rfl rfl 0 (by decide) (hts (.fieldLink RX0 102 "WaxTurns$Scene" "minute" "I") (zm_X0_pass_r1 (List.mem_of_getElem? (i := 3) rfl))) (fun _ h9 => h9) rfl (tyX5_ok 0 (by decide)) rfl rfl (Nat.le_of_ble_eq_true rfl) dX0_pass_82 (fun H locs hP hD hS => ?_)
      refine zs_1 (y := (a1, .inr (5, [.int x81, .int a1_1, .int a1_2, .int v27na1_3, .int v27na1_4, .ref a1_5, .ref a1_6]))) hP hD rfl (fun hP hD => ?_)
      refine lv_aload_n hx hb dX0_pass_85 rfl (lv_at hl 4 rfl) ?_
      refine lv_iload hx hb dX0_pass_86 (lv_at hl 1 rfl) ?_
      refine va_put (D := (dC, dI)) (ci := 5) (v := .int x10) (ty := .int) (C := RX5) (T := TX5) (N := 7) hx hb hts zi_X0_pass_5 tyX5 tyX5_ok nmX5 hown hK hP hD hS 1 rfl rfl 2 (by decide) (hts (.fieldLink RX0 84 "WaxTurns$Scene" "spent" "I") (zm_X0_pass_r1 (List.mem_of_getElem? (i := 1) rfl))) (fun _ h9 => h9) rfl (tyX5_ok 2 (by decide)) rfl rfl (Nat.le_of_ble_eq_true rfl) dX0_pass_88 (fun H locs hP hD hS => ?_)
      refine zs_1 (y := (a1, .inr (5, [.int x81, .int a1_1, .int x10, .int v27na1_3, .int v27na1_4, .ref a1_5, .ref a1_6]))) hP hD rfl (fun hP hD => ?_)
      refine lv_iload hx hb dX0_pass_91 (lv_at hl 1 rfl) ?_
      refine lv_aload_n hx hb dX0_pass_93 rfl (lv_at hl 3 rfl) ?_
      refine va_get (D := (dC, dI)) (ci := 0) (v := .int a0_1) (C := RX0) (T := TX0) (N := 15) hx hb hts zi_X0_pass_0 hown hK hP 0 rfl rfl 1 (by decide) (hts (.fieldLink RX0 48 "WaxTurns$Hall" "span" "I") (zm_X0_pass_r1 (List.mem_of_getElem? (i := 5) rfl))) (fun _ h9 => h9) rfl dX0_pass_94 ?_
      refine lv_icmp_lt (tgt := 109) hx hb dX0_pass_97 (by decide) (fun c97 => ?_) (fun c97 => ?_)
      · have gc97 := ai_lt c97
        have u97t_x10 : x10.toInt ≤ (2147483646 : Int) := ai_lthi gc97 (ai_max a0_1)
        have l97t_a0_1 : (-2147483647 : Int) ≤ a0_1.toInt := ai_ltlo gc97 (ai_min x10)
        have hF0 := hF0.trans (if_pos (show x10.toInt < a0_1.toInt from gc97))
        have hFe : FX = (x81.toInt, a1_1.toInt, x10.toInt, v27na1_3.toInt, v27na1_4.toInt, (fl_A v27nfa1_5), (fl_A fa1_6)) := hF0
        exact W.vret hx hb hr (fun t ht hW => ⟨⟨(), rfl, trivial, x81, a1_1, x10, v27na1_3, v27na1_4, v27nfa1_5, fa1_6, ⟨l17k0_a1_1, u17k0_a1_1⟩, hFe, by rw [ht]; exact hP, va_K.moved hW.alike hK, hD⟩, hS.F ht⟩) hS.2.2 dX0_pass_109
      · have gc97 := ai_nlt c97
        have hF0 := hF0.trans (if_neg (show ¬ (x10.toInt < a0_1.toInt) from Int.not_lt.mpr gc97))
        refine lv_aload_n hx hb dX0_pass_100 rfl (lv_at hl 4 rfl) ?_
        refine lv_aload_n hx hb dX0_pass_101 rfl (lv_at hl 3 rfl) ?_
        refine lv_iload_n hx hb dX0_pass_102 rfl (lv_at hl 2 rfl) ?_
        refine va_calli (va_runV (As := [.int a1_1]) (rest := [.ref a1]) ⟨hx, hb, hml, hown, hts⟩ (f_X0_next l dC dI H.size a0 a1_1 a0_0 (.int a0_1) (.int a0_2) a0g_3 a0g_4 a0g_7 a0g_8 a0g_9 (.ref a0_10) (.ref a0_11) a0g_12 a0g_13 a0g_14 a0_5 a0_6 l17k0_a1_1 u17k0_a1_1 ba0_0_l ba0_0_u ba0_5_l ba0_5_u ba0_6_l ba0_6_u) (cwV 1 hts gX0_pass_X0_next rfl rfl rfl zd_X0_next ⟨Nat.le_of_ble_eq_true rfl, Nat.le_of_ble_eq_true rfl⟩) ⟨ax_blind (fun _ _ _ _ _ => trivial), zr_0 (zp_K hK) (zp_P1 hP) (q0 := 0) rfl, ax_pre (zp_P1 hP) (zp_K hK) (zp_D1 hD) (fun _ _ => trivial)⟩ rfl rfl hl.1 rfl (lv_room (Nat.le_of_ble_eq_true rfl)) dX0_pass_103 ⟨Nat.le_of_ble_eq_true rfl, Nat.le_of_ble_eq_true rfl⟩) hS (fun q _ h => zp_F1 hD hS hA q h) (zp_F1 hD hS hA) (fun r103 u t H locs ht hvm hw hB hz1 hk1 hS1 => zo1 hB ht hP hD hk1 (zp_F1 hD hS hA) hS1 (fun hP hK1 hD hS => ?_))
        obtain ⟨hw, hfr103⟩ := hw
        have hc103 : Ff_X0_next a1_1.toInt a0_0.toInt a0_5.toInt a0_6.toInt = r103.toInt := hfr103.symm
        have hF0 := hF0.trans (fl_lt_eq hc103.symm)
        have hw : (0 : Int) ≤ r103.toInt ∧ r103.toInt ≤ (8 : Int) := hw
        obtain ⟨h103_0, h103_1⟩ := hw
        refine zc_cutc (wc := [(a1, .inr (5, [.int x81, .int a1_1, .int x10, .int v27na1_3, .int v27na1_4, .ref a1_5, .ref a1_6]))]) hP hD hS hA [1] (by decide +kernel) rfl (fun hPc hDc hFc hCc => ?_)
        have hKc := zp_K hK
        refine va_callv (va_runV (As := [.int r103]) (rest := []) ⟨hx, hb, hml, hown, hts⟩ (f_X5_startTurn l dC dI H.size a1 r103 (.int x81) (.int v27na1_3) (.int v27na1_4) (.ref a1_5) (.ref a1_6) a1_1 x10 h103_0 h103_1 l17k0_a1_1 u17k0_a1_1) (cwV 1 hts gX0_pass_X5_startTurn rfl rfl rfl zd_X5_startTurn ⟨Nat.le_of_ble_eq_true rfl, Nat.le_of_ble_eq_true rfl⟩) ⟨ax_blind (fun _ _ _ _ _ => trivial), zr_5 hKc hPc (q0 := 0) rfl, ax_pre hPc hKc hDc (fun _ _ => trivial)⟩ rfl rfl hl.1 rfl (lv_room (Nat.le_of_ble_eq_true rfl)) dX0_pass_106 ⟨Nat.le_of_ble_eq_true rfl, Nat.le_of_ble_eq_true rfl⟩) hS (fun q _ h => hFc q h) hFc (fun u t H locs ht hvm hw => zx_2 (fun v106na0_1 v106na0_2 => zy_2 (fun bv106na0_1 hraw106_0 hB hz1 hk1 hS1 => zo hB ht hS1 (fun hP1 hK1 hD1 hS => ?_))))
        refine zc_backc (w := [(a0, .inr (0, [.int a0_0, .int a0_1, .int a0_2, a0g_3, a0g_4, .int a0_5, .int a0_6, a0g_7, a0g_8, a0g_9, .ref a0_10, .ref a0_11, a0g_12, a0g_13, a0g_14])), (a1, .inr (5, [.int x81, .int v106na0_1, .int v106na0_2, .int v27na1_3, .int v27na1_4, .ref a1_5, .ref a1_6])), (a0_10, .inl (ka0_10, 9, .inl (fa0_10))), (a0_11, .inl (ka0_11, 9, .inl (fa0_11))), (a1_5, .inl (ka1_5, 9, .inl (v27nfa1_5))), (a2, .inr (6, [.int a2_0, .int a2_1, .ref a2_2, .ref a2_3])), (a2_3, .inl (ka2_3, 3, .inl (fa2_3))), (a2_2, .inl (ka2_2, 3, .inl (fa2_2))), (a1_6, .inl (ka1_6, 9, .inl (fa1_6)))]) hP hD hCc hk1 hFc hP1 hD1 [.inl 0, .inr 0, .inl 2, .inl 3, .inl 4, .inl 5, .inl 6, .inl 7, .inl 8] (by decide +kernel) rfl (fun hP hD => ?_)
        have hc106 : Ff_X5_startTurn r103.toInt = (v106na0_1.toInt, v106na0_2.toInt) := hraw106_0
        have hF0 := hF0.trans (fl_c2_eq hc106)
        have hFe : FX = (x81.toInt, v106na0_1.toInt, v106na0_2.toInt, v27na1_3.toInt, v27na1_4.toInt, (fl_A v27nfa1_5), (fl_A fa1_6)) := hF0
        exact W.vret hx hb hr (fun t ht hW => ⟨⟨(), rfl, trivial, x81, v106na0_1, v106na0_2, v27na1_3, v27na1_4, v27nfa1_5, fa1_6, ⟨bv106na0_1.1, bv106na0_1.2⟩, hFe, by rw [ht]; exact hP, va_K.moved hW.alike hK, hD⟩, hS.F ht⟩) hS.2.2 dX0_pass_109
    · have gc41 := ai_ne c41
      have hF0 := hF0.trans (if_neg (show ¬ (r34.toInt = 0) from  gc41))
      refine lv_aload_n hx hb dX0_pass_44 rfl (lv_at hl 4 rfl) ?_
      refine va_get (D := (dC, dI)) (ci := 5) (v := .ref a1_5) (C := RX5) (T := TX5) (N := 7) hx hb hts zi_X0_pass_5 hown hK hP 1 rfl rfl 5 (by decide) (hts (.fieldLink RX0 99 "WaxTurns$Scene" "places" "[I") (zm_X0_pass_r1 (List.mem_of_getElem? (i := 2) rfl))) (fun _ h9 => h9) rfl dX0_pass_45 ?_
      refine lv_iload_n hx hb dX0_pass_48 rfl (lv_at hl 2 rfl) ?_
      refine va_iald hx hb hK hP 4 2 rfl rfl (ai_in l17k0_a1_1 u17k0_a1_1 (by decide) (by decide)) dX0_pass_49 ?_
      refine lv_topi (fun x49 ex49 => ?_)
      have fqx49 := congrArg Int32.toInt ex49
      have hF0 := hF0.trans (fl_lt_eq (show x49.toInt = (fl_A v27nfa1_5) (a1_1.toInt.toNat) from fqx49))
      refine lv_aload_n hx hb dX0_pass_50 rfl (lv_at hl 5 rfl) ?_
      refine lv_aload_n hx hb dX0_pass_51 rfl (lv_at hl 4 rfl) ?_
      refine va_get (D := (dC, dI)) (ci := 5) (v := .int a1_0) (C := RX5) (T := TX5) (N := 7) hx hb hts zi_X0_pass_5 hown hK hP 1 rfl rfl 0 (by decide) (hts (.fieldLink RX0 102 "WaxTurns$Scene" "minute" "I") (zm_X0_pass_r1 (List.mem_of_getElem? (i := 3) rfl))) (fun _ h9 => h9) rfl dX0_pass_52 ?_
      refine zc_cutc (wc := [(a2, .inr (6, [.int a2_0, .int a2_1, .ref a2_2, .ref a2_3])), (a2_3, .inl (ka2_3, 3, .inl (fa2_3))), (a2_2, .inl (ka2_2, 3, .inl (fa2_2)))]) hP hD hS hA [5, 6, 7] (by decide +kernel) rfl (fun hPc hDc hFc hCc => ?_)
      have hKc := hK.sub (tys' := [(ka2_3, .int), (ka2_2, .int)]) [3, 4] rfl
      refine va_calli (va_runV (As := [.int a1_0]) (rest := [.int x49]) ⟨hx, hb, hml, hown, hts⟩ (f_X6_placesIn l dC dI H.size a2 a1_0 a2_0 a2_1 a2_2 a2_3 ka2_3 fa2_3 ka2_2 fa2_2 ba2_0_l ba2_0_u bfa2_3 bfa2_2) (cwV 1 hts gX0_pass_X6_placesIn rfl rfl rfl zd_X6_placesIn ⟨Nat.le_of_ble_eq_true rfl, Nat.le_of_ble_eq_true rfl⟩) ⟨ax_blind (fun _ _ _ _ _ => trivial), zr_6 hKc hPc (q0 := 0) rfl, ax_pre hPc hKc hDc (fun _ _ => trivial)⟩ rfl rfl hl.1 rfl (lv_room (Nat.le_of_ble_eq_true rfl)) dX0_pass_55 ⟨Nat.le_of_ble_eq_true rfl, Nat.le_of_ble_eq_true rfl⟩) hS (fun q _ h => hFc q h) hFc (fun r55 u t H locs ht hvm hw hB hz1 hk1 hS1 => zo hB ht hS1 (fun hP1 hK1 hD1 hS => ?_))
      refine zc_backc (w := [(a0, .inr (0, [.int a0_0, .int a0_1, .int a0_2, a0g_3, a0g_4, .int a0_5, .int a0_6, a0g_7, a0g_8, a0g_9, .ref a0_10, .ref a0_11, a0g_12, a0g_13, a0g_14])), (a1, .inr (5, [.int a1_0, .int a1_1, .int a1_2, .int v27na1_3, .int v27na1_4, .ref a1_5, .ref a1_6])), (a0_10, .inl (ka0_10, 9, .inl (fa0_10))), (a0_11, .inl (ka0_11, 9, .inl (fa0_11))), (a1_5, .inl (ka1_5, 9, .inl (v27nfa1_5))), (a2, .inr (6, [.int a2_0, .int a2_1, .ref a2_2, .ref a2_3])), (a2_3, .inl (ka2_3, 3, .inl (fa2_3))), (a2_2, .inl (ka2_2, 3, .inl (fa2_2))), (a1_6, .inl (ka1_6, 9, .inl (fa1_6)))]) hP hD hCc hk1 hFc hP1 hD1 [.inl 0, .inl 1, .inl 2, .inl 3, .inl 4, .inr 0, .inr 1, .inr 2, .inl 8] (by decide +kernel) rfl (fun hP hD => ?_)
      obtain ⟨hw, hfr55⟩ := hw
      have hc55 : Ff_X6_placesIn a1_0.toInt a2_0.toInt a2_1.toInt (fl_A fa2_3) (fl_A fa2_2) = r55.toInt := hfr55.symm
      have hF0 := hF0.trans (fl_lt_eq hc55.symm)
      refine va_calli (va_runS (As := [.int x49, .int r55]) (rest := []) ⟨hx, hb, hml, hown, hts⟩ (f_X0_isHeardAt l dC dI H.size x49 r55 ) (va_cwS 2 hts gX0_pass_X0_isHeardAt rfl rfl rfl zd_X0_isHeardAt.2 ⟨Nat.le_of_ble_eq_true rfl, Nat.le_of_ble_eq_true rfl⟩) ⟨ax_blind (fun _ _ _ _ _ => trivial), ax_pre (zp_P0 hP) (zp_K hK) (zp_D0 hD) (fun _ _ => trivial)⟩ rfl rfl hl.1 rfl (lv_room (Nat.le_of_ble_eq_true rfl)) dX0_pass_58 ⟨Nat.le_of_ble_eq_true rfl, Nat.le_of_ble_eq_true rfl⟩) hS (fun q _ h => zp_F0 hD hS hA q h) (zp_F0 hD hS hA) (fun r58 u t H locs ht hvm hw hB hz1 hk1 hS1 => zo0 hB ht hP hD hk1 (zp_F0 hD hS hA) hS1 (fun hP hK1 hD hS => ?_))
      obtain ⟨hw, hfr58⟩ := hw
      have hc58 : Ff_X0_isHeardAt x49.toInt r55.toInt = r58.toInt := hfr58.symm
      have hF0 := hF0.trans (fl_lt_eq hc58.symm)
      rcases hw with hw | hw
      · subst hw
        have hF0 := hF0.trans (if_pos (by decide))
        refine lv_if_eq (tgt := 75) hx hb dX0_pass_61 (by decide) (fun c61 => absurd c61 (by decide +kernel)) (fun _ => ?_)
        refine lv_aload_n hx hb dX0_pass_64 rfl (lv_at hl 4 rfl) ?_
        refine va_get (D := (dC, dI)) (ci := 5) (v := .ref a1_6) (C := RX5) (T := TX5) (N := 7) hx hb hts zi_X0_pass_5 hown hK hP 1 rfl rfl 6 (by decide) (hts (.fieldLink RX0 111 "WaxTurns$Scene" "heardBits" "[I") (zm_X0_pass_r1 (List.mem_of_getElem? (i := 4) rfl))) (fun _ h9 => h9) rfl dX0_pass_65 ?_
        refine lv_iload_n hx hb dX0_pass_68 rfl (lv_at hl 2 rfl) ?_
        refine lv_dup2_11 hx hb dX0_pass_69 rfl rfl ?_
        refine va_iald hx hb hK hP 8 5 rfl rfl (ai_in l17k0_a1_1 u17k0_a1_1 (by decide) (by decide)) dX0_pass_70 ?_
        refine lv_topi (fun x70 ex70 => ?_)
        have fqx70 := congrArg Int32.toInt ex70
        have hF0 := hF0.trans (fl_lt_eq (show x70.toInt = (fl_A fa1_6) (a1_1.toInt.toNat) from fqx70))
        refine lv_iload hx hb dX0_pass_71 (lv_at hl 0 rfl) ?_
        refine lv_ior hx hb dX0_pass_73 ?_
        refine lv_topi (fun x73 ex73 => ?_)
        have fqx73 := fl_or_eq ex73
        have hF0 := hF0.trans (fl_lt_eq (show x73.toInt = fl_or x70.toInt r34.toInt from fqx73))
        refine va_iast hx hb hK hP hD hS 8 5 rfl rfl (ai_in l17k0_a1_1 u17k0_a1_1 (by decide) (by decide)) dX0_pass_74 (fun H locs hP hD hS => ?_)
        obtain ⟨f74, ef74⟩ : ∃ g9 : Nat → Int32, g9 = upd fa1_6 (a1_1 : Int32).toNatClampNeg x73 := ⟨_, rfl⟩
        refine zs_8 (y := (a1_6, .inl (ka1_6, 9, .inl (f74)))) hP hD (by rw [ef74]) (fun hP hD => ?_)
        have fqf74 := fl_up_eq ef74
        have hF0 := hF0.trans (fl_lt_eq (show (fl_A f74) = fl_up (fl_A fa1_6) (a1_1.toInt.toNat) x73.toInt from fqf74))
        refine lv_aload_n hx hb dX0_pass_75 rfl (lv_at hl 4 rfl) ?_
        refine lv_dup hx hb dX0_pass_76 rfl ?_
        refine va_get (D := (dC, dI)) (ci := 5) (v := .int a1_0) (C := RX5) (T := TX5) (N := 7) hx hb hts zi_X0_pass_5 hown hK hP 1 rfl rfl 0 (by decide) (hts (.fieldLink RX0 102 "WaxTurns$Scene" "minute" "I") (zm_X0_pass_r1 (List.mem_of_getElem? (i := 3) rfl))) (fun _ h9 => h9) rfl dX0_pass_77 ?_
        refine lv_iconst (v := 1) hx hb dX0_pass_80 zk_iconst_1 ?_
        refine lv_iadd hx hb dX0_pass_81 ?_
        refine lv_topi (fun x81 ex81 => ?_)
        have fqx81 := fl_iadd_eq ex81
        have hF0 := hF0.trans (fl_lt_eq (show x81.toInt = fl_iadd a1_0.toInt 1 from fqx81))
        refine va_put (D := (dC, dI)) (ci := 5) (v := .int x81) (ty := .int) (C := RX5) (T := TX5) (N := 7) hx hb hts zi_X0_pass_5 tyX5 tyX5_ok nmX5 hown hK hP hD hS 1 rfl rfl 0 (by decide) (hts (.fieldLink RX0 102 "WaxTurns$Scene" "minute" "I") (zm_X0_pass_r1 (List.mem_of_getElem? (i := 3) rfl))) (fun _ h9 => h9) rfl (tyX5_ok 0 (by decide)) rfl rfl (Nat.le_of_ble_eq_true rfl) dX0_pass_82 (fun H locs hP hD hS => ?_)
        refine zs_1 (y := (a1, .inr (5, [.int x81, .int a1_1, .int a1_2, .int v27na1_3, .int v27na1_4, .ref a1_5, .ref a1_6]))) hP hD rfl (fun hP hD => ?_)
        refine lv_aload_n hx hb dX0_pass_85 rfl (lv_at hl 4 rfl) ?_
        refine lv_iload hx hb dX0_pass_86 (lv_at hl 1 rfl) ?_
        refine va_put (D := (dC, dI)) (ci := 5) (v := .int x10) (ty := .int) (C := RX5) (T := TX5) (N := 7) hx hb hts zi_X0_pass_5 tyX5 tyX5_ok nmX5 hown hK hP hD hS 1 rfl rfl 2 (by decide) (hts (.fieldLink RX0 84 "WaxTurns$Scene" "spent" "I") (zm_X0_pass_r1 (List.mem_of_getElem? (i := 1) rfl))) (fun _ h9 => h9) rfl (tyX5_ok 2 (by decide)) rfl rfl (Nat.le_of_ble_eq_true rfl) dX0_pass_88 (fun H locs hP hD hS => ?_)
        refine zs_1 (y := (a1, .inr (5, [.int x81, .int a1_1, .int x10, .int v27na1_3, .int v27na1_4, .ref a1_5, .ref a1_6]))) hP hD rfl (fun hP hD => ?_)
        refine lv_iload hx hb dX0_pass_91 (lv_at hl 1 rfl) ?_
        refine lv_aload_n hx hb dX0_pass_93 rfl (lv_at hl 3 rfl) ?_
        refine va_get (D := (dC, dI)) (ci := 0) (v := .int a0_1) (C := RX0) (T := TX0) (N := 15) hx hb hts zi_X0_pass_0 hown hK hP 0 rfl rfl 1 (by decide) (hts (.fieldLink RX0 48 "WaxTurns$Hall" "span" "I") (zm_X0_pass_r1 (List.mem_of_getElem? (i := 5) rfl))) (fun _ h9 => h9) rfl dX0_pass_94 ?_
        refine lv_icmp_lt (tgt := 109) hx hb dX0_pass_97 (by decide) (fun c97 => ?_) (fun c97 => ?_)
        · have gc97 := ai_lt c97
          have u97t_x10 : x10.toInt ≤ (2147483646 : Int) := ai_lthi gc97 (ai_max a0_1)
          have l97t_a0_1 : (-2147483647 : Int) ≤ a0_1.toInt := ai_ltlo gc97 (ai_min x10)
          have hF0 := hF0.trans (if_pos (show x10.toInt < a0_1.toInt from gc97))
          have hFe : FX = (x81.toInt, a1_1.toInt, x10.toInt, v27na1_3.toInt, v27na1_4.toInt, (fl_A v27nfa1_5), (fl_A f74)) := hF0
          exact W.vret hx hb hr (fun t ht hW => ⟨⟨(), rfl, trivial, x81, a1_1, x10, v27na1_3, v27na1_4, v27nfa1_5, f74, ⟨l17k0_a1_1, u17k0_a1_1⟩, hFe, by rw [ht]; exact hP, va_K.moved hW.alike hK, hD⟩, hS.F ht⟩) hS.2.2 dX0_pass_109
        · have gc97 := ai_nlt c97
          have hF0 := hF0.trans (if_neg (show ¬ (x10.toInt < a0_1.toInt) from Int.not_lt.mpr gc97))
          refine lv_aload_n hx hb dX0_pass_100 rfl (lv_at hl 4 rfl) ?_
          refine lv_aload_n hx hb dX0_pass_101 rfl (lv_at hl 3 rfl) ?_
          refine lv_iload_n hx hb dX0_pass_102 rfl (lv_at hl 2 rfl) ?_
          refine va_calli (va_runV (As := [.int a1_1]) (rest := [.ref a1]) ⟨hx, hb, hml, hown, hts⟩ (f_X0_next l dC dI H.size a0 a1_1 a0_0 (.int a0_1) (.int a0_2) a0g_3 a0g_4 a0g_7 a0g_8 a0g_9 (.ref a0_10) (.ref a0_11) a0g_12 a0g_13 a0g_14 a0_5 a0_6 l17k0_a1_1 u17k0_a1_1 ba0_0_l ba0_0_u ba0_5_l ba0_5_u ba0_6_l ba0_6_u) (cwV 1 hts gX0_pass_X0_next rfl rfl rfl zd_X0_next ⟨Nat.le_of_ble_eq_true rfl, Nat.le_of_ble_eq_true rfl⟩) ⟨ax_blind (fun _ _ _ _ _ => trivial), zr_0 (zp_K hK) (zp_P1 hP) (q0 := 0) rfl, ax_pre (zp_P1 hP) (zp_K hK) (zp_D1 hD) (fun _ _ => trivial)⟩ rfl rfl hl.1 rfl (lv_room (Nat.le_of_ble_eq_true rfl)) dX0_pass_103 ⟨Nat.le_of_ble_eq_true rfl, Nat.le_of_ble_eq_true rfl⟩) hS (fun q _ h => zp_F1 hD hS hA q h) (zp_F1 hD hS hA) (fun r103 u t H locs ht hvm hw hB hz1 hk1 hS1 => zo1 hB ht hP hD hk1 (zp_F1 hD hS hA) hS1 (fun hP hK1 hD hS => ?_))
          obtain ⟨hw, hfr103⟩ := hw
          have hc103 : Ff_X0_next a1_1.toInt a0_0.toInt a0_5.toInt a0_6.toInt = r103.toInt := hfr103.symm
          have hF0 := hF0.trans (fl_lt_eq hc103.symm)
          have hw : (0 : Int) ≤ r103.toInt ∧ r103.toInt ≤ (8 : Int) := hw
          obtain ⟨h103_0, h103_1⟩ := hw
          refine zc_cutc (wc := [(a1, .inr (5, [.int x81, .int a1_1, .int x10, .int v27na1_3, .int v27na1_4, .ref a1_5, .ref a1_6]))]) hP hD hS hA [1] (by decide +kernel) rfl (fun hPc hDc hFc hCc => ?_)
          have hKc := zp_K hK
          refine va_callv (va_runV (As := [.int r103]) (rest := []) ⟨hx, hb, hml, hown, hts⟩ (f_X5_startTurn l dC dI H.size a1 r103 (.int x81) (.int v27na1_3) (.int v27na1_4) (.ref a1_5) (.ref a1_6) a1_1 x10 h103_0 h103_1 l17k0_a1_1 u17k0_a1_1) (cwV 1 hts gX0_pass_X5_startTurn rfl rfl rfl zd_X5_startTurn ⟨Nat.le_of_ble_eq_true rfl, Nat.le_of_ble_eq_true rfl⟩) ⟨ax_blind (fun _ _ _ _ _ => trivial), zr_5 hKc hPc (q0 := 0) rfl, ax_pre hPc hKc hDc (fun _ _ => trivial)⟩ rfl rfl hl.1 rfl (lv_room (Nat.le_of_ble_eq_true rfl)) dX0_pass_106 ⟨Nat.le_of_ble_eq_true rfl, Nat.le_of_ble_eq_true rfl⟩) hS (fun q _ h => hFc q h) hFc (fun u t H locs ht hvm hw => zx_2 (fun v106na0_1 v106na0_2 => zy_2 (fun bv106na0_1 hraw106_0 hB hz1 hk1 hS1 => zo hB ht hS1 (fun hP1 hK1 hD1 hS => ?_))))
          refine zc_backc (w := [(a0, .inr (0, [.int a0_0, .int a0_1, .int a0_2, a0g_3, a0g_4, .int a0_5, .int a0_6, a0g_7, a0g_8, a0g_9, .ref a0_10, .ref a0_11, a0g_12, a0g_13, a0g_14])), (a1, .inr (5, [.int x81, .int v106na0_1, .int v106na0_2, .int v27na1_3, .int v27na1_4, .ref a1_5, .ref a1_6])), (a0_10, .inl (ka0_10, 9, .inl (fa0_10))), (a0_11, .inl (ka0_11, 9, .inl (fa0_11))), (a1_5, .inl (ka1_5, 9, .inl (v27nfa1_5))), (a2, .inr (6, [.int a2_0, .int a2_1, .ref a2_2, .ref a2_3])), (a2_3, .inl (ka2_3, 3, .inl (fa2_3))), (a2_2, .inl (ka2_2, 3, .inl (fa2_2))), (a1_6, .inl (ka1_6, 9, .inl (f74)))]) hP hD hCc hk1 hFc hP1 hD1 [.inl 0, .inr 0, .inl 2, .inl 3, .inl 4, .inl 5, .inl 6, .inl 7, .inl 8] (by decide +kernel) rfl (fun hP hD => ?_)
          have hc106 : Ff_X5_startTurn r103.toInt = (v106na0_1.toInt, v106na0_2.toInt) := hraw106_0
          have hF0 := hF0.trans (fl_c2_eq hc106)
          have hFe : FX = (x81.toInt, v106na0_1.toInt, v106na0_2.toInt, v27na1_3.toInt, v27na1_4.toInt, (fl_A v27nfa1_5), (fl_A f74)) := hF0
          exact W.vret hx hb hr (fun t ht hW => ⟨⟨(), rfl, trivial, x81, v106na0_1, v106na0_2, v27na1_3, v27na1_4, v27nfa1_5, f74, ⟨bv106na0_1.1, bv106na0_1.2⟩, hFe, by rw [ht]; exact hP, va_K.moved hW.alike hK, hD⟩, hS.F ht⟩) hS.2.2 dX0_pass_109
      · subst hw
        have hF0 := hF0.trans (if_neg (by decide))
        refine lv_if_eq (tgt := 75) hx hb dX0_pass_61 (by decide) (fun _ => ?_) (fun c61 => absurd (by decide +kernel) c61)
        refine lv_aload_n hx hb dX0_pass_75 rfl (lv_at hl 4 rfl) ?_
        refine lv_dup hx hb dX0_pass_76 rfl ?_
        refine va_get (D := (dC, dI)) (ci := 5) (v := .int a1_0) (C := RX5) (T := TX5) (N := 7) hx hb hts zi_X0_pass_5 hown hK hP 1 rfl rfl 0 (by decide) (hts (.fieldLink RX0 102 "WaxTurns$Scene" "minute" "I") (zm_X0_pass_r1 (List.mem_of_getElem? (i := 3) rfl))) (fun _ h9 => h9) rfl dX0_pass_77 ?_
        refine lv_iconst (v := 1) hx hb dX0_pass_80 zk_iconst_1 ?_
        refine lv_iadd hx hb dX0_pass_81 ?_
        refine lv_topi (fun x81 ex81 => ?_)
        have fqx81 := fl_iadd_eq ex81
        have hF0 := hF0.trans (fl_lt_eq (show x81.toInt = fl_iadd a1_0.toInt 1 from fqx81))
        refine va_put (D := (dC, dI)) (ci := 5) (v := .int x81) (ty := .int) (C := RX5) (T := TX5) (N := 7) hx hb hts zi_X0_pass_5 tyX5 tyX5_ok nmX5 hown hK hP hD hS 1 rfl rfl 0 (by decide) (hts (.fieldLink RX0 102 "WaxTurns$Scene" "minute" "I") (zm_X0_pass_r1 (List.mem_of_getElem? (i := 3) rfl))) (fun _ h9 => h9) rfl (tyX5_ok 0 (by decide)) rfl rfl (Nat.le_of_ble_eq_true rfl) dX0_pass_82 (fun H locs hP hD hS => ?_)
        refine zs_1 (y := (a1, .inr (5, [.int x81, .int a1_1, .int a1_2, .int v27na1_3, .int v27na1_4, .ref a1_5, .ref a1_6]))) hP hD rfl (fun hP hD => ?_)
        refine lv_aload_n hx hb dX0_pass_85 rfl (lv_at hl 4 rfl) ?_
        refine lv_iload hx hb dX0_pass_86 (lv_at hl 1 rfl) ?_
        refine va_put (D := (dC, dI)) (ci := 5) (v := .int x10) (ty := .int) (C := RX5) (T := TX5) (N := 7) hx hb hts zi_X0_pass_5 tyX5 tyX5_ok nmX5 hown hK hP hD hS 1 rfl rfl 2 (by decide) (hts (.fieldLink RX0 84 "WaxTurns$Scene" "spent" "I") (zm_X0_pass_r1 (List.mem_of_getElem? (i := 1) rfl))) (fun _ h9 => h9) rfl (tyX5_ok 2 (by decide)) rfl rfl (Nat.le_of_ble_eq_true rfl) dX0_pass_88 (fun H locs hP hD hS => ?_)
        refine zs_1 (y := (a1, .inr (5, [.int x81, .int a1_1, .int x10, .int v27na1_3, .int v27na1_4, .ref a1_5, .ref a1_6]))) hP hD rfl (fun hP hD => ?_)
        refine lv_iload hx hb dX0_pass_91 (lv_at hl 1 rfl) ?_
        refine lv_aload_n hx hb dX0_pass_93 rfl (lv_at hl 3 rfl) ?_
        refine va_get (D := (dC, dI)) (ci := 0) (v := .int a0_1) (C := RX0) (T := TX0) (N := 15) hx hb hts zi_X0_pass_0 hown hK hP 0 rfl rfl 1 (by decide) (hts (.fieldLink RX0 48 "WaxTurns$Hall" "span" "I") (zm_X0_pass_r1 (List.mem_of_getElem? (i := 5) rfl))) (fun _ h9 => h9) rfl dX0_pass_94 ?_
        refine lv_icmp_lt (tgt := 109) hx hb dX0_pass_97 (by decide) (fun c97 => ?_) (fun c97 => ?_)
        · have gc97 := ai_lt c97
          have u97t_x10 : x10.toInt ≤ (2147483646 : Int) := ai_lthi gc97 (ai_max a0_1)
          have l97t_a0_1 : (-2147483647 : Int) ≤ a0_1.toInt := ai_ltlo gc97 (ai_min x10)
          have hF0 := hF0.trans (if_pos (show x10.toInt < a0_1.toInt from gc97))
          have hFe : FX = (x81.toInt, a1_1.toInt, x10.toInt, v27na1_3.toInt, v27na1_4.toInt, (fl_A v27nfa1_5), (fl_A fa1_6)) := hF0
          exact W.vret hx hb hr (fun t ht hW => ⟨⟨(), rfl, trivial, x81, a1_1, x10, v27na1_3, v27na1_4, v27nfa1_5, fa1_6, ⟨l17k0_a1_1, u17k0_a1_1⟩, hFe, by rw [ht]; exact hP, va_K.moved hW.alike hK, hD⟩, hS.F ht⟩) hS.2.2 dX0_pass_109
        · have gc97 := ai_nlt c97
          have hF0 := hF0.trans (if_neg (show ¬ (x10.toInt < a0_1.toInt) from Int.not_lt.mpr gc97))
          refine lv_aload_n hx hb dX0_pass_100 rfl (lv_at hl 4 rfl) ?_
          refine lv_aload_n hx hb dX0_pass_101 rfl (lv_at hl 3 rfl) ?_
          refine lv_iload_n hx hb dX0_pass_102 rfl (lv_at hl 2 rfl) ?_
          refine va_calli (va_runV (As := [.int a1_1]) (rest := [.ref a1]) ⟨hx, hb, hml, hown, hts⟩ (f_X0_next l dC dI H.size a0 a1_1 a0_0 (.int a0_1) (.int a0_2) a0g_3 a0g_4 a0g_7 a0g_8 a0g_9 (.ref a0_10) (.ref a0_11) a0g_12 a0g_13 a0g_14 a0_5 a0_6 l17k0_a1_1 u17k0_a1_1 ba0_0_l ba0_0_u ba0_5_l ba0_5_u ba0_6_l ba0_6_u) (cwV 1 hts gX0_pass_X0_next rfl rfl rfl zd_X0_next ⟨Nat.le_of_ble_eq_true rfl, Nat.le_of_ble_eq_true rfl⟩) ⟨ax_blind (fun _ _ _ _ _ => trivial), zr_0 (zp_K hK) (zp_P1 hP) (q0 := 0) rfl, ax_pre (zp_P1 hP) (zp_K hK) (zp_D1 hD) (fun _ _ => trivial)⟩ rfl rfl hl.1 rfl (lv_room (Nat.le_of_ble_eq_true rfl)) dX0_pass_103 ⟨Nat.le_of_ble_eq_true rfl, Nat.le_of_ble_eq_true rfl⟩) hS (fun q _ h => zp_F1 hD hS hA q h) (zp_F1 hD hS hA) (fun r103 u t H locs ht hvm hw hB hz1 hk1 hS1 => zo1 hB ht hP hD hk1 (zp_F1 hD hS hA) hS1 (fun hP hK1 hD hS => ?_))
          obtain ⟨hw, hfr103⟩ := hw
          have hc103 : Ff_X0_next a1_1.toInt a0_0.toInt a0_5.toInt a0_6.toInt = r103.toInt := hfr103.symm
          have hF0 := hF0.trans (fl_lt_eq hc103.symm)
          have hw : (0 : Int) ≤ r103.toInt ∧ r103.toInt ≤ (8 : Int) := hw
          obtain ⟨h103_0, h103_1⟩ := hw
          refine zc_cutc (wc := [(a1, .inr (5, [.int x81, .int a1_1, .int x10, .int v27na1_3, .int v27na1_4, .ref a1_5, .ref a1_6]))]) hP hD hS hA [1] (by decide +kernel) rfl (fun hPc hDc hFc hCc => ?_)
          have hKc := zp_K hK
          refine va_callv (va_runV (As := [.int r103]) (rest := []) ⟨hx, hb, hml, hown, hts⟩ (f_X5_startTurn l dC dI H.size a1 r103 (.int x81) (.int v27na1_3) (.int v27na1_4) (.ref a1_5) (.ref a1_6) a1_1 x10 h103_0 h103_1 l17k0_a1_1 u17k0_a1_1) (cwV 1 hts gX0_pass_X5_startTurn rfl rfl rfl zd_X5_startTurn ⟨Nat.le_of_ble_eq_true rfl, Nat.le_of_ble_eq_true rfl⟩) ⟨ax_blind (fun _ _ _ _ _ => trivial), zr_5 hKc hPc (q0 := 0) rfl, ax_pre hPc hKc hDc (fun _ _ => trivial)⟩ rfl rfl hl.1 rfl (lv_room (Nat.le_of_ble_eq_true rfl)) dX0_pass_106 ⟨Nat.le_of_ble_eq_true rfl, Nat.le_of_ble_eq_true rfl⟩) hS (fun q _ h => hFc q h) hFc (fun u t H locs ht hvm hw => zx_2 (fun v106na0_1 v106na0_2 => zy_2 (fun bv106na0_1 hraw106_0 hB hz1 hk1 hS1 => zo hB ht hS1 (fun hP1 hK1 hD1 hS => ?_))))
          refine zc_backc (w := [(a0, .inr (0, [.int a0_0, .int a0_1, .int a0_2, a0g_3, a0g_4, .int a0_5, .int a0_6, a0g_7, a0g_8, a0g_9, .ref a0_10, .ref a0_11, a0g_12, a0g_13, a0g_14])), (a1, .inr (5, [.int x81, .int v106na0_1, .int v106na0_2, .int v27na1_3, .int v27na1_4, .ref a1_5, .ref a1_6])), (a0_10, .inl (ka0_10, 9, .inl (fa0_10))), (a0_11, .inl (ka0_11, 9, .inl (fa0_11))), (a1_5, .inl (ka1_5, 9, .inl (v27nfa1_5))), (a2, .inr (6, [.int a2_0, .int a2_1, .ref a2_2, .ref a2_3])), (a2_3, .inl (ka2_3, 3, .inl (fa2_3))), (a2_2, .inl (ka2_2, 3, .inl (fa2_2))), (a1_6, .inl (ka1_6, 9, .inl (fa1_6)))]) hP hD hCc hk1 hFc hP1 hD1 [.inl 0, .inr 0, .inl 2, .inl 3, .inl 4, .inl 5, .inl 6, .inl 7, .inl 8] (by decide +kernel) rfl (fun hP hD => ?_)
          have hc106 : Ff_X5_startTurn r103.toInt = (v106na0_1.toInt, v106na0_2.toInt) := hraw106_0
          have hF0 := hF0.trans (fl_c2_eq hc106)
          have hFe : FX = (x81.toInt, v106na0_1.toInt, v106na0_2.toInt, v27na1_3.toInt, v27na1_4.toInt, (fl_A v27nfa1_5), (fl_A fa1_6)) := hF0
          exact W.vret hx hb hr (fun t ht hW => ⟨⟨(), rfl, trivial, x81, v106na0_1, v106na0_2, v27na1_3, v27na1_4, v27nfa1_5, fa1_6, ⟨bv106na0_1.1, bv106na0_1.2⟩, hFe, by rw [ht]; exact hP, va_K.moved hW.alike hK, hD⟩, hS.F ht⟩) hS.2.2 dX0_pass_109
  · subst hw
    have hF0 := hF0.trans (if_neg (by decide))
    refine lv_if_eq (tgt := 30) hx hb dX0_pass_20 (by decide) (fun _ => ?_) (fun c20 => absurd (by decide +kernel) c20)
    refine lv_aload_n hx hb dX0_pass_30 rfl (lv_at hl 2 rfl) ?_
    refine lv_iload_n hx hb dX0_pass_31 rfl (lv_at hl 1 rfl) ?_
    refine lv_iload hx hb dX0_pass_32 (lv_at hl 0 rfl) ?_
    refine zc_cutc (wc := [(a0, .inr (0, [.int a0_0, .int a0_1, .int a0_2, a0g_3, a0g_4, .int a0_5, .int a0_6, a0g_7, a0g_8, a0g_9, .ref a0_10, .ref a0_11, a0g_12, a0g_13, a0g_14])), (a0_10, .inl (ka0_10, 9, .inl (fa0_10))), (a0_11, .inl (ka0_11, 9, .inl (fa0_11)))]) hP hD hS hA [0, 2, 3] (by decide +kernel) rfl (fun hPc hDc hFc hCc => ?_)
    have hKc := hK.sub (tys' := [(ka0_10, .int), (ka0_11, .int)]) [0, 1] rfl
    refine va_calli (va_runV (As := [.int a1_1, .int x10]) (rest := []) ⟨hx, hb, hml, hown, hts⟩ (f_X0_partSaid l dC dI H.size a0 a1_1 x10 (.int a0_0) (.int a0_1) (.int a0_2) a0g_3 a0g_4 (.int a0_5) (.int a0_6) a0g_7 a0g_8 a0g_9 a0g_12 a0g_13 a0g_14 a0_10 a0_11 ka0_10 fa0_10 ka0_11 fa0_11 ) (cwV 2 hts gX0_pass_X0_partSaid rfl rfl rfl zd_X0_partSaid ⟨Nat.le_of_ble_eq_true rfl, Nat.le_of_ble_eq_true rfl⟩) ⟨ax_blind (fun _ _ _ _ hq => va_Nw.same rfl rfl (hq)), zr_0 hKc hPc (q0 := 0) rfl, ax_pre hPc hKc hDc (fun _ hW => va_Nw.warmM hW hE0)⟩ rfl rfl hl.1 rfl (lv_room (Nat.le_of_ble_eq_true rfl)) dX0_pass_34 ⟨Nat.le_of_ble_eq_true rfl, Nat.le_of_ble_eq_true rfl⟩) hS (fun q _ h => hFc q h) hFc (fun r34 u t H locs ht hvm hw hB hz1 hk1 hS1 => zo hB ht hS1 (fun hP1 hK1 hD1 hS => ?_))
    refine zc_backc (w := [(a0, .inr (0, [.int a0_0, .int a0_1, .int a0_2, a0g_3, a0g_4, .int a0_5, .int a0_6, a0g_7, a0g_8, a0g_9, .ref a0_10, .ref a0_11, a0g_12, a0g_13, a0g_14])), (a1, .inr (5, [.int a1_0, .int a1_1, .int a1_2, .int a1_3, .int a1_4, .ref a1_5, .ref a1_6])), (a0_10, .inl (ka0_10, 9, .inl (fa0_10))), (a0_11, .inl (ka0_11, 9, .inl (fa0_11))), (a1_5, .inl (ka1_5, 9, .inl (fa1_5))), (a2, .inr (6, [.int a2_0, .int a2_1, .ref a2_2, .ref a2_3])), (a2_3, .inl (ka2_3, 3, .inl (fa2_3))), (a2_2, .inl (ka2_2, 3, .inl (fa2_2))), (a1_6, .inl (ka1_6, 9, .inl (fa1_6)))]) hP hD hCc hk1 hFc hP1 hD1 [.inr 0, .inl 1, .inr 1, .inr 2, .inl 4, .inl 5, .inl 6, .inl 7, .inl 8] (by decide +kernel) rfl (fun hP hD => ?_)
    obtain ⟨hw, hfr34⟩ := hw
    have hc34 : Ff_X0_partSaid a1_1.toInt x10.toInt (fl_A fa0_10) (fl_A fa0_11) = r34.toInt := hfr34.symm
    have hF0 := hF0.trans (fl_lt_eq hc34.symm)
    refine lv_istore (lv' := [(5, .int r34), (4, .int x10), (3, .int a1_1), (0, .ref a0), (1, .ref a1), (2, .ref a2)]) hx hb dX0_pass_37 hl (by decide) rfl (fun ls hl => ?_)
    refine lv_iload hx hb dX0_pass_39 (lv_at hl 0 rfl) ?_
    refine lv_if_eq (tgt := 75) hx hb dX0_pass_41 (by decide) (fun c41 => ?_) (fun c41 => ?_)
    · have gc41 := ai_eq c41
      have u41t_r34 : r34.toInt ≤ (0 : Int) := Int.le_trans (Int.le_of_eq gc41) zq6
      have l41t_r34 : (0 : Int) ≤ r34.toInt := Int.le_trans zq5 (Int.le_of_eq gc41.symm)
      have hF0 := hF0.trans (if_pos (show r34.toInt = 0 from gc41))
      refine lv_aload_n hx hb dX0_pass_75 rfl (lv_at hl 4 rfl) ?_
      refine lv_dup hx hb dX0_pass_76 rfl ?_
      refine va_get (D := (dC, dI)) (ci := 5) (v := .int a1_0) (C := RX5) (T := TX5) (N := 7) hx hb hts zi_X0_pass_5 hown hK hP 1 rfl rfl 0 (by decide) (hts (.fieldLink RX0 102 "WaxTurns$Scene" "minute" "I") (zm_X0_pass_r1 (List.mem_of_getElem? (i := 3) rfl))) (fun _ h9 => h9) rfl dX0_pass_77 ?_
      refine lv_iconst (v := 1) hx hb dX0_pass_80 zk_iconst_1 ?_
      refine lv_iadd hx hb dX0_pass_81 ?_
      refine lv_topi (fun x81 ex81 => ?_)
      have fqx81 := fl_iadd_eq ex81
      have hF0 := hF0.trans (fl_lt_eq (show x81.toInt = fl_iadd a1_0.toInt 1 from fqx81))
      refine va_put (D := (dC, dI)) (ci := 5) (v := .int x81) (ty := .int) (C := RX5) (T := TX5) (N := 7) hx hb hts zi_X0_pass_5 tyX5 tyX5_ok nmX5 hown hK hP hD hS 1 rfl rfl 0 (by decide) (hts (.fieldLink RX0 102 "WaxTurns$Scene" "minute" "I") (zm_X0_pass_r1 (List.mem_of_getElem? (i := 3) rfl))) (fun _ h9 => h9) rfl (tyX5_ok 0 (by decide)) rfl rfl (Nat.le_of_ble_eq_true rfl) dX0_pass_82 (fun H locs hP hD hS => ?_)
      refine zs_1 (y := (a1, .inr (5, [.int x81, .int a1_1, .int a1_2, .int a1_3, .int a1_4, .ref a1_5, .ref a1_6]))) hP hD rfl (fun hP hD => ?_)
      refine lv_aload_n hx hb dX0_pass_85 rfl (lv_at hl 4 rfl) ?_
      refine lv_iload hx hb dX0_pass_86 (lv_at hl 1 rfl) ?_
      refine va_put (D := (dC, dI)) (ci := 5) (v := .int x10) (ty := .int) (C := RX5) (T := TX5) (N := 7) hx hb hts zi_X0_pass_5 tyX5 tyX5_ok nmX5 hown hK hP hD hS 1 rfl rfl 2 (by decide) (hts (.fieldLink RX0 84 "WaxTurns$Scene" "spent" "I") (zm_X0_pass_r1 (List.mem_of_getElem? (i := 1) rfl))) (fun _ h9 => h9) rfl (tyX5_ok 2 (by decide)) rfl rfl (Nat.le_of_ble_eq_true rfl) dX0_pass_88 (fun H locs hP hD hS => ?_)
      refine zs_1 (y := (a1, .inr (5, [.int x81, .int a1_1, .int x10, .int a1_3, .int a1_4, .ref a1_5, .ref a1_6]))) hP hD rfl (fun hP hD => ?_)
      refine lv_iload hx hb dX0_pass_91 (lv_at hl 1 rfl) ?_
      refine lv_aload_n hx hb dX0_pass_93 rfl (lv_at hl 3 rfl) ?_
      refine va_get (D := (dC, dI)) (ci := 0) (v := .int a0_1) (C := RX0) (T := TX0) (N := 15) hx hb hts zi_X0_pass_0 hown hK hP 0 rfl rfl 1 (by decide) (hts (.fieldLink RX0 48 "WaxTurns$Hall" "span" "I") (zm_X0_pass_r1 (List.mem_of_getElem? (i := 5) rfl))) (fun _ h9 => h9) rfl dX0_pass_94 ?_
      refine lv_icmp_lt (tgt := 109) hx hb dX0_pass_97 (by decide) (fun c97 => ?_) (fun c97 => ?_)
      · have gc97 := ai_lt c97
        have u97t_x10 : x10.toInt ≤ (2147483646 : Int) := ai_lthi gc97 (ai_max a0_1)
        have l97t_a0_1 : (-2147483647 : Int) ≤ a0_1.toInt := ai_ltlo gc97 (ai_min x10)
        have hF0 := hF0.trans (if_pos (show x10.toInt < a0_1.toInt from gc97))
        have hFe : FX = (x81.toInt, a1_1.toInt, x10.toInt, a1_3.toInt, a1_4.toInt, (fl_A fa1_5), (fl_A fa1_6)) := hF0
        exact W.vret hx hb hr (fun t ht hW => ⟨⟨(), rfl, trivial, x81, a1_1, x10, a1_3, a1_4, fa1_5, fa1_6, ⟨ba1_1_l, ba1_1_u⟩, hFe, by rw [ht]; exact hP, va_K.moved hW.alike hK, hD⟩, hS.F ht⟩) hS.2.2 dX0_pass_109
      · have gc97 := ai_nlt c97
        have hF0 := hF0.trans (if_neg (show ¬ (x10.toInt < a0_1.toInt) from Int.not_lt.mpr gc97))
        refine lv_aload_n hx hb dX0_pass_100 rfl (lv_at hl 4 rfl) ?_
        refine lv_aload_n hx hb dX0_pass_101 rfl (lv_at hl 3 rfl) ?_
        refine lv_iload_n hx hb dX0_pass_102 rfl (lv_at hl 2 rfl) ?_
        refine va_calli (va_runV (As := [.int a1_1]) (rest := [.ref a1]) ⟨hx, hb, hml, hown, hts⟩ (f_X0_next l dC dI H.size a0 a1_1 a0_0 (.int a0_1) (.int a0_2) a0g_3 a0g_4 a0g_7 a0g_8 a0g_9 (.ref a0_10) (.ref a0_11) a0g_12 a0g_13 a0g_14 a0_5 a0_6 ba1_1_l ba1_1_u ba0_0_l ba0_0_u ba0_5_l ba0_5_u ba0_6_l ba0_6_u) (cwV 1 hts gX0_pass_X0_next rfl rfl rfl zd_X0_next ⟨Nat.le_of_ble_eq_true rfl, Nat.le_of_ble_eq_true rfl⟩) ⟨ax_blind (fun _ _ _ _ _ => trivial), zr_0 (zp_K hK) (zp_P1 hP) (q0 := 0) rfl, ax_pre (zp_P1 hP) (zp_K hK) (zp_D1 hD) (fun _ _ => trivial)⟩ rfl rfl hl.1 rfl (lv_room (Nat.le_of_ble_eq_true rfl)) dX0_pass_103 ⟨Nat.le_of_ble_eq_true rfl, Nat.le_of_ble_eq_true rfl⟩) hS (fun q _ h => zp_F1 hD hS hA q h) (zp_F1 hD hS hA) (fun r103 u t H locs ht hvm hw hB hz1 hk1 hS1 => zo1 hB ht hP hD hk1 (zp_F1 hD hS hA) hS1 (fun hP hK1 hD hS => ?_))
        obtain ⟨hw, hfr103⟩ := hw
        have hc103 : Ff_X0_next a1_1.toInt a0_0.toInt a0_5.toInt a0_6.toInt = r103.toInt := hfr103.symm
        have hF0 := hF0.trans (fl_lt_eq hc103.symm)
        have hw : (0 : Int) ≤ r103.toInt ∧ r103.toInt ≤ (8 : Int) := hw
        obtain ⟨h103_0, h103_1⟩ := hw
        refine zc_cutc (wc := [(a1, .inr (5, [.int x81, .int a1_1, .int x10, .int a1_3, .int a1_4, .ref a1_5, .ref a1_6]))]) hP hD hS hA [1] (by decide +kernel) rfl (fun hPc hDc hFc hCc => ?_)
        have hKc := zp_K hK
        refine va_callv (va_runV (As := [.int r103]) (rest := []) ⟨hx, hb, hml, hown, hts⟩ (f_X5_startTurn l dC dI H.size a1 r103 (.int x81) (.int a1_3) (.int a1_4) (.ref a1_5) (.ref a1_6) a1_1 x10 h103_0 h103_1 ba1_1_l ba1_1_u) (cwV 1 hts gX0_pass_X5_startTurn rfl rfl rfl zd_X5_startTurn ⟨Nat.le_of_ble_eq_true rfl, Nat.le_of_ble_eq_true rfl⟩) ⟨ax_blind (fun _ _ _ _ _ => trivial), zr_5 hKc hPc (q0 := 0) rfl, ax_pre hPc hKc hDc (fun _ _ => trivial)⟩ rfl rfl hl.1 rfl (lv_room (Nat.le_of_ble_eq_true rfl)) dX0_pass_106 ⟨Nat.le_of_ble_eq_true rfl, Nat.le_of_ble_eq_true rfl⟩) hS (fun q _ h => hFc q h) hFc (fun u t H locs ht hvm hw => zx_2 (fun v106na0_1 v106na0_2 => zy_2 (fun bv106na0_1 hraw106_0 hB hz1 hk1 hS1 => zo hB ht hS1 (fun hP1 hK1 hD1 hS => ?_))))
        refine zc_backc (w := [(a0, .inr (0, [.int a0_0, .int a0_1, .int a0_2, a0g_3, a0g_4, .int a0_5, .int a0_6, a0g_7, a0g_8, a0g_9, .ref a0_10, .ref a0_11, a0g_12, a0g_13, a0g_14])), (a1, .inr (5, [.int x81, .int v106na0_1, .int v106na0_2, .int a1_3, .int a1_4, .ref a1_5, .ref a1_6])), (a0_10, .inl (ka0_10, 9, .inl (fa0_10))), (a0_11, .inl (ka0_11, 9, .inl (fa0_11))), (a1_5, .inl (ka1_5, 9, .inl (fa1_5))), (a2, .inr (6, [.int a2_0, .int a2_1, .ref a2_2, .ref a2_3])), (a2_3, .inl (ka2_3, 3, .inl (fa2_3))), (a2_2, .inl (ka2_2, 3, .inl (fa2_2))), (a1_6, .inl (ka1_6, 9, .inl (fa1_6)))]) hP hD hCc hk1 hFc hP1 hD1 [.inl 0, .inr 0, .inl 2, .inl 3, .inl 4, .inl 5, .inl 6, .inl 7, .inl 8] (by decide +kernel) rfl (fun hP hD => ?_)
        have hc106 : Ff_X5_startTurn r103.toInt = (v106na0_1.toInt, v106na0_2.toInt) := hraw106_0
        have hF0 := hF0.trans (fl_c2_eq hc106)
        have hFe : FX = (x81.toInt, v106na0_1.toInt, v106na0_2.toInt, a1_3.toInt, a1_4.toInt, (fl_A fa1_5), (fl_A fa1_6)) := hF0
        exact W.vret hx hb hr (fun t ht hW => ⟨⟨(), rfl, trivial, x81, v106na0_1, v106na0_2, a1_3, a1_4, fa1_5, fa1_6, ⟨bv106na0_1.1, bv106na0_1.2⟩, hFe, by rw [ht]; exact hP, va_K.moved hW.alike hK, hD⟩, hS.F ht⟩) hS.2.2 dX0_pass_109
    · have gc41 := ai_ne c41
      have hF0 := hF0.trans (if_neg (show ¬ (r34.toInt = 0) from  gc41))
      refine lv_aload_n hx hb dX0_pass_44 rfl (lv_at hl 4 rfl) ?_
      refine va_get (D := (dC, dI)) (ci := 5) (v := .ref a1_5) (C := RX5) (T := TX5) (N := 7) hx hb hts zi_X0_pass_5 hown hK hP 1 rfl rfl 5 (by decide) (hts (.fieldLink RX0 99 "WaxTurns$Scene" "places" "[I") (zm_X0_pass_r1 (List.mem_of_getElem? (i := 2) rfl))) (fun _ h9 => h9) rfl dX0_pass_45 ?_
      refine lv_iload_n hx hb dX0_pass_48 rfl (lv_at hl 2 rfl) ?_
      refine va_iald hx hb hK hP 4 2 rfl rfl (ai_in ba1_1_l ba1_1_u (by decide) (by decide)) dX0_pass_49 ?_
      refine lv_topi (fun x49 ex49 => ?_)
      have fqx49 := congrArg Int32.toInt ex49
      have hF0 := hF0.trans (fl_lt_eq (show x49.toInt = (fl_A fa1_5) (a1_1.toInt.toNat) from fqx49))
      refine lv_aload_n hx hb dX0_pass_50 rfl (lv_at hl 5 rfl) ?_
      refine lv_aload_n hx hb dX0_pass_51 rfl (lv_at hl 4 rfl) ?_
      refine va_get (D := (dC, dI)) (ci := 5) (v := .int a1_0) (C := RX5) (T := TX5) (N := 7) hx hb hts zi_X0_pass_5 hown hK hP 1 rfl rfl 0 (by decide) (hts (.fieldLink RX0 102 "WaxTurns$Scene" "minute" "I") (zm_X0_pass_r1 (List.mem_of_getElem? (i := 3) rfl))) (fun _ h9 => h9) rfl dX0_pass_52 ?_
      refine zc_cutc (wc := [(a2, .inr (6, [.int a2_0, .int a2_1, .ref a2_2, .ref a2_3])), (a2_3, .inl (ka2_3, 3, .inl (fa2_3))), (a2_2, .inl (ka2_2, 3, .inl (fa2_2)))]) hP hD hS hA [5, 6, 7] (by decide +kernel) rfl (fun hPc hDc hFc hCc => ?_)
      have hKc := hK.sub (tys' := [(ka2_3, .int), (ka2_2, .int)]) [3, 4] rfl
      refine va_calli (va_runV (As := [.int a1_0]) (rest := [.int x49]) ⟨hx, hb, hml, hown, hts⟩ (f_X6_placesIn l dC dI H.size a2 a1_0 a2_0 a2_1 a2_2 a2_3 ka2_3 fa2_3 ka2_2 fa2_2 ba2_0_l ba2_0_u bfa2_3 bfa2_2) (cwV 1 hts gX0_pass_X6_placesIn rfl rfl rfl zd_X6_placesIn ⟨Nat.le_of_ble_eq_true rfl, Nat.le_of_ble_eq_true rfl⟩) ⟨ax_blind (fun _ _ _ _ _ => trivial), zr_6 hKc hPc (q0 := 0) rfl, ax_pre hPc hKc hDc (fun _ _ => trivial)⟩ rfl rfl hl.1 rfl (lv_room (Nat.le_of_ble_eq_true rfl)) dX0_pass_55 ⟨Nat.le_of_ble_eq_true rfl, Nat.le_of_ble_eq_true rfl⟩) hS (fun q _ h => hFc q h) hFc (fun r55 u t H locs ht hvm hw hB hz1 hk1 hS1 => zo hB ht hS1 (fun hP1 hK1 hD1 hS => ?_))
      refine zc_backc (w := [(a0, .inr (0, [.int a0_0, .int a0_1, .int a0_2, a0g_3, a0g_4, .int a0_5, .int a0_6, a0g_7, a0g_8, a0g_9, .ref a0_10, .ref a0_11, a0g_12, a0g_13, a0g_14])), (a1, .inr (5, [.int a1_0, .int a1_1, .int a1_2, .int a1_3, .int a1_4, .ref a1_5, .ref a1_6])), (a0_10, .inl (ka0_10, 9, .inl (fa0_10))), (a0_11, .inl (ka0_11, 9, .inl (fa0_11))), (a1_5, .inl (ka1_5, 9, .inl (fa1_5))), (a2, .inr (6, [.int a2_0, .int a2_1, .ref a2_2, .ref a2_3])), (a2_3, .inl (ka2_3, 3, .inl (fa2_3))), (a2_2, .inl (ka2_2, 3, .inl (fa2_2))), (a1_6, .inl (ka1_6, 9, .inl (fa1_6)))]) hP hD hCc hk1 hFc hP1 hD1 [.inl 0, .inl 1, .inl 2, .inl 3, .inl 4, .inr 0, .inr 1, .inr 2, .inl 8] (by decide +kernel) rfl (fun hP hD => ?_)
      obtain ⟨hw, hfr55⟩ := hw
      have hc55 : Ff_X6_placesIn a1_0.toInt a2_0.toInt a2_1.toInt (fl_A fa2_3) (fl_A fa2_2) = r55.toInt := hfr55.symm
      have hF0 := hF0.trans (fl_lt_eq hc55.symm)
      refine va_calli (va_runS (As := [.int x49, .int r55]) (rest := []) ⟨hx, hb, hml, hown, hts⟩ (f_X0_isHeardAt l dC dI H.size x49 r55 ) (va_cwS 2 hts gX0_pass_X0_isHeardAt rfl rfl rfl zd_X0_isHeardAt.2 ⟨Nat.le_of_ble_eq_true rfl, Nat.le_of_ble_eq_true rfl⟩) ⟨ax_blind (fun _ _ _ _ _ => trivial), ax_pre (zp_P0 hP) (zp_K hK) (zp_D0 hD) (fun _ _ => trivial)⟩ rfl rfl hl.1 rfl (lv_room (Nat.le_of_ble_eq_true rfl)) dX0_pass_58 ⟨Nat.le_of_ble_eq_true rfl, Nat.le_of_ble_eq_true rfl⟩) hS (fun q _ h => zp_F0 hD hS hA q h) (zp_F0 hD hS hA) (fun r58 u t H locs ht hvm hw hB hz1 hk1 hS1 => zo0 hB ht hP hD hk1 (zp_F0 hD hS hA) hS1 (fun hP hK1 hD hS => ?_))
      obtain ⟨hw, hfr58⟩ := hw
      have hc58 : Ff_X0_isHeardAt x49.toInt r55.toInt = r58.toInt := hfr58.symm
      have hF0 := hF0.trans (fl_lt_eq hc58.symm)
      rcases hw with hw | hw
      · subst hw
        have hF0 := hF0.trans (if_pos (by decide))
        refine lv_if_eq (tgt := 75) hx hb dX0_pass_61 (by decide) (fun c61 => absurd c61 (by decide +kernel)) (fun _ => ?_)
        refine lv_aload_n hx hb dX0_pass_64 rfl (lv_at hl 4 rfl) ?_
        refine va_get (D := (dC, dI)) (ci := 5) (v := .ref a1_6) (C := RX5) (T := TX5) (N := 7) hx hb hts zi_X0_pass_5 hown hK hP 1 rfl rfl 6 (by decide) (hts (.fieldLink RX0 111 "WaxTurns$Scene" "heardBits" "[I") (zm_X0_pass_r1 (List.mem_of_getElem? (i := 4) rfl))) (fun _ h9 => h9) rfl dX0_pass_65 ?_
        refine lv_iload_n hx hb dX0_pass_68 rfl (lv_at hl 2 rfl) ?_
        refine lv_dup2_11 hx hb dX0_pass_69 rfl rfl ?_
        refine va_iald hx hb hK hP 8 5 rfl rfl (ai_in ba1_1_l ba1_1_u (by decide) (by decide)) dX0_pass_70 ?_
        refine lv_topi (fun x70 ex70 => ?_)
        have fqx70 := congrArg Int32.toInt ex70
        have hF0 := hF0.trans (fl_lt_eq (show x70.toInt = (fl_A fa1_6) (a1_1.toInt.toNat) from fqx70))
        refine lv_iload hx hb dX0_pass_71 (lv_at hl 0 rfl) ?_
        refine lv_ior hx hb dX0_pass_73 ?_
        refine lv_topi (fun x73 ex73 => ?_)
        have fqx73 := fl_or_eq ex73
        have hF0 := hF0.trans (fl_lt_eq (show x73.toInt = fl_or x70.toInt r34.toInt from fqx73))
        refine va_iast hx hb hK hP hD hS 8 5 rfl rfl (ai_in ba1_1_l ba1_1_u (by decide) (by decide)) dX0_pass_74 (fun H locs hP hD hS => ?_)
        obtain ⟨f74, ef74⟩ : ∃ g9 : Nat → Int32, g9 = upd fa1_6 (a1_1 : Int32).toNatClampNeg x73 := ⟨_, rfl⟩
        refine zs_8 (y := (a1_6, .inl (ka1_6, 9, .inl (f74)))) hP hD (by rw [ef74]) (fun hP hD => ?_)
        have fqf74 := fl_up_eq ef74
        have hF0 := hF0.trans (fl_lt_eq (show (fl_A f74) = fl_up (fl_A fa1_6) (a1_1.toInt.toNat) x73.toInt from fqf74))
        refine lv_aload_n hx hb dX0_pass_75 rfl (lv_at hl 4 rfl) ?_
        refine lv_dup hx hb dX0_pass_76 rfl ?_
        refine va_get (D := (dC, dI)) (ci := 5) (v := .int a1_0) (C := RX5) (T := TX5) (N := 7) hx hb hts zi_X0_pass_5 hown hK hP 1 rfl rfl 0 (by decide) (hts (.fieldLink RX0 102 "WaxTurns$Scene" "minute" "I") (zm_X0_pass_r1 (List.mem_of_getElem? (i := 3) rfl))) (fun _ h9 => h9) rfl dX0_pass_77 ?_
        refine lv_iconst (v := 1) hx hb dX0_pass_80 zk_iconst_1 ?_
        refine lv_iadd hx hb dX0_pass_81 ?_
        refine lv_topi (fun x81 ex81 => ?_)
        have fqx81 := fl_iadd_eq ex81
        have hF0 := hF0.trans (fl_lt_eq (show x81.toInt = fl_iadd a1_0.toInt 1 from fqx81))
        refine va_put (D := (dC, dI)) (ci := 5) (v := .int x81) (ty := .int) (C := RX5) (T := TX5) (N := 7) hx hb hts zi_X0_pass_5 tyX5 tyX5_ok nmX5 hown hK hP hD hS 1 rfl rfl 0 (by decide) (hts (.fieldLink RX0 102 "WaxTurns$Scene" "minute" "I") (zm_X0_pass_r1 (List.mem_of_getElem? (i := 3) rfl))) (fun _ h9 => h9) rfl (tyX5_ok 0 (by decide)) rfl rfl (Nat.le_of_ble_eq_true rfl) dX0_pass_82 (fun H locs hP hD hS => ?_)
        refine zs_1 (y := (a1, .inr (5, [.int x81, .int a1_1, .int a1_2, .int a1_3, .int a1_4, .ref a1_5, .ref a1_6]))) hP hD rfl (fun hP hD => ?_)
        refine lv_aload_n hx hb dX0_pass_85 rfl (lv_at hl 4 rfl) ?_
        refine lv_iload hx hb dX0_pass_86 (lv_at hl 1 rfl) ?_
        refine va_put (D := (dC, dI)) (ci := 5) (v := .int x10) (ty := .int) (C := RX5) (T := TX5) (N := 7) hx hb hts zi_X0_pass_5 tyX5 tyX5_ok nmX5 hown hK hP hD hS 1 rfl rfl 2 (by decide) (hts (.fieldLink RX0 84 "WaxTurns$Scene" "spent" "I") (zm_X0_pass_r1 (List.mem_of_getElem? (i := 1) rfl))) (fun _ h9 => h9) rfl (tyX5_ok 2 (by decide)) rfl rfl (Nat.le_of_ble_eq_true rfl) dX0_pass_88 (fun H locs hP hD hS => ?_)
        refine zs_1 (y := (a1, .inr (5, [.int x81, .int a1_1, .int x10, .int a1_3, .int a1_4, .ref a1_5, .ref a1_6]))) hP hD rfl (fun hP hD => ?_)
        refine lv_iload hx hb dX0_pass_91 (lv_at hl 1 rfl) ?_
        refine lv_aload_n hx hb dX0_pass_93 rfl (lv_at hl 3 rfl) ?_
        refine va_get (D := (dC, dI)) (ci := 0) (v := .int a0_1) (C := RX0) (T := TX0) (N := 15) hx hb hts zi_X0_pass_0 hown hK hP 0 rfl rfl 1 (by decide) (hts (.fieldLink RX0 48 "WaxTurns$Hall" "span" "I") (zm_X0_pass_r1 (List.mem_of_getElem? (i := 5) rfl))) (fun _ h9 => h9) rfl dX0_pass_94 ?_
        refine lv_icmp_lt (tgt := 109) hx hb dX0_pass_97 (by decide) (fun c97 => ?_) (fun c97 => ?_)
        · have gc97 := ai_lt c97
          have u97t_x10 : x10.toInt ≤ (2147483646 : Int) := ai_lthi gc97 (ai_max a0_1)
          have l97t_a0_1 : (-2147483647 : Int) ≤ a0_1.toInt := ai_ltlo gc97 (ai_min x10)
          have hF0 := hF0.trans (if_pos (show x10.toInt < a0_1.toInt from gc97))
          have hFe : FX = (x81.toInt, a1_1.toInt, x10.toInt, a1_3.toInt, a1_4.toInt, (fl_A fa1_5), (fl_A f74)) := hF0
          exact W.vret hx hb hr (fun t ht hW => ⟨⟨(), rfl, trivial, x81, a1_1, x10, a1_3, a1_4, fa1_5, f74, ⟨ba1_1_l, ba1_1_u⟩, hFe, by rw [ht]; exact hP, va_K.moved hW.alike hK, hD⟩, hS.F ht⟩) hS.2.2 dX0_pass_109
        · have gc97 := ai_nlt c97
          have hF0 := hF0.trans (if_neg (show ¬ (x10.toInt < a0_1.toInt) from Int.not_lt.mpr gc97))
          refine lv_aload_n hx hb dX0_pass_100 rfl (lv_at hl 4 rfl) ?_
          refine lv_aload_n hx hb dX0_pass_101 rfl (lv_at hl 3 rfl) ?_
          refine lv_iload_n hx hb dX0_pass_102 rfl (lv_at hl 2 rfl) ?_
          refine va_calli (va_runV (As := [.int a1_1]) (rest := [.ref a1]) ⟨hx, hb, hml, hown, hts⟩ (f_X0_next l dC dI H.size a0 a1_1 a0_0 (.int a0_1) (.int a0_2) a0g_3 a0g_4 a0g_7 a0g_8 a0g_9 (.ref a0_10) (.ref a0_11) a0g_12 a0g_13 a0g_14 a0_5 a0_6 ba1_1_l ba1_1_u ba0_0_l ba0_0_u ba0_5_l ba0_5_u ba0_6_l ba0_6_u) (cwV 1 hts gX0_pass_X0_next rfl rfl rfl zd_X0_next ⟨Nat.le_of_ble_eq_true rfl, Nat.le_of_ble_eq_true rfl⟩) ⟨ax_blind (fun _ _ _ _ _ => trivial), zr_0 (zp_K hK) (zp_P1 hP) (q0 := 0) rfl, ax_pre (zp_P1 hP) (zp_K hK) (zp_D1 hD) (fun _ _ => trivial)⟩ rfl rfl hl.1 rfl (lv_room (Nat.le_of_ble_eq_true rfl)) dX0_pass_103 ⟨Nat.le_of_ble_eq_true rfl, Nat.le_of_ble_eq_true rfl⟩) hS (fun q _ h => zp_F1 hD hS hA q h) (zp_F1 hD hS hA) (fun r103 u t H locs ht hvm hw hB hz1 hk1 hS1 => zo1 hB ht hP hD hk1 (zp_F1 hD hS hA) hS1 (fun hP hK1 hD hS => ?_))
          obtain ⟨hw, hfr103⟩ := hw
          have hc103 : Ff_X0_next a1_1.toInt a0_0.toInt a0_5.toInt a0_6.toInt = r103.toInt := hfr103.symm
          have hF0 := hF0.trans (fl_lt_eq hc103.symm)
          have hw : (0 : Int) ≤ r103.toInt ∧ r103.toInt ≤ (8 : Int) := hw
          obtain ⟨h103_0, h103_1⟩ := hw
          refine zc_cutc (wc := [(a1, .inr (5, [.int x81, .int a1_1, .int x10, .int a1_3, .int a1_4, .ref a1_5, .ref a1_6]))]) hP hD hS hA [1] (by decide +kernel) rfl (fun hPc hDc hFc hCc => ?_)
          have hKc := zp_K hK
          refine va_callv (va_runV (As := [.int r103]) (rest := []) ⟨hx, hb, hml, hown, hts⟩ (f_X5_startTurn l dC dI H.size a1 r103 (.int x81) (.int a1_3) (.int a1_4) (.ref a1_5) (.ref a1_6) a1_1 x10 h103_0 h103_1 ba1_1_l ba1_1_u) (cwV 1 hts gX0_pass_X5_startTurn rfl rfl rfl zd_X5_startTurn ⟨Nat.le_of_ble_eq_true rfl, Nat.le_of_ble_eq_true rfl⟩) ⟨ax_blind (fun _ _ _ _ _ => trivial), zr_5 hKc hPc (q0 := 0) rfl, ax_pre hPc hKc hDc (fun _ _ => trivial)⟩ rfl rfl hl.1 rfl (lv_room (Nat.le_of_ble_eq_true rfl)) dX0_pass_106 ⟨Nat.le_of_ble_eq_true rfl, Nat.le_of_ble_eq_true rfl⟩) hS (fun q _ h => hFc q h) hFc (fun u t H locs ht hvm hw => zx_2 (fun v106na0_1 v106na0_2 => zy_2 (fun bv106na0_1 hraw106_0 hB hz1 hk1 hS1 => zo hB ht hS1 (fun hP1 hK1 hD1 hS => ?_))))
          refine zc_backc (w := [(a0, .inr (0, [.int a0_0, .int a0_1, .int a0_2, a0g_3, a0g_4, .int a0_5, .int a0_6, a0g_7, a0g_8, a0g_9, .ref a0_10, .ref a0_11, a0g_12, a0g_13, a0g_14])), (a1, .inr (5, [.int x81, .int v106na0_1, .int v106na0_2, .int a1_3, .int a1_4, .ref a1_5, .ref a1_6])), (a0_10, .inl (ka0_10, 9, .inl (fa0_10))), (a0_11, .inl (ka0_11, 9, .inl (fa0_11))), (a1_5, .inl (ka1_5, 9, .inl (fa1_5))), (a2, .inr (6, [.int a2_0, .int a2_1, .ref a2_2, .ref a2_3])), (a2_3, .inl (ka2_3, 3, .inl (fa2_3))), (a2_2, .inl (ka2_2, 3, .inl (fa2_2))), (a1_6, .inl (ka1_6, 9, .inl (f74)))]) hP hD hCc hk1 hFc hP1 hD1 [.inl 0, .inr 0, .inl 2, .inl 3, .inl 4, .inl 5, .inl 6, .inl 7, .inl 8] (by decide +kernel) rfl (fun hP hD => ?_)
          have hc106 : Ff_X5_startTurn r103.toInt = (v106na0_1.toInt, v106na0_2.toInt) := hraw106_0
          have hF0 := hF0.trans (fl_c2_eq hc106)
          have hFe : FX = (x81.toInt, v106na0_1.toInt, v106na0_2.toInt, a1_3.toInt, a1_4.toInt, (fl_A fa1_5), (fl_A f74)) := hF0
          exact W.vret hx hb hr (fun t ht hW => ⟨⟨(), rfl, trivial, x81, v106na0_1, v106na0_2, a1_3, a1_4, fa1_5, f74, ⟨bv106na0_1.1, bv106na0_1.2⟩, hFe, by rw [ht]; exact hP, va_K.moved hW.alike hK, hD⟩, hS.F ht⟩) hS.2.2 dX0_pass_109
      · subst hw
        have hF0 := hF0.trans (if_neg (by decide))
        refine lv_if_eq (tgt := 75) hx hb dX0_pass_61 (by decide) (fun _ => ?_) (fun c61 => absurd (by decide +kernel) c61)
        refine lv_aload_n hx hb dX0_pass_75 rfl (lv_at hl 4 rfl) ?_
        refine lv_dup hx hb dX0_pass_76 rfl ?_
        refine va_get (D := (dC, dI)) (ci := 5) (v := .int a1_0) (C := RX5) (T := TX5) (N := 7) hx hb hts zi_X0_pass_5 hown hK hP 1 rfl rfl 0 (by decide) (hts (.fieldLink RX0 102 "WaxTurns$Scene" "minute" "I") (zm_X0_pass_r1 (List.mem_of_getElem? (i := 3) rfl))) (fun _ h9 => h9) rfl dX0_pass_77 ?_
        refine lv_iconst (v := 1) hx hb dX0_pass_80 zk_iconst_1 ?_
        refine lv_iadd hx hb dX0_pass_81 ?_
        refine lv_topi (fun x81 ex81 => ?_)
        have fqx81 := fl_iadd_eq ex81
        have hF0 := hF0.trans (fl_lt_eq (show x81.toInt = fl_iadd a1_0.toInt 1 from fqx81))
        refine va_put (D := (dC, dI)) (ci := 5) (v := .int x81) (ty := .int) (C := RX5) (T := TX5) (N := 7) hx hb hts zi_X0_pass_5 tyX5 tyX5_ok nmX5 hown hK hP hD hS 1 rfl rfl 0 (by decide) (hts (.fieldLink RX0 102 "WaxTurns$Scene" "minute" "I") (zm_X0_pass_r1 (List.mem_of_getElem? (i := 3) rfl))) (fun _ h9 => h9) rfl (tyX5_ok 0 (by decide)) rfl rfl (Nat.le_of_ble_eq_true rfl) dX0_pass_82 (fun H locs hP hD hS => ?_)
        refine zs_1 (y := (a1, .inr (5, [.int x81, .int a1_1, .int a1_2, .int a1_3, .int a1_4, .ref a1_5, .ref a1_6]))) hP hD rfl (fun hP hD => ?_)
        refine lv_aload_n hx hb dX0_pass_85 rfl (lv_at hl 4 rfl) ?_
        refine lv_iload hx hb dX0_pass_86 (lv_at hl 1 rfl) ?_
        refine va_put (D := (dC, dI)) (ci := 5) (v := .int x10) (ty := .int) (C := RX5) (T := TX5) (N := 7) hx hb hts zi_X0_pass_5 tyX5 tyX5_ok nmX5 hown hK hP hD hS 1 rfl rfl 2 (by decide) (hts (.fieldLink RX0 84 "WaxTurns$Scene" "spent" "I") (zm_X0_pass_r1 (List.mem_of_getElem? (i := 1) rfl))) (fun _ h9 => h9) rfl (tyX5_ok 2 (by decide)) rfl rfl (Nat.le_of_ble_eq_true rfl) dX0_pass_88 (fun H locs hP hD hS => ?_)
        refine zs_1 (y := (a1, .inr (5, [.int x81, .int a1_1, .int x10, .int a1_3, .int a1_4, .ref a1_5, .ref a1_6]))) hP hD rfl (fun hP hD => ?_)
        refine lv_iload hx hb dX0_pass_91 (lv_at hl 1 rfl) ?_
        refine lv_aload_n hx hb dX0_pass_93 rfl (lv_at hl 3 rfl) ?_
        refine va_get (D := (dC, dI)) (ci := 0) (v := .int a0_1) (C := RX0) (T := TX0) (N := 15) hx hb hts zi_X0_pass_0 hown hK hP 0 rfl rfl 1 (by decide) (hts (.fieldLink RX0 48 "WaxTurns$Hall" "span" "I") (zm_X0_pass_r1 (List.mem_of_getElem? (i := 5) rfl))) (fun _ h9 => h9) rfl dX0_pass_94 ?_
        refine lv_icmp_lt (tgt := 109) hx hb dX0_pass_97 (by decide) (fun c97 => ?_) (fun c97 => ?_)
        · have gc97 := ai_lt c97
          have u97t_x10 : x10.toInt ≤ (2147483646 : Int) := ai_lthi gc97 (ai_max a0_1)
          have l97t_a0_1 : (-2147483647 : Int) ≤ a0_1.toInt := ai_ltlo gc97 (ai_min x10)
          have hF0 := hF0.trans (if_pos (show x10.toInt < a0_1.toInt from gc97))
          have hFe : FX = (x81.toInt, a1_1.toInt, x10.toInt, a1_3.toInt, a1_4.toInt, (fl_A fa1_5), (fl_A fa1_6)) := hF0
          exact W.vret hx hb hr (fun t ht hW => ⟨⟨(), rfl, trivial, x81, a1_1, x10, a1_3, a1_4, fa1_5, fa1_6, ⟨ba1_1_l, ba1_1_u⟩, hFe, by rw [ht]; exact hP, va_K.moved hW.alike hK, hD⟩, hS.F ht⟩) hS.2.2 dX0_pass_109
        · have gc97 := ai_nlt c97
          have hF0 := hF0.trans (if_neg (show ¬ (x10.toInt < a0_1.toInt) from Int.not_lt.mpr gc97))
          refine lv_aload_n hx hb dX0_pass_100 rfl (lv_at hl 4 rfl) ?_
          refine lv_aload_n hx hb dX0_pass_101 rfl (lv_at hl 3 rfl) ?_
          refine lv_iload_n hx hb dX0_pass_102 rfl (lv_at hl 2 rfl) ?_
          refine va_calli (va_runV (As := [.int a1_1]) (rest := [.ref a1]) ⟨hx, hb, hml, hown, hts⟩ (f_X0_next l dC dI H.size a0 a1_1 a0_0 (.int a0_1) (.int a0_2) a0g_3 a0g_4 a0g_7 a0g_8 a0g_9 (.ref a0_10) (.ref a0_11) a0g_12 a0g_13 a0g_14 a0_5 a0_6 ba1_1_l ba1_1_u ba0_0_l ba0_0_u ba0_5_l ba0_5_u ba0_6_l ba0_6_u) (cwV 1 hts gX0_pass_X0_next rfl rfl rfl zd_X0_next ⟨Nat.le_of_ble_eq_true rfl, Nat.le_of_ble_eq_true rfl⟩) ⟨ax_blind (fun _ _ _ _ _ => trivial), zr_0 (zp_K hK) (zp_P1 hP) (q0 := 0) rfl, ax_pre (zp_P1 hP) (zp_K hK) (zp_D1 hD) (fun _ _ => trivial)⟩ rfl rfl hl.1 rfl (lv_room (Nat.le_of_ble_eq_true rfl)) dX0_pass_103 ⟨Nat.le_of_ble_eq_true rfl, Nat.le_of_ble_eq_true rfl⟩) hS (fun q _ h => zp_F1 hD hS hA q h) (zp_F1 hD hS hA) (fun r103 u t H locs ht hvm hw hB hz1 hk1 hS1 => zo1 hB ht hP hD hk1 (zp_F1 hD hS hA) hS1 (fun hP hK1 hD hS => ?_))
          obtain ⟨hw, hfr103⟩ := hw
          have hc103 : Ff_X0_next a1_1.toInt a0_0.toInt a0_5.toInt a0_6.toInt = r103.toInt := hfr103.symm
          have hF0 := hF0.trans (fl_lt_eq hc103.symm)
          have hw : (0 : Int) ≤ r103.toInt ∧ r103.toInt ≤ (8 : Int) := hw
          obtain ⟨h103_0, h103_1⟩ := hw
          refine zc_cutc (wc := [(a1, .inr (5, [.int x81, .int a1_1, .int x10, .int a1_3, .int a1_4, .ref a1_5, .ref a1_6]))]) hP hD hS hA [1] (by decide +kernel) rfl (fun hPc hDc hFc hCc => ?_)
          have hKc := zp_K hK
          refine va_callv (va_runV (As := [.int r103]) (rest := []) ⟨hx, hb, hml, hown, hts⟩ (f_X5_startTurn l dC dI H.size a1 r103 (.int x81) (.int a1_3) (.int a1_4) (.ref a1_5) (.ref a1_6) a1_1 x10 h103_0 h103_1 ba1_1_l ba1_1_u) (cwV 1 hts gX0_pass_X5_startTurn rfl rfl rfl zd_X5_startTurn ⟨Nat.le_of_ble_eq_true rfl, Nat.le_of_ble_eq_true rfl⟩) ⟨ax_blind (fun _ _ _ _ _ => trivial), zr_5 hKc hPc (q0 := 0) rfl, ax_pre hPc hKc hDc (fun _ _ => trivial)⟩ rfl rfl hl.1 rfl (lv_room (Nat.le_of_ble_eq_true rfl)) dX0_pass_106 ⟨Nat.le_of_ble_eq_true rfl, Nat.le_of_ble_eq_true rfl⟩) hS (fun q _ h => hFc q h) hFc (fun u t H locs ht hvm hw => zx_2 (fun v106na0_1 v106na0_2 => zy_2 (fun bv106na0_1 hraw106_0 hB hz1 hk1 hS1 => zo hB ht hS1 (fun hP1 hK1 hD1 hS => ?_))))
          refine zc_backc (w := [(a0, .inr (0, [.int a0_0, .int a0_1, .int a0_2, a0g_3, a0g_4, .int a0_5, .int a0_6, a0g_7, a0g_8, a0g_9, .ref a0_10, .ref a0_11, a0g_12, a0g_13, a0g_14])), (a1, .inr (5, [.int x81, .int v106na0_1, .int v106na0_2, .int a1_3, .int a1_4, .ref a1_5, .ref a1_6])), (a0_10, .inl (ka0_10, 9, .inl (fa0_10))), (a0_11, .inl (ka0_11, 9, .inl (fa0_11))), (a1_5, .inl (ka1_5, 9, .inl (fa1_5))), (a2, .inr (6, [.int a2_0, .int a2_1, .ref a2_2, .ref a2_3])), (a2_3, .inl (ka2_3, 3, .inl (fa2_3))), (a2_2, .inl (ka2_2, 3, .inl (fa2_2))), (a1_6, .inl (ka1_6, 9, .inl (fa1_6)))]) hP hD hCc hk1 hFc hP1 hD1 [.inl 0, .inr 0, .inl 2, .inl 3, .inl 4, .inl 5, .inl 6, .inl 7, .inl 8] (by decide +kernel) rfl (fun hP hD => ?_)
          have hc106 : Ff_X5_startTurn r103.toInt = (v106na0_1.toInt, v106na0_2.toInt) := hraw106_0
          have hF0 := hF0.trans (fl_c2_eq hc106)
          have hFe : FX = (x81.toInt, v106na0_1.toInt, v106na0_2.toInt, a1_3.toInt, a1_4.toInt, (fl_A fa1_5), (fl_A fa1_6)) := hF0
          exact W.vret hx hb hr (fun t ht hW => ⟨⟨(), rfl, trivial, x81, v106na0_1, v106na0_2, a1_3, a1_4, fa1_5, fa1_6, ⟨bv106na0_1.1, bv106na0_1.2⟩, hFe, by rw [ht]; exact hP, va_K.moved hW.alike hK, hD⟩, hS.F ht⟩) hS.2.2 dX0_pass_109
end P314_01_f
section P314_02_f
set_option maxHeartbeats 4000000 in
set_option maxRecDepth 100000 in
theorem f_X8_hasBit (l : Launch) (dC : Nat → ClassId) (dI : Nat → Nat → Nat) (sz : Nat) (a1 : Int32) (a2 : Int32)  : zm l yX8_hasBit wsX8_hasBit ({ frames := 0, cells := 0, slots := 0, locals := 0 }) [.int a1, .int a2] dC dI sz [] [] (fun A _ => True) (fun A => va_Qi (fun (r : Int32) (_ : Unit) => ((r = 1) ∨ (r = 0)) ∧ r.toInt = Ff_X8_hasBit a1.toInt a2.toInt) (fun (_ : Unit) (t : State) => ax_B dC dI A [] [] t) A) := by
  refine zh (cc := cX8_hasBit) (maxL := 2) (ret := (some .boolean)) zn_RX8 rfl (Nat.le_of_ble_eq_true rfl) (fun p e s m below meth c A ls hx hb hml hr hts (hown : s.vm.findClass RX8 = some m.cls) hlocks hA hS hP hK hD hE (hl : lv_has ls 2 [(0, .int a1), (1, .int a2)]) => ?_)
  generalize hFX : Ff_X8_hasBit a1.toInt a2.toInt = FX at ⊢
  have hF0 := hFX.symm.trans (Ff_X8_hasBit.eq_1 a1.toInt a2.toInt)
  refine lv_iload_n hx hb dX8_hasBit_0 rfl (lv_at hl 0 rfl) ?_
  refine lv_iload_n hx hb dX8_hasBit_1 rfl (lv_at hl 1 rfl) ?_
  refine lv_ishr hx hb dX8_hasBit_2 ?_
  refine lv_topi (fun x2 ex2 => ?_)
  have fqx2 := fl_shr_eq ex2
  have hF0 := hF0.trans (fl_lt_eq (show x2.toInt = fl_shr a1.toInt a2.toInt from fqx2))
  refine lv_iconst (v := 1) hx hb dX8_hasBit_3 zk_iconst_1 ?_
  refine lv_iand hx hb dX8_hasBit_4 ?_
  refine lv_topi (fun x4 ex4 => ?_)
  have fqx4 := fl_and_eq ex4
  have hF0 := hF0.trans (fl_lt_eq (show x4.toInt = fl_and x2.toInt 1 from fqx4))
  refine lv_iconst (v := 1) hx hb dX8_hasBit_5 zk_iconst_1 ?_
  refine lv_icmp_ne (tgt := 13) hx hb dX8_hasBit_6 (by decide) (fun c6 => ?_) (fun c6 => ?_)
  · have gc6 := ai_ne c6
    have hF0 := hF0.trans (if_neg (show ¬ (x4.toInt = 1) from  gc6))
    refine lv_iconst (v := 0) hx hb dX8_hasBit_13 zk_iconst_0 ?_
    have hFe : FX = 0 := hF0
    exact W.zret (v := 0) hx hb hr rfl (fun t ht hW => ⟨⟨0, (), rfl, ⟨(Or.inr (rfl)), hFe.symm⟩, by rw [ht]; exact hP, va_K.moved hW.alike hK, hD⟩, hS.F ht⟩) hS.2.2 dX8_hasBit_14
  · have gc6 := ai_eq c6
    have u6f_x4 : x4.toInt ≤ (1 : Int) := Int.le_trans (Int.le_of_eq gc6) zq0
    have l6f_x4 : (1 : Int) ≤ x4.toInt := Int.le_trans zq1 (Int.le_of_eq gc6.symm)
    have hF0 := hF0.trans (if_pos (show x4.toInt = 1 from gc6))
    refine lv_iconst (v := 1) hx hb dX8_hasBit_9 zk_iconst_1 ?_
    refine lv_goto (tgt := 14) hx hb dX8_hasBit_10 (by decide) ?_
    have hFe : FX = 1 := hF0
    exact W.zret (v := 1) hx hb hr rfl (fun t ht hW => ⟨⟨1, (), rfl, ⟨(Or.inl (rfl)), hFe.symm⟩, by rw [ht]; exact hP, va_K.moved hW.alike hK, hD⟩, hS.F ht⟩) hS.2.2 dX8_hasBit_14

set_option maxHeartbeats 4000000 in
set_option maxRecDepth 100000 in
theorem f_X8_watchAsTold (l : Launch) (dC : Nat → ClassId) (dI : Nat → Nat → Nat) (sz : Nat) (a0 : Nat) (a0g_0 a0g_1 a0g_2 a0g_3 a0g_4 a0g_5 a0g_6 a0g_7 a0g_8 a0g_9 a0g_10 a0g_11 a0g_12 a0g_13 a0g_14 a0g_16 a0g_17 a0g_18 a0g_19 a0g_20 a0g_21 a0g_22 a0g_26 a0g_27 a0g_28 a0g_29 a0g_30 a0g_31 a0g_32 a0g_33 a0g_34 a0g_35 a0g_36 a0g_37 a0g_38 a0g_39 : Value) (a0_15 : Nat) (a0_23 : Nat) (a0_24 : Nat) (a0_25 : Int32) (ka0_15 : ClassId) (fa0_15 : Nat → Int32) (ka0_23 : ClassId) (fa0_23 : Nat → Int32) (ka0_24 : ClassId) (fa0_24 : Nat → Int32) (bfa0_15 : ((∀ k : Nat, 0 ≤ k → k ≤ 0 → (2 : Int) ≤ (fa0_15 k).toInt ∧ (fa0_15 k).toInt ≤ 9) ∧ (∀ k : Nat, 1 ≤ k → k ≤ 1 → (1 : Int) ≤ (fa0_15 k).toInt ∧ (fa0_15 k).toInt ≤ 20) ∧ (∀ k : Nat, 2 ≤ k → k ≤ 2 → (0 : Int) ≤ (fa0_15 k).toInt ∧ (fa0_15 k).toInt ≤ 8) ∧ (∀ k : Nat, 3 ≤ k → k ≤ 3 → (0 : Int) ≤ (fa0_15 k).toInt ∧ (fa0_15 k).toInt ≤ 100) ∧ (∀ k : Nat, 4 ≤ k → k ≤ 4 → (0 : Int) ≤ (fa0_15 k).toInt ∧ (fa0_15 k).toInt ≤ 9) ∧ (∀ k : Nat, 5 ≤ k → k ≤ 5 → (0 : Int) ≤ (fa0_15 k).toInt ∧ (fa0_15 k).toInt ≤ 3) ∧ (∀ k : Nat, 6 ≤ k → k ≤ 6 → (0 : Int) ≤ (fa0_15 k).toInt ∧ (fa0_15 k).toInt ≤ 6) ∧ (∀ k : Nat, 7 ≤ k → k ≤ 9 → (0 : Int) ≤ (fa0_15 k).toInt ∧ (fa0_15 k).toInt ≤ 8) ∧ (∀ k : Nat, 12 ≤ k → k ≤ 29 → (0 : Int) ≤ (fa0_15 k).toInt ∧ (fa0_15 k).toInt ≤ 20) ∧ (∀ k : Nat, 30 ≤ k → k ≤ 35 → (0 : Int) ≤ (fa0_15 k).toInt ∧ (fa0_15 k).toInt ≤ 8) ∧ (∀ k : Nat, 36 ≤ k → k ≤ 47 → (0 : Int) ≤ (fa0_15 k).toInt ∧ (fa0_15 k).toInt ≤ 999))) (bfa0_23 : (∀ k, (0 : Int) ≤ (fa0_23 k).toInt ∧ (fa0_23 k).toInt ≤ 80)) (bfa0_24 : (∀ k, (0 : Int) ≤ (fa0_24 k).toInt ∧ (fa0_24 k).toInt ≤ 80)) : zm l yX8_watchAsTold wsX8_watchAsTold ({ frames := 0, cells := 0, slots := 0, locals := 0 }) [.ref a0] dC dI sz [(a0, .inr (8, [a0g_0, a0g_1, a0g_2, a0g_3, a0g_4, a0g_5, a0g_6, a0g_7, a0g_8, a0g_9, a0g_10, a0g_11, a0g_12, a0g_13, a0g_14, Value.ref a0_15, a0g_16, a0g_17, a0g_18, a0g_19, a0g_20, a0g_21, a0g_22, Value.ref a0_23, Value.ref a0_24, Value.int a0_25, a0g_26, a0g_27, a0g_28, a0g_29, a0g_30, a0g_31, a0g_32, a0g_33, a0g_34, a0g_35, a0g_36, a0g_37, a0g_38, a0g_39])), (a0_15, .inl (ka0_15, 156, .inl (fa0_15))), (a0_23, .inl (ka0_23, 3, .inl (fa0_23))), (a0_24, .inl (ka0_24, 3, .inl (fa0_24)))] [(ka0_15, .int), (ka0_23, .int), (ka0_24, .int)] (fun A _ => True) (fun A => va_Qv (fun (_ : Unit) => True) (fun (_ : Unit) (t : State) => ∃ na0_25 : Int32, ∃ nfa0_23 : Nat → Int32, ∃ nfa0_24 : Nat → Int32, (∀ k, (0 : Int) ≤ (nfa0_23 k).toInt ∧ (nfa0_23 k).toInt ≤ 80) ∧ (∀ k, (0 : Int) ≤ (nfa0_24 k).toInt ∧ (nfa0_24 k).toInt ≤ 80) ∧ (Ff_X8_watchAsTold (fl_A fa0_15) (fl_A fa0_23) (fl_A fa0_24) = (na0_25.toInt, (fl_A nfa0_23), (fl_A nfa0_24))) ∧ ax_B dC dI A [(a0, .inr (8, [a0g_0, a0g_1, a0g_2, a0g_3, a0g_4, a0g_5, a0g_6, a0g_7, a0g_8, a0g_9, a0g_10, a0g_11, a0g_12, a0g_13, a0g_14, Value.ref a0_15, a0g_16, a0g_17, a0g_18, a0g_19, a0g_20, a0g_21, a0g_22, Value.ref a0_23, Value.ref a0_24, Value.int na0_25, a0g_26, a0g_27, a0g_28, a0g_29, a0g_30, a0g_31, a0g_32, a0g_33, a0g_34, a0g_35, a0g_36, a0g_37, a0g_38, a0g_39])), (a0_15, .inl (ka0_15, 156, .inl (fa0_15))), (a0_23, .inl (ka0_23, 3, .inl (nfa0_23))), (a0_24, .inl (ka0_24, 3, .inl (nfa0_24)))] [(ka0_15, .int), (ka0_23, .int), (ka0_24, .int)] t) A) := by
  refine zh (cc := cX8_watchAsTold) (maxL := 2) (ret := none) zn_RX8 rfl (Nat.le_of_ble_eq_true rfl) (fun p e s m below meth c A ls hx hb hml hr hts (hown : s.vm.findClass RX8 = some m.cls) hlocks hA hS hP hK hD hE (hl : lv_has ls 2 [(0, .ref a0)]) => ?_)
  generalize hFX : Ff_X8_watchAsTold (fl_A fa0_15) (fl_A fa0_23) (fl_A fa0_24) = FX at ⊢
  have hF0 := hFX.symm.trans (Ff_X8_watchAsTold.eq_1 (fl_A fa0_15) (fl_A fa0_23) (fl_A fa0_24))
  refine ai_open (fun K hK0 => ?_)
  refine (hK0 _ _ _).mpr ?_
  refine lv_iconst (v := 0) hx hb dX8_watchAsTold_0 zk_iconst_0 ?_
  refine lv_istore_n (lv' := [(1, .int 0), (0, .ref a0)]) hx hb dX8_watchAsTold_1 rfl hl (by decide) rfl (fun ls hl => ?_)
  have J2 : ∀ (n : Nat) (j2l1 : Int32) (j2a0_23_a : Nat → Int32) (j2a0_24_a : Nat → Int32) (H : Heap) (locs : List Loc) (ls : Array Slot), (4 : Int) - j2l1.toInt ≤ (n : Int) → (0 : Int) ≤ j2l1.toInt → j2l1.toInt ≤ (3 : Int) → (∀ k, (0 : Int) ≤ (j2a0_23_a k).toInt ∧ (j2a0_23_a k).toInt ≤ 80) → (∀ k, (0 : Int) ≤ (j2a0_24_a k).toInt ∧ (j2a0_24_a k).toInt ≤ 80) → (FX = fl_wh (fun t9 => Sf_X8_watchAsTold_2_1 (fl_A fa0_15) t9.1 t9.2.1 t9.2.2) (0, (fun _ => 0), (fun _ => 0)) n (j2l1.toInt, (fl_A j2a0_23_a), (fl_A j2a0_24_a))) → va_P (dC, dI) vwCl [(a0, .inr (8, [a0g_0, a0g_1, a0g_2, a0g_3, a0g_4, a0g_5, a0g_6, a0g_7, a0g_8, a0g_9, a0g_10, a0g_11, a0g_12, a0g_13, a0g_14, Value.ref a0_15, a0g_16, a0g_17, a0g_18, a0g_19, a0g_20, a0g_21, a0g_22, Value.ref a0_23, Value.ref a0_24, Value.int a0_25, a0g_26, a0g_27, a0g_28, a0g_29, a0g_30, a0g_31, a0g_32, a0g_33, a0g_34, a0g_35, a0g_36, a0g_37, a0g_38, a0g_39])), (a0_15, .inl (ka0_15, 156, .inl (fa0_15))), (a0_23, .inl (ka0_23, 3, .inl (j2a0_23_a))), (a0_24, .inl (ka0_24, 3, .inl (j2a0_24_a)))] H → va_D A [(a0, .inr (8, [a0g_0, a0g_1, a0g_2, a0g_3, a0g_4, a0g_5, a0g_6, a0g_7, a0g_8, a0g_9, a0g_10, a0g_11, a0g_12, a0g_13, a0g_14, Value.ref a0_15, a0g_16, a0g_17, a0g_18, a0g_19, a0g_20, a0g_21, a0g_22, Value.ref a0_23, Value.ref a0_24, Value.int a0_25, a0g_26, a0g_27, a0g_28, a0g_29, a0g_30, a0g_31, a0g_32, a0g_33, a0g_34, a0g_35, a0g_36, a0g_37, a0g_38, a0g_39])), (a0_15, .inl (ka0_15, 156, .inl (fa0_15))), (a0_23, .inl (ka0_23, 3, .inl (j2a0_23_a))), (a0_24, .inl (ka0_24, 3, .inl (j2a0_24_a)))] → va_S A s.heap H locs → lv_has ls 2 [(0, .ref a0), (1, .int j2l1)] → K H locs (F0 m 2 ls []) := by
    intro n
    induction n with
    | zero =>
      intro j2l1 j2a0_23_a j2a0_24_a H locs ls hm bj2l1_l bj2l1_u bj2a0_23_a bj2a0_24_a hF0 hP hD hS hl
      first | exact zg_0 hm bj2l1_u (by decide) | (have h8 := ai_min j2l1; have h9 := ai_max j2l1; exact absurd hm (by omega))
    | succ n ih2 =>
      intro j2l1 j2a0_23_a j2a0_24_a H locs ls hm bj2l1_l bj2l1_u bj2a0_23_a bj2a0_24_a hF0 hP hD hS hl
      refine (hK0 _ _ _).mpr ?_
      have hm2 := hm
      obtain ⟨SX2, hSX2⟩ : ∃ q9, Sf_X8_watchAsTold_2_1 (fl_A fa0_15) j2l1.toInt (fl_A j2a0_23_a) (fl_A j2a0_24_a) = q9 := ⟨_, rfl⟩
      have hF1 := hSX2.symm.trans (Sf_X8_watchAsTold_2_1.eq_1 (fl_A fa0_15) j2l1.toInt (fl_A j2a0_23_a) (fl_A j2a0_24_a))
      refine lv_iload_n hx hb dX8_watchAsTold_2 rfl (lv_at hl 1 rfl) ?_
      refine lv_aload_n hx hb dX8_watchAsTold_3 rfl (lv_at hl 0 rfl) ?_
      refine va_get (D := (dC, dI)) (ci := 8) (v := .ref a0_15) (C := RX8) (T := TX8) (N := 40) hx hb hts zi_X8_watchAsTold_8 hown hK hP 0 rfl rfl 15 (by decide) (hts (.fieldLink RX8 20 "WaxTurnsModel" "\x72" "[I") (List.mem_cons_of_mem _ (List.mem_append_left _ (List.mem_of_getElem? (i := 0) rfl)))) (fun _ h9 => h9) rfl dX8_watchAsTold_4 ?_
      refine lv_iconst (v := 5) hx hb dX8_watchAsTold_7 zk_iconst_5 ?_
      refine va_iald hx hb hK hP 1 0 rfl rfl (by unfold vp_in; decide +kernel) dX8_watchAsTold_8 ?_
      refine lv_topi (fun x8 ex8 => ?_)
      have bx8 : (0 : Int) ≤ x8.toInt ∧ x8.toInt ≤ 3 := by rw [ex8]; exact ai_rd bfa0_15.2.2.2.2.2.1 zq112 zq113 (by decide) (by decide) (by decide)
      have fqx8 := congrArg Int32.toInt ex8
      have hF1 := hF1.trans (fl_lt_eq (show x8.toInt = (fl_A fa0_15) (5) from fqx8))
      refine lv_icmp_ge (tgt := 54) hx hb dX8_watchAsTold_9 (by decide) (fun c9 => ?_) (fun c9 => ?_)
      · have gc9 := ai_le c9
        have u9t_x8 : x8.toInt ≤ (3 : Int) := bx8.2
        have l9t_j2l1 : (0 : Int) ≤ j2l1.toInt := bj2l1_l
        have hF1 := hF1.trans (if_pos (show x8.toInt ≤ j2l1.toInt from gc9))
        have hF0 := hF0.trans (fl_wh_r (hSX2.trans hF1))
        refine lv_aload_n hx hb dX8_watchAsTold_54 rfl (lv_at hl 0 rfl) ?_
        refine lv_iconst (v := 0) hx hb dX8_watchAsTold_55 zk_iconst_0 ?_
        refine va_put (D := (dC, dI)) (ci := 8) (v := .int 0) (ty := .int) (C := RX8) (T := TX8) (N := 40) hx hb hts zi_X8_watchAsTold_8 tyX8 tyX8_ok nmX8 hown hK hP hD hS 0 rfl rfl 25 (by decide) (hts (.fieldLink RX8 235 "WaxTurnsModel" "stood" "I") (List.mem_cons_of_mem _ (List.mem_append_left _ (List.mem_of_getElem? (i := 3) rfl)))) (fun _ h9 => h9) rfl (tyX8_ok 25 (by decide)) rfl rfl (Nat.le_of_ble_eq_true rfl) dX8_watchAsTold_56 (fun H locs hP hD hS => ?_)
        refine zs_0 (y := (a0, .inr (8, [a0g_0, a0g_1, a0g_2, a0g_3, a0g_4, a0g_5, a0g_6, a0g_7, a0g_8, a0g_9, a0g_10, a0g_11, a0g_12, a0g_13, a0g_14, Value.ref a0_15, a0g_16, a0g_17, a0g_18, a0g_19, a0g_20, a0g_21, a0g_22, Value.ref a0_23, Value.ref a0_24, Value.int 0, a0g_26, a0g_27, a0g_28, a0g_29, a0g_30, a0g_31, a0g_32, a0g_33, a0g_34, a0g_35, a0g_36, a0g_37, a0g_38, a0g_39]))) hP hD rfl (fun hP hD => ?_)
        have hFe : FX = (0, (fl_A j2a0_23_a), (fl_A j2a0_24_a)) := hF0
        exact W.vret hx hb hr (fun t ht hW => ⟨⟨(), rfl, trivial, 0, j2a0_23_a, j2a0_24_a, bj2a0_23_a, bj2a0_24_a, hFe, by rw [ht]; exact hP, va_K.moved hW.alike hK, hD⟩, hS.F ht⟩) hS.2.2 dX8_watchAsTold_59
      · have gc9 := ai_nle c9
        have u9f_j2l1 : j2l1.toInt ≤ (2 : Int) := ai_lthi gc9 bx8.2
        have l9f_x8 : (1 : Int) ≤ x8.toInt := ai_ltlo gc9 bj2l1_l
        have hF1 := hF1.trans (if_neg (show ¬ (x8.toInt ≤ j2l1.toInt) from Int.not_le.mpr gc9))
        refine lv_aload_n hx hb dX8_watchAsTold_12 rfl (lv_at hl 0 rfl) ?_
        refine va_get (D := (dC, dI)) (ci := 8) (v := .ref a0_23) (C := RX8) (T := TX8) (N := 40) hx hb hts zi_X8_watchAsTold_8 hown hK hP 0 rfl rfl 23 (by decide) (hts (.fieldLink RX8 38 "WaxTurnsModel" "from" "[I") (List.mem_cons_of_mem _ (List.mem_append_left _ (List.mem_of_getElem? (i := 1) rfl)))) (fun _ h9 => h9) rfl dX8_watchAsTold_13 ?_
        refine lv_iload_n hx hb dX8_watchAsTold_16 rfl (lv_at hl 1 rfl) ?_
        refine lv_aload_n hx hb dX8_watchAsTold_17 rfl (lv_at hl 0 rfl) ?_
        refine va_get (D := (dC, dI)) (ci := 8) (v := .ref a0_15) (C := RX8) (T := TX8) (N := 40) hx hb hts zi_X8_watchAsTold_8 hown hK hP 0 rfl rfl 15 (by decide) (hts (.fieldLink RX8 20 "WaxTurnsModel" "\x72" "[I") (List.mem_cons_of_mem _ (List.mem_append_left _ (List.mem_of_getElem? (i := 0) rfl)))) (fun _ h9 => h9) rfl dX8_watchAsTold_18 ?_
        refine lv_bipush (v := 30) hx hb dX8_watchAsTold_21 zk_bipush_30 ?_
        refine lv_iconst (v := 2) hx hb dX8_watchAsTold_23 zk_iconst_2 ?_
        refine lv_iload_n hx hb dX8_watchAsTold_24 rfl (lv_at hl 1 rfl) ?_
        refine lv_imul hx hb dX8_watchAsTold_25 ?_
        refine lv_topi (fun x25 ex25 => ?_)
        have qx25 : x25.toInt = (2 : Int32).toInt * j2l1.toInt ∧ (0 : Int) ≤ x25.toInt ∧ x25.toInt ≤ 4 := ai_mul ex25 ⟨zq12, zq13⟩ ⟨bj2l1_l, u9f_j2l1⟩ (by decide) (by decide) zq150
        have wx25 : x25.toInt = 2 * j2l1.toInt := qx25.1
        have hF1 := hF1.trans (fl_lt_eq (show x25.toInt = 2 * j2l1.toInt from qx25.1))
        refine lv_iadd hx hb dX8_watchAsTold_26 ?_
        refine lv_topi (fun x26 ex26 => ?_)
        have qx26 : x26.toInt = (30 : Int32).toInt + x25.toInt := ai_add ex26 ⟨zq151, zq152⟩ ⟨qx25.2.1, qx25.2.2⟩ (by decide) (by decide)
        have bx26 : (30 : Int) ≤ x26.toInt ∧ x26.toInt ≤ 34 := ⟨by rw [qx26]; exact Int.add_le_add zq151 qx25.2.1, by rw [qx26]; exact Int.add_le_add zq152 qx25.2.2⟩
        have wx26 : x26.toInt = 30 + x25.toInt := qx26
        have hF1 := hF1.trans (fl_lt_eq (show x26.toInt = 30 + x25.toInt from qx26))
        refine va_iald hx hb hK hP 1 0 rfl rfl (ai_in bx26.1 bx26.2 (by decide) (by decide)) dX8_watchAsTold_27 ?_
        refine lv_topi (fun x27 ex27 => ?_)
        have bx27 : (0 : Int) ≤ x27.toInt ∧ x27.toInt ≤ 8 := by rw [ex27]; exact ai_rd bfa0_15.2.2.2.2.2.2.2.2.2.1 bx26.1 bx26.2 (by decide) (by decide) (by decide)
        have fqx27 := congrArg Int32.toInt ex27
        have hF1 := hF1.trans (fl_lt_eq (show x27.toInt = (fl_A fa0_15) (x26.toInt.toNat) from fqx27))
        refine va_iast hx hb hK hP hD hS 2 1 rfl rfl (ai_in bj2l1_l u9f_j2l1 (by decide) (by decide)) dX8_watchAsTold_28 (fun H locs hP hD hS => ?_)
        obtain ⟨f28, ef28⟩ : ∃ g9 : Nat → Int32, g9 = upd j2a0_23_a (j2l1 : Int32).toNatClampNeg x27 := ⟨_, rfl⟩
        refine zs_2 (y := (a0_23, .inl (ka0_23, 3, .inl (f28)))) hP hD (by rw [ef28]) (fun hP hD => ?_)
        have bf28 : (∀ k, (0 : Int) ≤ (f28 k).toInt ∧ (f28 k).toInt ≤ 80) := by rw [ef28]; exact ai_upd bj2a0_23_a _ ⟨bx27.1, (Int.le_trans bx27.2 zq10)⟩
        have fqf28 := fl_up_eq ef28
        have hF1 := hF1.trans (fl_lt_eq (show (fl_A f28) = fl_up (fl_A j2a0_23_a) (j2l1.toInt.toNat) x27.toInt from fqf28))
        refine lv_aload_n hx hb dX8_watchAsTold_29 rfl (lv_at hl 0 rfl) ?_
        refine va_get (D := (dC, dI)) (ci := 8) (v := .ref a0_24) (C := RX8) (T := TX8) (N := 40) hx hb hts zi_X8_watchAsTold_8 hown hK hP 0 rfl rfl 24 (by decide) (hts (.fieldLink RX8 41 "WaxTurnsModel" "to" "[I") (List.mem_cons_of_mem _ (List.mem_append_left _ (List.mem_of_getElem? (i := 2) rfl)))) (fun _ h9 => h9) rfl dX8_watchAsTold_30 ?_
        refine lv_iload_n hx hb dX8_watchAsTold_33 rfl (lv_at hl 1 rfl) ?_
        refine lv_aload_n hx hb dX8_watchAsTold_34 rfl (lv_at hl 0 rfl) ?_
        refine va_get (D := (dC, dI)) (ci := 8) (v := .ref a0_15) (C := RX8) (T := TX8) (N := 40) hx hb hts zi_X8_watchAsTold_8 hown hK hP 0 rfl rfl 15 (by decide) (hts (.fieldLink RX8 20 "WaxTurnsModel" "\x72" "[I") (List.mem_cons_of_mem _ (List.mem_append_left _ (List.mem_of_getElem? (i := 0) rfl)))) (fun _ h9 => h9) rfl dX8_watchAsTold_35 ?_
        refine lv_bipush (v := 30) hx hb dX8_watchAsTold_38 zk_bipush_30 ?_
        refine lv_iconst (v := 2) hx hb dX8_watchAsTold_40 zk_iconst_2 ?_
        refine lv_iload_n hx hb dX8_watchAsTold_41 rfl (lv_at hl 1 rfl) ?_
        refine lv_imul hx hb dX8_watchAsTold_42 ?_
        refine ax_ti x25 ex25.symm ?_
        refine lv_iadd hx hb dX8_watchAsTold_43 ?_
        refine ax_ti x26 ex26.symm ?_
        refine lv_iconst (v := 1) hx hb dX8_watchAsTold_44 zk_iconst_1 ?_
        refine lv_iadd hx hb dX8_watchAsTold_45 ?_
        refine lv_topi (fun x45 ex45 => ?_)
        have qx45 : x45.toInt = x26.toInt + (1 : Int32).toInt := ai_add ex45 ⟨bx26.1, bx26.2⟩ ⟨zq1, zq0⟩ (by decide) (by decide)
        have bx45 : (31 : Int) ≤ x45.toInt ∧ x45.toInt ≤ 35 := ⟨by rw [qx45]; exact Int.add_le_add bx26.1 zq1, by rw [qx45]; exact Int.add_le_add bx26.2 zq0⟩
        have wx45 : x45.toInt = x26.toInt + 1 := qx45
        have hF1 := hF1.trans (fl_lt_eq (show x45.toInt = x26.toInt + 1 from qx45))
        refine va_iald hx hb hK hP 1 0 rfl rfl (ai_in bx45.1 bx45.2 (by decide) (by decide)) dX8_watchAsTold_46 ?_
        refine lv_topi (fun x46 ex46 => ?_)
        have bx46 : (0 : Int) ≤ x46.toInt ∧ x46.toInt ≤ 8 := by rw [ex46]; exact ai_rd bfa0_15.2.2.2.2.2.2.2.2.2.1 bx45.1 bx45.2 (by decide) (by decide) (by decide)
        have fqx46 := congrArg Int32.toInt ex46
        have hF1 := hF1.trans (fl_lt_eq (show x46.toInt = (fl_A fa0_15) (x45.toInt.toNat) from fqx46))
        refine va_iast hx hb hK hP hD hS 3 2 rfl rfl (ai_in bj2l1_l u9f_j2l1 (by decide) (by decide)) dX8_watchAsTold_47 (fun H locs hP hD hS => ?_)
        obtain ⟨f47, ef47⟩ : ∃ g9 : Nat → Int32, g9 = upd j2a0_24_a (j2l1 : Int32).toNatClampNeg x46 := ⟨_, rfl⟩
        refine zs_3 (y := (a0_24, .inl (ka0_24, 3, .inl (f47)))) hP hD (by rw [ef47]) (fun hP hD => ?_)
        have bf47 : (∀ k, (0 : Int) ≤ (f47 k).toInt ∧ (f47 k).toInt ≤ 80) := by rw [ef47]; exact ai_upd bj2a0_24_a _ ⟨bx46.1, (Int.le_trans bx46.2 zq10)⟩
        have fqf47 := fl_up_eq ef47
        have hF1 := hF1.trans (fl_lt_eq (show (fl_A f47) = fl_up (fl_A j2a0_24_a) (j2l1.toInt.toNat) x46.toInt from fqf47))
        obtain ⟨x48, ex48⟩ : ∃ y : Int32, y = j2l1 + Int32.ofInt 1 := ⟨_, rfl⟩
        have qx48 : x48.toInt = j2l1.toInt + 1 := ai_inc ex48 (by decide) (by decide) u9f_j2l1 (by decide)
        have bx48 : (1 : Int) ≤ x48.toInt ∧ x48.toInt ≤ 3 := ⟨by rw [qx48]; exact Int.add_le_add bj2l1_l (Int.le_refl _), by rw [qx48]; exact Int.add_le_add u9f_j2l1 (Int.le_refl _)⟩
        refine lv_iinc (v := x48) (lv' := [(1, .int x48), (0, .ref a0)]) hx hb dX8_watchAsTold_48 hl (k := 1) rfl ex48.symm (by decide) rfl (fun ls hl => ?_)
        have hF1 := hF1.trans (fl_lt_eq (show x48.toInt = j2l1.toInt + 1 from qx48))
        refine lv_goto (tgt := 2) hx hb dX8_watchAsTold_51 (by decide) ?_
        exact (hK0 _ _ _).mp (ih2 x48 f28 f47 _ _ _ (by first | exact zg_s hm2 qx48 | (have h0 := qx48; omega)) (Int.le_trans zq4 bx48.1) bx48.2 bf28 bf47 (hF0.trans (fl_wh_l (hSX2.trans hF1))) hP hD hS (lv_sub hl [1, 0] rfl))
  exact (hK0 _ _ _).mp (J2 4 0 fa0_23 fa0_24 _ _ _ (by first | decide +kernel | (have h1 : (0 : Int) ≤ (0 : Int32).toInt := zq5; have h2 : (0 : Int32).toInt ≤ (0 : Int) := zq6; omega)) zq5 (Int.le_trans zq6 zq11) bfa0_23 bfa0_24 (by rw [show (0 : Int32).toInt = 0 from by decide]; exact hF0) hP hD hS (lv_sub hl [1, 0] rfl))

set_option maxHeartbeats 4000000 in
set_option maxRecDepth 100000 in
theorem f_X8_watcherAt (l : Launch) (dC : Nat → ClassId) (dI : Nat → Nat → Nat) (sz : Nat) (a0 : Nat) (a1 : Int32) (a2 : Int32) (a0g_0 a0g_1 a0g_2 a0g_3 a0g_4 a0g_5 a0g_6 a0g_7 a0g_8 a0g_9 a0g_10 a0g_11 a0g_12 a0g_13 a0g_14 a0g_15 a0g_16 a0g_17 a0g_18 a0g_19 a0g_20 a0g_21 a0g_22 a0g_25 a0g_26 a0g_27 a0g_28 a0g_29 a0g_30 a0g_31 a0g_32 a0g_33 a0g_34 a0g_35 a0g_36 a0g_37 a0g_38 a0g_39 : Value) (a0_23 : Nat) (a0_24 : Nat) (ka0_24 : ClassId) (fa0_24 : Nat → Int32) (ka0_23 : ClassId) (fa0_23 : Nat → Int32) (ba1_l : (0 : Int) ≤ a1.toInt) (ba1_u : a1.toInt ≤ (2 : Int)) (bfa0_24 : (∀ k, (0 : Int) ≤ (fa0_24 k).toInt ∧ (fa0_24 k).toInt ≤ 80)) (bfa0_23 : (∀ k, (0 : Int) ≤ (fa0_23 k).toInt ∧ (fa0_23 k).toInt ≤ 80)) : zm l yX8_watcherAt wsX8_watcherAt ({ frames := 0, cells := 0, slots := 0, locals := 0 }) [.ref a0, .int a1, .int a2] dC dI sz [(a0, .inr (8, [a0g_0, a0g_1, a0g_2, a0g_3, a0g_4, a0g_5, a0g_6, a0g_7, a0g_8, a0g_9, a0g_10, a0g_11, a0g_12, a0g_13, a0g_14, a0g_15, a0g_16, a0g_17, a0g_18, a0g_19, a0g_20, a0g_21, a0g_22, Value.ref a0_23, Value.ref a0_24, a0g_25, a0g_26, a0g_27, a0g_28, a0g_29, a0g_30, a0g_31, a0g_32, a0g_33, a0g_34, a0g_35, a0g_36, a0g_37, a0g_38, a0g_39])), (a0_24, .inl (ka0_24, 3, .inl (fa0_24))), (a0_23, .inl (ka0_23, 3, .inl (fa0_23)))] [(ka0_24, .int), (ka0_23, .int)] (fun A _ => True) (fun A => va_Qi (fun (r : Int32) (_ : Unit) => (True) ∧ r.toInt = Ff_X8_watcherAt a1.toInt a2.toInt (fl_A fa0_24) (fl_A fa0_23)) (fun (_ : Unit) (t : State) => ax_B dC dI A [(a0, .inr (8, [a0g_0, a0g_1, a0g_2, a0g_3, a0g_4, a0g_5, a0g_6, a0g_7, a0g_8, a0g_9, a0g_10, a0g_11, a0g_12, a0g_13, a0g_14, a0g_15, a0g_16, a0g_17, a0g_18, a0g_19, a0g_20, a0g_21, a0g_22, Value.ref a0_23, Value.ref a0_24, a0g_25, a0g_26, a0g_27, a0g_28, a0g_29, a0g_30, a0g_31, a0g_32, a0g_33, a0g_34, a0g_35, a0g_36, a0g_37, a0g_38, a0g_39])), (a0_24, .inl (ka0_24, 3, .inl (fa0_24))), (a0_23, .inl (ka0_23, 3, .inl (fa0_23)))] [(ka0_24, .int), (ka0_23, .int)] t) A) := by
  refine zh (cc := cX8_watcherAt) (maxL := 6) (ret := (some .int)) zn_RX8 rfl (Nat.le_of_ble_eq_true rfl) (fun p e s m below meth c A ls hx hb hml hr hts (hown : s.vm.findClass RX8 = some m.cls) hlocks hA hS hP hK hD hE (hl : lv_has ls 6 [(0, .ref a0), (1, .int a1), (2, .int a2)]) => ?_)
  generalize hFX : Ff_X8_watcherAt a1.toInt a2.toInt (fl_A fa0_24) (fl_A fa0_23) = FX at ⊢
  have hF0 := hFX.symm.trans (Ff_X8_watcherAt.eq_1 a1.toInt a2.toInt (fl_A fa0_24) (fl_A fa0_23))
  refine lv_aload_n hx hb dX8_watcherAt_0 rfl (lv_at hl 0 rfl) ?_
  refine va_get (D := (dC, dI)) (ci := 8) (v := .ref a0_24) (C := RX8) (T := TX8) (N := 40) hx hb hts zi_X8_watcherAt_8 hown hK hP 0 rfl rfl 24 (by decide) (hts (.fieldLink RX8 41 "WaxTurnsModel" "to" "[I") (List.mem_cons_of_mem _ (List.mem_append_left _ (List.mem_of_getElem? (i := 0) rfl)))) (fun _ h9 => h9) rfl dX8_watcherAt_1 ?_
  refine lv_iload_n hx hb dX8_watcherAt_4 rfl (lv_at hl 1 rfl) ?_
  refine va_iald hx hb hK hP 1 0 rfl rfl (ai_in ba1_l ba1_u (by decide) (by decide)) dX8_watcherAt_5 ?_
  refine lv_topi (fun x5 ex5 => ?_)
  have bx5 : (0 : Int) ≤ x5.toInt ∧ x5.toInt ≤ 80 := by rw [ex5]; exact bfa0_24 _
  have fqx5 := congrArg Int32.toInt ex5
  have hF0 := hF0.trans (fl_lt_eq (show x5.toInt = (fl_A fa0_24) (a1.toInt.toNat) from fqx5))
  refine lv_aload_n hx hb dX8_watcherAt_6 rfl (lv_at hl 0 rfl) ?_
  refine va_get (D := (dC, dI)) (ci := 8) (v := .ref a0_23) (C := RX8) (T := TX8) (N := 40) hx hb hts zi_X8_watcherAt_8 hown hK hP 0 rfl rfl 23 (by decide) (hts (.fieldLink RX8 38 "WaxTurnsModel" "from" "[I") (List.mem_cons_of_mem _ (List.mem_append_left _ (List.mem_of_getElem? (i := 1) rfl)))) (fun _ h9 => h9) rfl dX8_watcherAt_7 ?_
  refine lv_iload_n hx hb dX8_watcherAt_10 rfl (lv_at hl 1 rfl) ?_
  refine va_iald hx hb hK hP 2 1 rfl rfl (ai_in ba1_l ba1_u (by decide) (by decide)) dX8_watcherAt_11 ?_
  refine lv_topi (fun x11 ex11 => ?_)
  have bx11 : (0 : Int) ≤ x11.toInt ∧ x11.toInt ≤ 80 := by rw [ex11]; exact bfa0_23 _
  have fqx11 := congrArg Int32.toInt ex11
  have hF0 := hF0.trans (fl_lt_eq (show x11.toInt = (fl_A fa0_23) (a1.toInt.toNat) from fqx11))
  refine lv_isub hx hb dX8_watcherAt_12 ?_
  refine lv_topi (fun x12 ex12 => ?_)
  have qx12 : x12.toInt = x5.toInt - x11.toInt := ai_sub ex12 ⟨bx5.1, bx5.2⟩ ⟨bx11.1, bx11.2⟩ (by decide) (by decide)
  have bx12 : (-80 : Int) ≤ x12.toInt ∧ x12.toInt ≤ 80 := ⟨by rw [qx12]; exact Int.sub_le_sub bx5.1 bx11.2, by rw [qx12]; exact Int.sub_le_sub bx5.2 bx11.1⟩
  have hF0 := hF0.trans (fl_lt_eq (show x12.toInt = x5.toInt - x11.toInt from qx12))
  refine lv_istore_n (lv' := [(3, .int x12), (0, .ref a0), (1, .int a1), (2, .int a2)]) hx hb dX8_watcherAt_13 rfl hl (by decide) rfl (fun ls hl => ?_)
  refine lv_iload_n hx hb dX8_watcherAt_14 rfl (lv_at hl 0 rfl) ?_
  refine lv_if_ge (tgt := 23) hx hb dX8_watcherAt_15 (by decide) (fun c15 => ?_) (fun c15 => ?_)
  · have gc15 := ai_le c15
    have l15t_x12 : (0 : Int) ≤ x12.toInt := Int.le_trans zq5 gc15
    have hF0 := hF0.trans (if_pos (show 0 ≤ x12.toInt from gc15))
    refine lv_iload_n hx hb dX8_watcherAt_23 rfl (lv_at hl 0 rfl) ?_
    refine lv_istore (lv' := [(4, .int x12), (3, .int x12), (0, .ref a0), (1, .int a1), (2, .int a2)]) hx hb dX8_watcherAt_24 hl (by decide) rfl (fun ls hl => ?_)
    refine lv_iload hx hb dX8_watcherAt_26 (lv_at hl 0 rfl) ?_
    refine lv_if_ne (tgt := 38) hx hb dX8_watcherAt_28 (by decide) (fun c28 => ?_) (fun c28 => ?_)
    · have gc28 := ai_ne c28
      have l28t_x12 : (1 : Int) ≤ x12.toInt := (by first | exact zg_l l15t_x12 gc28 (by decide) (by decide) | (have h1 := l15t_x12; have h2 : (0 : Int32).toInt = 0 := (by decide); rw [h2] at gc28; omega))
      have hF0 := hF0.trans (if_neg (show ¬ (x12.toInt = 0) from  gc28))
      refine lv_iload_n hx hb dX8_watcherAt_38 rfl (lv_at hl 4 rfl) ?_
      refine lv_iconst (v := 2) hx hb dX8_watcherAt_39 zk_iconst_2 ?_
      refine lv_iload hx hb dX8_watcherAt_40 (lv_at hl 0 rfl) ?_
      refine lv_imul hx hb dX8_watcherAt_42 ?_
      refine lv_topi (fun x42 ex42 => ?_)
      have qx42 : x42.toInt = (2 : Int32).toInt * x12.toInt ∧ (2 : Int) ≤ x42.toInt ∧ x42.toInt ≤ 160 := ai_mul ex42 ⟨zq12, zq13⟩ ⟨l28t_x12, bx12.2⟩ (by decide) (by decide) zq14
      have wx42 : x42.toInt = 2 * x12.toInt := qx42.1
      have hF0 := hF0.trans (fl_lt_eq (show x42.toInt = 2 * x12.toInt from qx42.1))
      refine lv_irem hx hb dX8_watcherAt_43 (ai_nz qx42.2.1 (by decide)) ?_
      refine lv_topi (fun x43 ex43 => ?_)
      have fqx43 := fl_rem_eq ex43
      have hF0 := hF0.trans (fl_lt_eq (show x43.toInt = fl_rem a2.toInt x42.toInt from fqx43))
      refine lv_istore (lv' := [(5, .int x43), (4, .int x12), (3, .int x12), (0, .ref a0), (1, .int a1), (2, .int a2)]) hx hb dX8_watcherAt_44 hl (by decide) rfl (fun ls hl => ?_)
      refine lv_iload hx hb dX8_watcherAt_46 (lv_at hl 0 rfl) ?_
      refine lv_iload hx hb dX8_watcherAt_48 (lv_at hl 1 rfl) ?_
      refine lv_icmp_le (tgt := 62) hx hb dX8_watcherAt_50 (by decide) (fun c50 => ?_) (fun c50 => ?_)
      · have gc50 := ai_le c50
        have u50t_x43 : x43.toInt ≤ (80 : Int) := Int.le_trans gc50 bx12.2
        have hF0 := hF0.trans (if_pos (show x43.toInt ≤ x12.toInt from gc50))
        refine lv_iload_n hx hb dX8_watcherAt_62 rfl (lv_at hl 2 rfl) ?_
        refine lv_if_ge (tgt := 78) hx hb dX8_watcherAt_63 (by decide) (fun c63 => ?_) (fun c63 => ?_)
        · have gc63 := ai_le c63
          have l63t_x12 : (1 : Int) ≤ x12.toInt := l28t_x12
          have hF0 := hF0.trans (if_pos (show 0 ≤ x12.toInt from gc63))
          refine lv_aload_n hx hb dX8_watcherAt_78 rfl (lv_at hl 3 rfl) ?_
          refine va_get (D := (dC, dI)) (ci := 8) (v := .ref a0_23) (C := RX8) (T := TX8) (N := 40) hx hb hts zi_X8_watcherAt_8 hown hK hP 0 rfl rfl 23 (by decide) (hts (.fieldLink RX8 38 "WaxTurnsModel" "from" "[I") (List.mem_cons_of_mem _ (List.mem_append_left _ (List.mem_of_getElem? (i := 1) rfl)))) (fun _ h9 => h9) rfl dX8_watcherAt_79 ?_
          refine lv_iload_n hx hb dX8_watcherAt_82 rfl (lv_at hl 4 rfl) ?_
          refine va_iald hx hb hK hP 2 1 rfl rfl (ai_in ba1_l ba1_u (by decide) (by decide)) dX8_watcherAt_83 ?_
          refine ax_ti x11 ex11.symm ?_
          refine lv_iload hx hb dX8_watcherAt_84 (lv_at hl 0 rfl) ?_
          refine lv_iadd hx hb dX8_watcherAt_86 ?_
          refine lv_topi (fun x86 ex86 => ?_)
          have qx86 : x86.toInt = x11.toInt + x43.toInt := ai_add ex86 ⟨bx11.1, bx11.2⟩ ⟨(ai_min x43), u50t_x43⟩ (by decide) (by decide)
          have bx86 : (-2147483648 : Int) ≤ x86.toInt ∧ x86.toInt ≤ 160 := ⟨by rw [qx86]; exact Int.add_le_add bx11.1 (ai_min x43), by rw [qx86]; exact Int.add_le_add bx11.2 u50t_x43⟩
          have hF0 := hF0.trans (fl_lt_eq (show x86.toInt = x11.toInt + x43.toInt from qx86))
          have hFe : FX = x86.toInt := hF0
          exact W.iret (v := x86) hx hb hr (fun t ht hW => ⟨⟨x86, (), rfl, ⟨trivial, hFe.symm⟩, by rw [ht]; exact hP, va_K.moved hW.alike hK, hD⟩, hS.F ht⟩) hS.2.2 dX8_watcherAt_87
        · have gc63 := ai_nle c63
          have u63f_x12 : x12.toInt ≤ (-1 : Int) := ai_lthi gc63 zq6
          exact absurd (Int.le_trans l28t_x12 u63f_x12) (by decide)
      · have gc50 := ai_nle c50
        have u50f_x12 : x12.toInt ≤ (80 : Int) := bx12.2
        have l50f_x43 : (2 : Int) ≤ x43.toInt := ai_ltlo gc50 l28t_x12
        have hF0 := hF0.trans (if_neg (show ¬ (x43.toInt ≤ x12.toInt) from Int.not_le.mpr gc50))
        refine lv_iconst (v := 2) hx hb dX8_watcherAt_53 zk_iconst_2 ?_
        refine lv_iload hx hb dX8_watcherAt_54 (lv_at hl 1 rfl) ?_
        refine lv_imul hx hb dX8_watcherAt_56 ?_
        refine ax_ti x42 ex42.symm ?_
        refine lv_iload hx hb dX8_watcherAt_57 (lv_at hl 0 rfl) ?_
        refine lv_isub hx hb dX8_watcherAt_59 ?_
        refine lv_topi (fun x59 ex59 => ?_)
        have qx59 : x59.toInt = x42.toInt - x43.toInt := ai_sub ex59 ⟨qx42.2.1, qx42.2.2⟩ ⟨l50f_x43, (ai_max x43)⟩ (by decide) (by decide)
        have bx59 : (-2147483645 : Int) ≤ x59.toInt ∧ x59.toInt ≤ 158 := ⟨by rw [qx59]; exact Int.sub_le_sub qx42.2.1 (ai_max x43), by rw [qx59]; exact Int.sub_le_sub qx42.2.2 l50f_x43⟩
        have hF0 := hF0.trans (fl_lt_eq (show x59.toInt = x42.toInt - x43.toInt from qx59))
        refine lv_istore (lv' := [(5, .int x59), (4, .int x12), (3, .int x12), (0, .ref a0), (1, .int a1), (2, .int a2)]) hx hb dX8_watcherAt_60 hl (by decide) rfl (fun ls hl => ?_)
        refine lv_iload_n hx hb dX8_watcherAt_62 rfl (lv_at hl 2 rfl) ?_
        refine lv_if_ge (tgt := 78) hx hb dX8_watcherAt_63 (by decide) (fun c63 => ?_) (fun c63 => ?_)
        · have gc63 := ai_le c63
          have l63t_x12 : (1 : Int) ≤ x12.toInt := l28t_x12
          have hF0 := hF0.trans (if_pos (show 0 ≤ x12.toInt from gc63))
          refine lv_aload_n hx hb dX8_watcherAt_78 rfl (lv_at hl 3 rfl) ?_
          refine va_get (D := (dC, dI)) (ci := 8) (v := .ref a0_23) (C := RX8) (T := TX8) (N := 40) hx hb hts zi_X8_watcherAt_8 hown hK hP 0 rfl rfl 23 (by decide) (hts (.fieldLink RX8 38 "WaxTurnsModel" "from" "[I") (List.mem_cons_of_mem _ (List.mem_append_left _ (List.mem_of_getElem? (i := 1) rfl)))) (fun _ h9 => h9) rfl dX8_watcherAt_79 ?_
          refine lv_iload_n hx hb dX8_watcherAt_82 rfl (lv_at hl 4 rfl) ?_
          refine va_iald hx hb hK hP 2 1 rfl rfl (ai_in ba1_l ba1_u (by decide) (by decide)) dX8_watcherAt_83 ?_
          refine ax_ti x11 ex11.symm ?_
          refine lv_iload hx hb dX8_watcherAt_84 (lv_at hl 0 rfl) ?_
          refine lv_iadd hx hb dX8_watcherAt_86 ?_
          refine lv_topi (fun x86 ex86 => ?_)
          have qx86 : x86.toInt = x11.toInt + x59.toInt := ai_add ex86 ⟨bx11.1, bx11.2⟩ ⟨bx59.1, bx59.2⟩ (by decide) (by decide)
          have bx86 : (-2147483645 : Int) ≤ x86.toInt ∧ x86.toInt ≤ 238 := ⟨by rw [qx86]; exact Int.add_le_add bx11.1 bx59.1, by rw [qx86]; exact Int.add_le_add bx11.2 bx59.2⟩
          have hF0 := hF0.trans (fl_lt_eq (show x86.toInt = x11.toInt + x59.toInt from qx86))
          have hFe : FX = x86.toInt := hF0
          exact W.iret (v := x86) hx hb hr (fun t ht hW => ⟨⟨x86, (), rfl, ⟨trivial, hFe.symm⟩, by rw [ht]; exact hP, va_K.moved hW.alike hK, hD⟩, hS.F ht⟩) hS.2.2 dX8_watcherAt_87
        · have gc63 := ai_nle c63
          have u63f_x12 : x12.toInt ≤ (-1 : Int) := ai_lthi gc63 zq6
          exact absurd (Int.le_trans l28t_x12 u63f_x12) (by decide)
    · have gc28 := ai_eq c28
      have u28f_x12 : x12.toInt ≤ (0 : Int) := Int.le_trans (Int.le_of_eq gc28) zq6
      have l28f_x12 : (0 : Int) ≤ x12.toInt := l15t_x12
      have hF0 := hF0.trans (if_pos (show x12.toInt = 0 from gc28))
      refine lv_aload_n hx hb dX8_watcherAt_31 rfl (lv_at hl 2 rfl) ?_
      refine va_get (D := (dC, dI)) (ci := 8) (v := .ref a0_23) (C := RX8) (T := TX8) (N := 40) hx hb hts zi_X8_watcherAt_8 hown hK hP 0 rfl rfl 23 (by decide) (hts (.fieldLink RX8 38 "WaxTurnsModel" "from" "[I") (List.mem_cons_of_mem _ (List.mem_append_left _ (List.mem_of_getElem? (i := 1) rfl)))) (fun _ h9 => h9) rfl dX8_watcherAt_32 ?_
      refine lv_iload_n hx hb dX8_watcherAt_35 rfl (lv_at hl 3 rfl) ?_
      refine va_iald hx hb hK hP 2 1 rfl rfl (ai_in ba1_l ba1_u (by decide) (by decide)) dX8_watcherAt_36 ?_
      refine ax_ti x11 ex11.symm ?_
      have hFe : FX = x11.toInt := hF0
      exact W.iret (v := x11) hx hb hr (fun t ht hW => ⟨⟨x11, (), rfl, ⟨trivial, hFe.symm⟩, by rw [ht]; exact hP, va_K.moved hW.alike hK, hD⟩, hS.F ht⟩) hS.2.2 dX8_watcherAt_37
  · have gc15 := ai_nle c15
    have u15f_x12 : x12.toInt ≤ (-1 : Int) := ai_lthi gc15 zq6
    have hF0 := hF0.trans (if_neg (show ¬ (0 ≤ x12.toInt) from Int.not_le.mpr gc15))
    refine lv_iload_n hx hb dX8_watcherAt_18 rfl (lv_at hl 0 rfl) ?_
    refine lv_ineg hx hb dX8_watcherAt_19 ?_
    refine lv_topi (fun x19 ex19 => ?_)
    have qx19 : x19.toInt = -x12.toInt := ai_neg ex19 bx12.1 (by decide)
    have bx19 : (1 : Int) ≤ x19.toInt ∧ x19.toInt ≤ 80 := ⟨by rw [qx19]; exact Int.neg_le_neg u15f_x12, by rw [qx19]; exact Int.neg_le_neg bx12.1⟩
    have hF0 := hF0.trans (fl_lt_eq (show x19.toInt = -x12.toInt from qx19))
    refine lv_goto (tgt := 24) hx hb dX8_watcherAt_20 (by decide) ?_
    refine lv_istore (lv' := [(4, .int x19), (3, .int x12), (0, .ref a0), (1, .int a1), (2, .int a2)]) hx hb dX8_watcherAt_24 hl (by decide) rfl (fun ls hl => ?_)
    refine lv_iload hx hb dX8_watcherAt_26 (lv_at hl 0 rfl) ?_
    refine lv_if_ne (tgt := 38) hx hb dX8_watcherAt_28 (by decide) (fun c28 => ?_) (fun c28 => ?_)
    · have gc28 := ai_ne c28
      have hF0 := hF0.trans (if_neg (show ¬ (x19.toInt = 0) from  gc28))
      refine lv_iload_n hx hb dX8_watcherAt_38 rfl (lv_at hl 4 rfl) ?_
      refine lv_iconst (v := 2) hx hb dX8_watcherAt_39 zk_iconst_2 ?_
      refine lv_iload hx hb dX8_watcherAt_40 (lv_at hl 0 rfl) ?_
      refine lv_imul hx hb dX8_watcherAt_42 ?_
      refine lv_topi (fun x42 ex42 => ?_)
      have qx42 : x42.toInt = (2 : Int32).toInt * x19.toInt ∧ (2 : Int) ≤ x42.toInt ∧ x42.toInt ≤ 160 := ai_mul ex42 ⟨zq12, zq13⟩ ⟨bx19.1, bx19.2⟩ (by decide) (by decide) zq14
      have wx42 : x42.toInt = 2 * x19.toInt := qx42.1
      have hF0 := hF0.trans (fl_lt_eq (show x42.toInt = 2 * x19.toInt from qx42.1))
      refine lv_irem hx hb dX8_watcherAt_43 (ai_nz qx42.2.1 (by decide)) ?_
      refine lv_topi (fun x43 ex43 => ?_)
      have fqx43 := fl_rem_eq ex43
      have hF0 := hF0.trans (fl_lt_eq (show x43.toInt = fl_rem a2.toInt x42.toInt from fqx43))
      refine lv_istore (lv' := [(5, .int x43), (4, .int x19), (3, .int x12), (0, .ref a0), (1, .int a1), (2, .int a2)]) hx hb dX8_watcherAt_44 hl (by decide) rfl (fun ls hl => ?_)
      refine lv_iload hx hb dX8_watcherAt_46 (lv_at hl 0 rfl) ?_
      refine lv_iload hx hb dX8_watcherAt_48 (lv_at hl 1 rfl) ?_
      refine lv_icmp_le (tgt := 62) hx hb dX8_watcherAt_50 (by decide) (fun c50 => ?_) (fun c50 => ?_)
      · have gc50 := ai_le c50
        have u50t_x43 : x43.toInt ≤ (80 : Int) := Int.le_trans gc50 bx19.2
        have hF0 := hF0.trans (if_pos (show x43.toInt ≤ x19.toInt from gc50))
        refine lv_iload_n hx hb dX8_watcherAt_62 rfl (lv_at hl 2 rfl) ?_
        refine lv_if_ge (tgt := 78) hx hb dX8_watcherAt_63 (by decide) (fun c63 => ?_) (fun c63 => ?_)
        · have gc63 := ai_le c63
          have l63t_x12 : (0 : Int) ≤ x12.toInt := Int.le_trans zq5 gc63
          exact absurd (Int.le_trans l63t_x12 u15f_x12) (by decide)
        · have gc63 := ai_nle c63
          have u63f_x12 : x12.toInt ≤ (-1 : Int) := u15f_x12
          have hF0 := hF0.trans (if_neg (show ¬ (0 ≤ x12.toInt) from Int.not_le.mpr gc63))
          refine lv_aload_n hx hb dX8_watcherAt_66 rfl (lv_at hl 3 rfl) ?_
          refine va_get (D := (dC, dI)) (ci := 8) (v := .ref a0_23) (C := RX8) (T := TX8) (N := 40) hx hb hts zi_X8_watcherAt_8 hown hK hP 0 rfl rfl 23 (by decide) (hts (.fieldLink RX8 38 "WaxTurnsModel" "from" "[I") (List.mem_cons_of_mem _ (List.mem_append_left _ (List.mem_of_getElem? (i := 1) rfl)))) (fun _ h9 => h9) rfl dX8_watcherAt_67 ?_
          refine lv_iload_n hx hb dX8_watcherAt_70 rfl (lv_at hl 4 rfl) ?_
          refine va_iald hx hb hK hP 2 1 rfl rfl (ai_in ba1_l ba1_u (by decide) (by decide)) dX8_watcherAt_71 ?_
          refine ax_ti x11 ex11.symm ?_
          refine lv_iload hx hb dX8_watcherAt_72 (lv_at hl 0 rfl) ?_
          refine lv_isub hx hb dX8_watcherAt_74 ?_
          refine lv_topi (fun x74 ex74 => ?_)
          have fqx74 := fl_isub_eq ex74
          have hF0 := hF0.trans (fl_lt_eq (show x74.toInt = fl_isub x11.toInt x43.toInt from fqx74))
          refine lv_goto (tgt := 87) hx hb dX8_watcherAt_75 (by decide) ?_
          have hFe : FX = x74.toInt := hF0
          exact W.iret (v := x74) hx hb hr (fun t ht hW => ⟨⟨x74, (), rfl, ⟨trivial, hFe.symm⟩, by rw [ht]; exact hP, va_K.moved hW.alike hK, hD⟩, hS.F ht⟩) hS.2.2 dX8_watcherAt_87
      · have gc50 := ai_nle c50
        have u50f_x19 : x19.toInt ≤ (80 : Int) := bx19.2
        have l50f_x43 : (2 : Int) ≤ x43.toInt := ai_ltlo gc50 bx19.1
        have hF0 := hF0.trans (if_neg (show ¬ (x43.toInt ≤ x19.toInt) from Int.not_le.mpr gc50))
        refine lv_iconst (v := 2) hx hb dX8_watcherAt_53 zk_iconst_2 ?_
        refine lv_iload hx hb dX8_watcherAt_54 (lv_at hl 1 rfl) ?_
        refine lv_imul hx hb dX8_watcherAt_56 ?_
        refine ax_ti x42 ex42.symm ?_
        refine lv_iload hx hb dX8_watcherAt_57 (lv_at hl 0 rfl) ?_
        refine lv_isub hx hb dX8_watcherAt_59 ?_
        refine lv_topi (fun x59 ex59 => ?_)
        have qx59 : x59.toInt = x42.toInt - x43.toInt := ai_sub ex59 ⟨qx42.2.1, qx42.2.2⟩ ⟨l50f_x43, (ai_max x43)⟩ (by decide) (by decide)
        have bx59 : (-2147483645 : Int) ≤ x59.toInt ∧ x59.toInt ≤ 158 := ⟨by rw [qx59]; exact Int.sub_le_sub qx42.2.1 (ai_max x43), by rw [qx59]; exact Int.sub_le_sub qx42.2.2 l50f_x43⟩
        have hF0 := hF0.trans (fl_lt_eq (show x59.toInt = x42.toInt - x43.toInt from qx59))
        refine lv_istore (lv' := [(5, .int x59), (4, .int x19), (3, .int x12), (0, .ref a0), (1, .int a1), (2, .int a2)]) hx hb dX8_watcherAt_60 hl (by decide) rfl (fun ls hl => ?_)
        refine lv_iload_n hx hb dX8_watcherAt_62 rfl (lv_at hl 2 rfl) ?_
        refine lv_if_ge (tgt := 78) hx hb dX8_watcherAt_63 (by decide) (fun c63 => ?_) (fun c63 => ?_)
        · have gc63 := ai_le c63
          have l63t_x12 : (0 : Int) ≤ x12.toInt := Int.le_trans zq5 gc63
          exact absurd (Int.le_trans l63t_x12 u15f_x12) (by decide)
        · have gc63 := ai_nle c63
          have u63f_x12 : x12.toInt ≤ (-1 : Int) := u15f_x12
          have hF0 := hF0.trans (if_neg (show ¬ (0 ≤ x12.toInt) from Int.not_le.mpr gc63))
          refine lv_aload_n hx hb dX8_watcherAt_66 rfl (lv_at hl 3 rfl) ?_
          refine va_get (D := (dC, dI)) (ci := 8) (v := .ref a0_23) (C := RX8) (T := TX8) (N := 40) hx hb hts zi_X8_watcherAt_8 hown hK hP 0 rfl rfl 23 (by decide) (hts (.fieldLink RX8 38 "WaxTurnsModel" "from" "[I") (List.mem_cons_of_mem _ (List.mem_append_left _ (List.mem_of_getElem? (i := 1) rfl)))) (fun _ h9 => h9) rfl dX8_watcherAt_67 ?_
          refine lv_iload_n hx hb dX8_watcherAt_70 rfl (lv_at hl 4 rfl) ?_
          refine va_iald hx hb hK hP 2 1 rfl rfl (ai_in ba1_l ba1_u (by decide) (by decide)) dX8_watcherAt_71 ?_
          refine ax_ti x11 ex11.symm ?_
          refine lv_iload hx hb dX8_watcherAt_72 (lv_at hl 0 rfl) ?_
          refine lv_isub hx hb dX8_watcherAt_74 ?_
          refine lv_topi (fun x74 ex74 => ?_)
          have fqx74 := fl_isub_eq ex74
          have hF0 := hF0.trans (fl_lt_eq (show x74.toInt = fl_isub x11.toInt x59.toInt from fqx74))
          refine lv_goto (tgt := 87) hx hb dX8_watcherAt_75 (by decide) ?_
          have hFe : FX = x74.toInt := hF0
          exact W.iret (v := x74) hx hb hr (fun t ht hW => ⟨⟨x74, (), rfl, ⟨trivial, hFe.symm⟩, by rw [ht]; exact hP, va_K.moved hW.alike hK, hD⟩, hS.F ht⟩) hS.2.2 dX8_watcherAt_87
    · have gc28 := ai_eq c28
      have u28f_x19 : x19.toInt ≤ (0 : Int) := Int.le_trans (Int.le_of_eq gc28) zq6
      have l28f_x19 : (1 : Int) ≤ x19.toInt := bx19.1
      exact absurd (Int.le_trans l28f_x19 u28f_x19) (by decide)

set_option maxHeartbeats 4000000 in
set_option maxRecDepth 100000 in
theorem f_X8_isWatched (l : Launch) (dC : Nat → ClassId) (dI : Nat → Nat → Nat) (sz : Nat) (a0 : Nat) (a1 : Int32) (a2 : Int32) (a0g_0 a0g_1 a0g_2 a0g_3 a0g_4 a0g_5 a0g_6 a0g_7 a0g_8 a0g_9 a0g_10 a0g_11 a0g_12 a0g_13 a0g_14 a0g_16 a0g_17 a0g_18 a0g_19 a0g_20 a0g_21 a0g_22 a0g_26 a0g_27 a0g_28 a0g_29 a0g_30 a0g_31 a0g_32 a0g_33 a0g_34 a0g_35 a0g_36 a0g_37 a0g_38 a0g_39 : Value) (a0_15 : Nat) (a0_23 : Nat) (a0_24 : Nat) (a0_25 : Int32) (ka0_15 : ClassId) (fa0_15 : Nat → Int32) (ka0_24 : ClassId) (fa0_24 : Nat → Int32) (ka0_23 : ClassId) (fa0_23 : Nat → Int32) (bfa0_15 : ((∀ k : Nat, 0 ≤ k → k ≤ 0 → (2 : Int) ≤ (fa0_15 k).toInt ∧ (fa0_15 k).toInt ≤ 9) ∧ (∀ k : Nat, 1 ≤ k → k ≤ 1 → (1 : Int) ≤ (fa0_15 k).toInt ∧ (fa0_15 k).toInt ≤ 20) ∧ (∀ k : Nat, 2 ≤ k → k ≤ 2 → (0 : Int) ≤ (fa0_15 k).toInt ∧ (fa0_15 k).toInt ≤ 8) ∧ (∀ k : Nat, 3 ≤ k → k ≤ 3 → (0 : Int) ≤ (fa0_15 k).toInt ∧ (fa0_15 k).toInt ≤ 100) ∧ (∀ k : Nat, 4 ≤ k → k ≤ 4 → (0 : Int) ≤ (fa0_15 k).toInt ∧ (fa0_15 k).toInt ≤ 9) ∧ (∀ k : Nat, 5 ≤ k → k ≤ 5 → (0 : Int) ≤ (fa0_15 k).toInt ∧ (fa0_15 k).toInt ≤ 3) ∧ (∀ k : Nat, 6 ≤ k → k ≤ 6 → (0 : Int) ≤ (fa0_15 k).toInt ∧ (fa0_15 k).toInt ≤ 6) ∧ (∀ k : Nat, 7 ≤ k → k ≤ 9 → (0 : Int) ≤ (fa0_15 k).toInt ∧ (fa0_15 k).toInt ≤ 8) ∧ (∀ k : Nat, 12 ≤ k → k ≤ 29 → (0 : Int) ≤ (fa0_15 k).toInt ∧ (fa0_15 k).toInt ≤ 20) ∧ (∀ k : Nat, 30 ≤ k → k ≤ 35 → (0 : Int) ≤ (fa0_15 k).toInt ∧ (fa0_15 k).toInt ≤ 8) ∧ (∀ k : Nat, 36 ≤ k → k ≤ 47 → (0 : Int) ≤ (fa0_15 k).toInt ∧ (fa0_15 k).toInt ≤ 999))) (bfa0_24 : (∀ k, (0 : Int) ≤ (fa0_24 k).toInt ∧ (fa0_24 k).toInt ≤ 80)) (bfa0_23 : (∀ k, (0 : Int) ≤ (fa0_23 k).toInt ∧ (fa0_23 k).toInt ≤ 80)) : zm l yX8_isWatched wsX8_isWatched ({ frames := 1, cells := 0, slots := 0, locals := 25 }) [.ref a0, .int a1, .int a2] dC dI sz [(a0, .inr (8, [a0g_0, a0g_1, a0g_2, a0g_3, a0g_4, a0g_5, a0g_6, a0g_7, a0g_8, a0g_9, a0g_10, a0g_11, a0g_12, a0g_13, a0g_14, Value.ref a0_15, a0g_16, a0g_17, a0g_18, a0g_19, a0g_20, a0g_21, a0g_22, Value.ref a0_23, Value.ref a0_24, Value.int a0_25, a0g_26, a0g_27, a0g_28, a0g_29, a0g_30, a0g_31, a0g_32, a0g_33, a0g_34, a0g_35, a0g_36, a0g_37, a0g_38, a0g_39])), (a0_15, .inl (ka0_15, 156, .inl (fa0_15))), (a0_24, .inl (ka0_24, 3, .inl (fa0_24))), (a0_23, .inl (ka0_23, 3, .inl (fa0_23)))] [(ka0_15, .int), (ka0_24, .int), (ka0_23, .int)] (fun A _ => True) (fun A => va_Qi (fun (r : Int32) (_ : Unit) => ((r = 1) ∨ (r = 0)) ∧ r.toInt = Ff_X8_isWatched a1.toInt a2.toInt a0_25.toInt (fl_A fa0_15) (fl_A fa0_24) (fl_A fa0_23)) (fun (_ : Unit) (t : State) => ax_B dC dI A [(a0, .inr (8, [a0g_0, a0g_1, a0g_2, a0g_3, a0g_4, a0g_5, a0g_6, a0g_7, a0g_8, a0g_9, a0g_10, a0g_11, a0g_12, a0g_13, a0g_14, Value.ref a0_15, a0g_16, a0g_17, a0g_18, a0g_19, a0g_20, a0g_21, a0g_22, Value.ref a0_23, Value.ref a0_24, Value.int a0_25, a0g_26, a0g_27, a0g_28, a0g_29, a0g_30, a0g_31, a0g_32, a0g_33, a0g_34, a0g_35, a0g_36, a0g_37, a0g_38, a0g_39])), (a0_15, .inl (ka0_15, 156, .inl (fa0_15))), (a0_24, .inl (ka0_24, 3, .inl (fa0_24))), (a0_23, .inl (ka0_23, 3, .inl (fa0_23)))] [(ka0_15, .int), (ka0_24, .int), (ka0_23, .int)] t) A) := by
  refine zh (cc := cX8_isWatched) (maxL := 4) (ret := (some .boolean)) zn_RX8 rfl (Nat.le_of_ble_eq_true rfl) (fun p e s m below meth c A ls hx hb hml hr hts (hown : s.vm.findClass RX8 = some m.cls) hlocks hA hS hP hK hD hE (hl : lv_has ls 4 [(0, .ref a0), (1, .int a1), (2, .int a2)]) => ?_)
  generalize hFX : Ff_X8_isWatched a1.toInt a2.toInt a0_25.toInt (fl_A fa0_15) (fl_A fa0_24) (fl_A fa0_23) = FX at ⊢
  have hF0 := hFX.symm.trans (Ff_X8_isWatched.eq_1 a1.toInt a2.toInt a0_25.toInt (fl_A fa0_15) (fl_A fa0_24) (fl_A fa0_23))
  refine ai_open (fun K hK0 => ?_)
  refine (hK0 _ _ _).mpr ?_
  refine lv_aload_n hx hb dX8_isWatched_0 rfl (lv_at hl 0 rfl) ?_
  refine va_get (D := (dC, dI)) (ci := 8) (v := .int a0_25) (C := RX8) (T := TX8) (N := 40) hx hb hts zi_X8_isWatched_8 hown hK hP 0 rfl rfl 25 (by decide) (hts (.fieldLink RX8 235 "WaxTurnsModel" "stood" "I") (List.mem_cons_of_mem _ (List.mem_append_left _ (List.mem_of_getElem? (i := 0) rfl)))) (fun _ h9 => h9) rfl dX8_isWatched_1 ?_
  refine lv_iload_n hx hb dX8_isWatched_4 rfl (lv_at hl 1 rfl) ?_
  refine va_calli (va_runS (As := [.int a0_25, .int a1]) (rest := []) ⟨hx, hb, hml, hown, hts⟩ (f_X8_hasBit l dC dI s.heap.size a0_25 a1 ) (va_cwS 2 hts gX8_isWatched_X8_hasBit rfl rfl rfl zd_X8_hasBit.2 ⟨Nat.le_of_ble_eq_true rfl, Nat.le_of_ble_eq_true rfl⟩) ⟨ax_blind (fun _ _ _ _ _ => trivial), ax_pre (zp_P0 hP) (zp_K hK) (zp_D0 hD) (fun _ _ => trivial)⟩ rfl rfl hl.1 rfl (lv_room (Nat.le_of_ble_eq_true rfl)) dX8_isWatched_5 ⟨Nat.le_of_ble_eq_true rfl, Nat.le_of_ble_eq_true rfl⟩) hS (fun q _ h => zp_F0 hD hS hA q h) (zp_F0 hD hS hA) (fun r5 u t H locs ht hvm hw hB hz1 hk1 hS1 => zo0 hB ht hP hD hk1 (zp_F0 hD hS hA) hS1 (fun hP hK1 hD hS => ?_))
  obtain ⟨hw, hfr5⟩ := hw
  have hc5 : Ff_X8_hasBit a0_25.toInt a1.toInt = r5.toInt := hfr5.symm
  have hF0 := hF0.trans (fl_lt_eq hc5.symm)
  rcases hw with hw | hw
  · subst hw
    have hF0 := hF0.trans (if_pos (by decide))
    refine lv_if_eq (tgt := 13) hx hb dX8_isWatched_8 (by decide) (fun c8 => absurd c8 (by decide +kernel)) (fun _ => ?_)
    refine lv_iconst (v := 1) hx hb dX8_isWatched_11 zk_iconst_1 ?_
    have hFe : FX = 1 := hF0
    exact W.zret (v := 1) hx hb hr rfl (fun t ht hW => ⟨⟨1, (), rfl, ⟨(Or.inl (rfl)), hFe.symm⟩, by rw [ht]; exact hP, va_K.moved hW.alike hK, hD⟩, hS.F ht⟩) hS.2.2 dX8_isWatched_12
  · subst hw
    have hF0 := hF0.trans (if_neg (by decide))
    refine lv_if_eq (tgt := 13) hx hb dX8_isWatched_8 (by decide) (fun _ => ?_) (fun c8 => absurd (by decide +kernel) c8)
    refine lv_iconst (v := 0) hx hb dX8_isWatched_13 zk_iconst_0 ?_
    refine lv_istore_n (lv' := [(3, .int 0), (0, .ref a0), (1, .int a1), (2, .int a2)]) hx hb dX8_isWatched_14 rfl hl (by decide) rfl (fun ls hl => ?_)
    have J15 : ∀ (n : Nat) (j15l3 : Int32) (H : Heap) (locs : List Loc) (ls : Array Slot), (4 : Int) - j15l3.toInt ≤ (n : Int) → (0 : Int) ≤ j15l3.toInt → j15l3.toInt ≤ (3 : Int) → (FX = fl_wh (Sf_X8_isWatched_15_1 a1.toInt a2.toInt (fl_A fa0_15) (fl_A fa0_24) (fl_A fa0_23)) 0 n j15l3.toInt) → va_P (dC, dI) vwCl [(a0, .inr (8, [a0g_0, a0g_1, a0g_2, a0g_3, a0g_4, a0g_5, a0g_6, a0g_7, a0g_8, a0g_9, a0g_10, a0g_11, a0g_12, a0g_13, a0g_14, Value.ref a0_15, a0g_16, a0g_17, a0g_18, a0g_19, a0g_20, a0g_21, a0g_22, Value.ref a0_23, Value.ref a0_24, Value.int a0_25, a0g_26, a0g_27, a0g_28, a0g_29, a0g_30, a0g_31, a0g_32, a0g_33, a0g_34, a0g_35, a0g_36, a0g_37, a0g_38, a0g_39])), (a0_15, .inl (ka0_15, 156, .inl (fa0_15))), (a0_24, .inl (ka0_24, 3, .inl (fa0_24))), (a0_23, .inl (ka0_23, 3, .inl (fa0_23)))] H → va_D A [(a0, .inr (8, [a0g_0, a0g_1, a0g_2, a0g_3, a0g_4, a0g_5, a0g_6, a0g_7, a0g_8, a0g_9, a0g_10, a0g_11, a0g_12, a0g_13, a0g_14, Value.ref a0_15, a0g_16, a0g_17, a0g_18, a0g_19, a0g_20, a0g_21, a0g_22, Value.ref a0_23, Value.ref a0_24, Value.int a0_25, a0g_26, a0g_27, a0g_28, a0g_29, a0g_30, a0g_31, a0g_32, a0g_33, a0g_34, a0g_35, a0g_36, a0g_37, a0g_38, a0g_39])), (a0_15, .inl (ka0_15, 156, .inl (fa0_15))), (a0_24, .inl (ka0_24, 3, .inl (fa0_24))), (a0_23, .inl (ka0_23, 3, .inl (fa0_23)))] → va_S A s.heap H locs → lv_has ls 4 [(0, .ref a0), (1, .int a1), (2, .int a2), (3, .int j15l3)] → K H locs (F0 m 15 ls []) := by
      intro n
      induction n with
      | zero =>
        intro j15l3 H locs ls hm bj15l3_l bj15l3_u hF0 hP hD hS hl
        first | exact zg_0 hm bj15l3_u (by decide) | (have h8 := ai_min j15l3; have h9 := ai_max j15l3; exact absurd hm (by omega))
      | succ n ih15 =>
        intro j15l3 H locs ls hm bj15l3_l bj15l3_u hF0 hP hD hS hl
        refine (hK0 _ _ _).mpr ?_
        have hm15 := hm
        obtain ⟨SX15, hSX15⟩ : ∃ q9, Sf_X8_isWatched_15_1 a1.toInt a2.toInt (fl_A fa0_15) (fl_A fa0_24) (fl_A fa0_23) j15l3.toInt = q9 := ⟨_, rfl⟩
        have hF1 := hSX15.symm.trans (Sf_X8_isWatched_15_1.eq_1 a1.toInt a2.toInt (fl_A fa0_15) (fl_A fa0_24) (fl_A fa0_23) j15l3.toInt)
        refine lv_iload_n hx hb dX8_isWatched_15 rfl (lv_at hl 3 rfl) ?_
        refine lv_aload_n hx hb dX8_isWatched_16 rfl (lv_at hl 0 rfl) ?_
        refine va_get (D := (dC, dI)) (ci := 8) (v := .ref a0_15) (C := RX8) (T := TX8) (N := 40) hx hb hts zi_X8_isWatched_8 hown hK hP 0 rfl rfl 15 (by decide) (hts (.fieldLink RX8 20 "WaxTurnsModel" "\x72" "[I") (List.mem_cons_of_mem _ (List.mem_append_left _ (List.mem_of_getElem? (i := 1) rfl)))) (fun _ h9 => h9) rfl dX8_isWatched_17 ?_
        refine lv_iconst (v := 5) hx hb dX8_isWatched_20 zk_iconst_5 ?_
        refine va_iald hx hb hK hP 1 0 rfl rfl (by unfold vp_in; decide +kernel) dX8_isWatched_21 ?_
        refine lv_topi (fun x21 ex21 => ?_)
        have bx21 : (0 : Int) ≤ x21.toInt ∧ x21.toInt ≤ 3 := by rw [ex21]; exact ai_rd bfa0_15.2.2.2.2.2.1 zq112 zq113 (by decide) (by decide) (by decide)
        have fqx21 := congrArg Int32.toInt ex21
        have hF1 := hF1.trans (fl_lt_eq (show x21.toInt = (fl_A fa0_15) (5) from fqx21))
        refine lv_icmp_ge (tgt := 43) hx hb dX8_isWatched_22 (by decide) (fun c22 => ?_) (fun c22 => ?_)
        · have gc22 := ai_le c22
          have u22t_x21 : x21.toInt ≤ (3 : Int) := bx21.2
          have l22t_j15l3 : (0 : Int) ≤ j15l3.toInt := bj15l3_l
          have hF1 := hF1.trans (if_pos (show x21.toInt ≤ j15l3.toInt from gc22))
          have hF0 := hF0.trans (fl_wh_r (hSX15.trans hF1))
          refine lv_iconst (v := 0) hx hb dX8_isWatched_43 zk_iconst_0 ?_
          have hFe : FX = 0 := hF0
          exact W.zret (v := 0) hx hb hr rfl (fun t ht hW => ⟨⟨0, (), rfl, ⟨(Or.inr (rfl)), hFe.symm⟩, by rw [ht]; exact hP, va_K.moved hW.alike hK, hD⟩, hS.F ht⟩) hS.2.2 dX8_isWatched_44
        · have gc22 := ai_nle c22
          have u22f_j15l3 : j15l3.toInt ≤ (2 : Int) := ai_lthi gc22 bx21.2
          have l22f_x21 : (1 : Int) ≤ x21.toInt := ai_ltlo gc22 bj15l3_l
          have hF1 := hF1.trans (if_neg (show ¬ (x21.toInt ≤ j15l3.toInt) from Int.not_le.mpr gc22))
          refine lv_aload_n hx hb dX8_isWatched_25 rfl (lv_at hl 0 rfl) ?_
          refine lv_iload_n hx hb dX8_isWatched_26 rfl (lv_at hl 3 rfl) ?_
          refine lv_iload_n hx hb dX8_isWatched_27 rfl (lv_at hl 2 rfl) ?_
          refine zc_cutc (wc := [(a0, .inr (8, [a0g_0, a0g_1, a0g_2, a0g_3, a0g_4, a0g_5, a0g_6, a0g_7, a0g_8, a0g_9, a0g_10, a0g_11, a0g_12, a0g_13, a0g_14, Value.ref a0_15, a0g_16, a0g_17, a0g_18, a0g_19, a0g_20, a0g_21, a0g_22, Value.ref a0_23, Value.ref a0_24, Value.int a0_25, a0g_26, a0g_27, a0g_28, a0g_29, a0g_30, a0g_31, a0g_32, a0g_33, a0g_34, a0g_35, a0g_36, a0g_37, a0g_38, a0g_39])), (a0_24, .inl (ka0_24, 3, .inl (fa0_24))), (a0_23, .inl (ka0_23, 3, .inl (fa0_23)))]) hP hD hS hA [0, 2, 3] (by decide +kernel) rfl (fun hPc hDc hFc hCc => ?_)
          have hKc := hK.sub (tys' := [(ka0_24, .int), (ka0_23, .int)]) [1, 2] rfl
          refine va_calli (va_runV (As := [.int j15l3, .int a2]) (rest := []) ⟨hx, hb, hml, hown, hts⟩ (f_X8_watcherAt l dC dI H.size a0 j15l3 a2 a0g_0 a0g_1 a0g_2 a0g_3 a0g_4 a0g_5 a0g_6 a0g_7 a0g_8 a0g_9 a0g_10 a0g_11 a0g_12 a0g_13 a0g_14 (Value.ref a0_15) a0g_16 a0g_17 a0g_18 a0g_19 a0g_20 a0g_21 a0g_22 (Value.int a0_25) a0g_26 a0g_27 a0g_28 a0g_29 a0g_30 a0g_31 a0g_32 a0g_33 a0g_34 a0g_35 a0g_36 a0g_37 a0g_38 a0g_39 a0_23 a0_24 ka0_24 fa0_24 ka0_23 fa0_23 bj15l3_l u22f_j15l3 bfa0_24 bfa0_23) (cwV 2 hts gX8_isWatched_X8_watcherAt rfl rfl rfl zd_X8_watcherAt ⟨Nat.le_of_ble_eq_true rfl, Nat.le_of_ble_eq_true rfl⟩) ⟨ax_blind (fun _ _ _ _ _ => trivial), zr_8 hKc hPc (q0 := 0) rfl, ax_pre hPc hKc hDc (fun _ _ => trivial)⟩ rfl rfl hl.1 rfl (lv_room (Nat.le_of_ble_eq_true rfl)) dX8_isWatched_28 ⟨Nat.le_of_ble_eq_true rfl, Nat.le_of_ble_eq_true rfl⟩) hS (fun q _ h => hFc q h) hFc (fun r28 u t H locs ht hvm hw hB hz1 hk1 hS1 => zo hB ht hS1 (fun hP1 hK1 hD1 hS => ?_))
          refine zc_backc (w := [(a0, .inr (8, [a0g_0, a0g_1, a0g_2, a0g_3, a0g_4, a0g_5, a0g_6, a0g_7, a0g_8, a0g_9, a0g_10, a0g_11, a0g_12, a0g_13, a0g_14, Value.ref a0_15, a0g_16, a0g_17, a0g_18, a0g_19, a0g_20, a0g_21, a0g_22, Value.ref a0_23, Value.ref a0_24, Value.int a0_25, a0g_26, a0g_27, a0g_28, a0g_29, a0g_30, a0g_31, a0g_32, a0g_33, a0g_34, a0g_35, a0g_36, a0g_37, a0g_38, a0g_39])), (a0_15, .inl (ka0_15, 156, .inl (fa0_15))), (a0_24, .inl (ka0_24, 3, .inl (fa0_24))), (a0_23, .inl (ka0_23, 3, .inl (fa0_23)))]) hP hD hCc hk1 hFc hP1 hD1 [.inr 0, .inl 1, .inr 1, .inr 2] (by decide +kernel) rfl (fun hP hD => ?_)
          obtain ⟨hw, hfr28⟩ := hw
          have hc28 : Ff_X8_watcherAt j15l3.toInt a2.toInt (fl_A fa0_24) (fl_A fa0_23) = r28.toInt := hfr28.symm
          have hF1 := hF1.trans (fl_lt_eq hc28.symm)
          refine lv_iload_n hx hb dX8_isWatched_31 rfl (lv_at hl 1 rfl) ?_
          refine lv_icmp_ne (tgt := 37) hx hb dX8_isWatched_32 (by decide) (fun c32 => ?_) (fun c32 => ?_)
          · have gc32 := ai_ne c32
            have hF1 := hF1.trans (if_neg (show ¬ (r28.toInt = a1.toInt) from  gc32))
            obtain ⟨x37, ex37⟩ : ∃ y : Int32, y = j15l3 + Int32.ofInt 1 := ⟨_, rfl⟩
            have qx37 : x37.toInt = j15l3.toInt + 1 := ai_inc ex37 (by decide) (by decide) u22f_j15l3 (by decide)
            have bx37 : (1 : Int) ≤ x37.toInt ∧ x37.toInt ≤ 3 := ⟨by rw [qx37]; exact Int.add_le_add bj15l3_l (Int.le_refl _), by rw [qx37]; exact Int.add_le_add u22f_j15l3 (Int.le_refl _)⟩
            refine lv_iinc (v := x37) (lv' := [(3, .int x37), (0, .ref a0), (1, .int a1), (2, .int a2)]) hx hb dX8_isWatched_37 hl (k := 3) rfl ex37.symm (by decide) rfl (fun ls hl => ?_)
            have hF1 := hF1.trans (fl_lt_eq (show x37.toInt = j15l3.toInt + 1 from qx37))
            refine lv_goto (tgt := 15) hx hb dX8_isWatched_40 (by decide) ?_
            exact (hK0 _ _ _).mp (ih15 x37 _ _ _ (by first | exact zg_s hm15 qx37 | (have h0 := qx37; omega)) (Int.le_trans zq4 bx37.1) bx37.2 (hF0.trans (fl_wh_l (hSX15.trans hF1))) hP hD hS (lv_sub hl [1, 2, 3, 0] rfl))
          · have gc32 := ai_eq c32
            have hF1 := hF1.trans (if_pos (show r28.toInt = a1.toInt from gc32))
            have hF0 := hF0.trans (fl_wh_r (hSX15.trans hF1))
            refine lv_iconst (v := 1) hx hb dX8_isWatched_35 zk_iconst_1 ?_
            have hFe : FX = 1 := hF0
            exact W.zret (v := 1) hx hb hr rfl (fun t ht hW => ⟨⟨1, (), rfl, ⟨(Or.inl (rfl)), hFe.symm⟩, by rw [ht]; exact hP, va_K.moved hW.alike hK, hD⟩, hS.F ht⟩) hS.2.2 dX8_isWatched_36
    exact (hK0 _ _ _).mp (J15 4 0 _ _ _ (by first | decide +kernel | (have h1 : (0 : Int) ≤ (0 : Int32).toInt := zq5; have h2 : (0 : Int32).toInt ≤ (0 : Int) := zq6; omega)) zq5 (Int.le_trans zq6 zq11) (by rw [show (0 : Int32).toInt = 0 from by decide]; exact hF0) hP hD hS (lv_sub hl [1, 2, 3, 0] rfl))

set_option maxHeartbeats 4000000 in
set_option maxRecDepth 100000 in
theorem f_X8_nextOf (l : Launch) (dC : Nat → ClassId) (dI : Nat → Nat → Nat) (sz : Nat) (a0 : Nat) (a1 : Int32) (a0g_0 a0g_1 a0g_2 a0g_3 a0g_4 a0g_5 a0g_6 a0g_7 a0g_8 a0g_9 a0g_10 a0g_11 a0g_12 a0g_13 a0g_14 a0g_16 a0g_17 a0g_18 a0g_19 a0g_20 a0g_21 a0g_22 a0g_23 a0g_24 a0g_25 a0g_26 a0g_27 a0g_28 a0g_29 a0g_30 a0g_31 a0g_32 a0g_33 a0g_34 a0g_35 a0g_36 a0g_37 a0g_38 a0g_39 : Value) (a0_15 : Nat) (ka0_15 : ClassId) (fa0_15 : Nat → Int32) (ba1_l : (0 : Int) ≤ a1.toInt) (ba1_u : a1.toInt ≤ (8 : Int)) (bfa0_15 : ((∀ k : Nat, 0 ≤ k → k ≤ 0 → (2 : Int) ≤ (fa0_15 k).toInt ∧ (fa0_15 k).toInt ≤ 9) ∧ (∀ k : Nat, 1 ≤ k → k ≤ 1 → (1 : Int) ≤ (fa0_15 k).toInt ∧ (fa0_15 k).toInt ≤ 20) ∧ (∀ k : Nat, 2 ≤ k → k ≤ 2 → (0 : Int) ≤ (fa0_15 k).toInt ∧ (fa0_15 k).toInt ≤ 8) ∧ (∀ k : Nat, 3 ≤ k → k ≤ 3 → (0 : Int) ≤ (fa0_15 k).toInt ∧ (fa0_15 k).toInt ≤ 100) ∧ (∀ k : Nat, 4 ≤ k → k ≤ 4 → (0 : Int) ≤ (fa0_15 k).toInt ∧ (fa0_15 k).toInt ≤ 9) ∧ (∀ k : Nat, 5 ≤ k → k ≤ 5 → (0 : Int) ≤ (fa0_15 k).toInt ∧ (fa0_15 k).toInt ≤ 3) ∧ (∀ k : Nat, 6 ≤ k → k ≤ 6 → (0 : Int) ≤ (fa0_15 k).toInt ∧ (fa0_15 k).toInt ≤ 6) ∧ (∀ k : Nat, 7 ≤ k → k ≤ 9 → (0 : Int) ≤ (fa0_15 k).toInt ∧ (fa0_15 k).toInt ≤ 8) ∧ (∀ k : Nat, 12 ≤ k → k ≤ 29 → (0 : Int) ≤ (fa0_15 k).toInt ∧ (fa0_15 k).toInt ≤ 20) ∧ (∀ k : Nat, 30 ≤ k → k ≤ 35 → (0 : Int) ≤ (fa0_15 k).toInt ∧ (fa0_15 k).toInt ≤ 8) ∧ (∀ k : Nat, 36 ≤ k → k ≤ 47 → (0 : Int) ≤ (fa0_15 k).toInt ∧ (fa0_15 k).toInt ≤ 999))) : zm l yX8_nextOf wsX8_nextOf ({ frames := 0, cells := 0, slots := 0, locals := 0 }) [.ref a0, .int a1] dC dI sz [(a0, .inr (8, [a0g_0, a0g_1, a0g_2, a0g_3, a0g_4, a0g_5, a0g_6, a0g_7, a0g_8, a0g_9, a0g_10, a0g_11, a0g_12, a0g_13, a0g_14, Value.ref a0_15, a0g_16, a0g_17, a0g_18, a0g_19, a0g_20, a0g_21, a0g_22, a0g_23, a0g_24, a0g_25, a0g_26, a0g_27, a0g_28, a0g_29, a0g_30, a0g_31, a0g_32, a0g_33, a0g_34, a0g_35, a0g_36, a0g_37, a0g_38, a0g_39])), (a0_15, .inl (ka0_15, 156, .inl (fa0_15)))] [(ka0_15, .int)] (fun A _ => True) (fun A => va_Qi (fun (r : Int32) (_ : Unit) => ((0 : Int) ≤ r.toInt ∧ r.toInt ≤ (8 : Int)) ∧ r.toInt = Ff_X8_nextOf a1.toInt (fl_A fa0_15)) (fun (_ : Unit) (t : State) => ax_B dC dI A [(a0, .inr (8, [a0g_0, a0g_1, a0g_2, a0g_3, a0g_4, a0g_5, a0g_6, a0g_7, a0g_8, a0g_9, a0g_10, a0g_11, a0g_12, a0g_13, a0g_14, Value.ref a0_15, a0g_16, a0g_17, a0g_18, a0g_19, a0g_20, a0g_21, a0g_22, a0g_23, a0g_24, a0g_25, a0g_26, a0g_27, a0g_28, a0g_29, a0g_30, a0g_31, a0g_32, a0g_33, a0g_34, a0g_35, a0g_36, a0g_37, a0g_38, a0g_39])), (a0_15, .inl (ka0_15, 156, .inl (fa0_15)))] [(ka0_15, .int)] t) A) := by
  refine zh (cc := cX8_nextOf) (maxL := 2) (ret := (some .int)) zn_RX8 rfl (Nat.le_of_ble_eq_true rfl) (fun p e s m below meth c A ls hx hb hml hr hts (hown : s.vm.findClass RX8 = some m.cls) hlocks hA hS hP hK hD hE (hl : lv_has ls 2 [(0, .ref a0), (1, .int a1)]) => ?_)
  generalize hFX : Ff_X8_nextOf a1.toInt (fl_A fa0_15) = FX at ⊢
  have hF0 := hFX.symm.trans (Ff_X8_nextOf.eq_1 a1.toInt (fl_A fa0_15))
  refine lv_aload_n hx hb dX8_nextOf_0 rfl (lv_at hl 0 rfl) ?_
  refine va_get (D := (dC, dI)) (ci := 8) (v := .ref a0_15) (C := RX8) (T := TX8) (N := 40) hx hb hts zi_X8_nextOf_8 hown hK hP 0 rfl rfl 15 (by decide) (hts (.fieldLink RX8 20 "WaxTurnsModel" "\x72" "[I") (List.mem_cons_of_mem _ (List.mem_append_left _ (List.mem_of_getElem? (i := 0) rfl)))) (fun _ h9 => h9) rfl dX8_nextOf_1 ?_
  refine lv_bipush (v := 7) hx hb dX8_nextOf_4 zk_bipush_7 ?_
  refine va_iald hx hb hK hP 1 0 rfl rfl (by unfold vp_in; decide +kernel) dX8_nextOf_6 ?_
  refine lv_topi (fun x6 ex6 => ?_)
  have bx6 : (0 : Int) ≤ x6.toInt ∧ x6.toInt ≤ 8 := by rw [ex6]; exact ai_rd bfa0_15.2.2.2.2.2.2.2.1 zq114 zq115 (by decide) (by decide) (by decide)
  have fqx6 := congrArg Int32.toInt ex6
  have hF0 := hF0.trans (fl_lt_eq (show x6.toInt = (fl_A fa0_15) (7) from fqx6))
  refine lv_iload_n hx hb dX8_nextOf_7 rfl (lv_at hl 1 rfl) ?_
  refine lv_imul hx hb dX8_nextOf_8 ?_
  refine lv_topi (fun x8 ex8 => ?_)
  have qx8 : x8.toInt = x6.toInt * a1.toInt ∧ (0 : Int) ≤ x8.toInt ∧ x8.toInt ≤ 64 := ai_mul ex8 ⟨bx6.1, bx6.2⟩ ⟨ba1_l, ba1_u⟩ (by decide) (by decide) zq18
  have hF0 := hF0.trans (fl_lt_eq (show x8.toInt = x6.toInt * a1.toInt from qx8.1))
  refine lv_aload_n hx hb dX8_nextOf_9 rfl (lv_at hl 0 rfl) ?_
  refine va_get (D := (dC, dI)) (ci := 8) (v := .ref a0_15) (C := RX8) (T := TX8) (N := 40) hx hb hts zi_X8_nextOf_8 hown hK hP 0 rfl rfl 15 (by decide) (hts (.fieldLink RX8 20 "WaxTurnsModel" "\x72" "[I") (List.mem_cons_of_mem _ (List.mem_append_left _ (List.mem_of_getElem? (i := 0) rfl)))) (fun _ h9 => h9) rfl dX8_nextOf_10 ?_
  refine lv_bipush (v := 8) hx hb dX8_nextOf_13 zk_bipush_8 ?_
  refine va_iald hx hb hK hP 1 0 rfl rfl (by unfold vp_in; decide +kernel) dX8_nextOf_15 ?_
  refine lv_topi (fun x15 ex15 => ?_)
  have bx15 : (0 : Int) ≤ x15.toInt ∧ x15.toInt ≤ 8 := by rw [ex15]; exact ai_rd bfa0_15.2.2.2.2.2.2.2.1 zq116 zq28 (by decide) (by decide) (by decide)
  have fqx15 := congrArg Int32.toInt ex15
  have hF0 := hF0.trans (fl_lt_eq (show x15.toInt = (fl_A fa0_15) (8) from fqx15))
  refine lv_iadd hx hb dX8_nextOf_16 ?_
  refine lv_topi (fun x16 ex16 => ?_)
  have qx16 : x16.toInt = x8.toInt + x15.toInt := ai_add ex16 ⟨qx8.2.1, qx8.2.2⟩ ⟨bx15.1, bx15.2⟩ (by decide) (by decide)
  have bx16 : (0 : Int) ≤ x16.toInt ∧ x16.toInt ≤ 72 := ⟨by rw [qx16]; exact Int.add_le_add qx8.2.1 bx15.1, by rw [qx16]; exact Int.add_le_add qx8.2.2 bx15.2⟩
  have hF0 := hF0.trans (fl_lt_eq (show x16.toInt = x8.toInt + x15.toInt from qx16))
  refine lv_aload_n hx hb dX8_nextOf_17 rfl (lv_at hl 0 rfl) ?_
  refine va_get (D := (dC, dI)) (ci := 8) (v := .ref a0_15) (C := RX8) (T := TX8) (N := 40) hx hb hts zi_X8_nextOf_8 hown hK hP 0 rfl rfl 15 (by decide) (hts (.fieldLink RX8 20 "WaxTurnsModel" "\x72" "[I") (List.mem_cons_of_mem _ (List.mem_append_left _ (List.mem_of_getElem? (i := 0) rfl)))) (fun _ h9 => h9) rfl dX8_nextOf_18 ?_
  refine lv_iconst (v := 0) hx hb dX8_nextOf_21 zk_iconst_0 ?_
  refine va_iald hx hb hK hP 1 0 rfl rfl (by unfold vp_in; decide +kernel) dX8_nextOf_22 ?_
  refine lv_topi (fun x22 ex22 => ?_)
  have bx22 : (2 : Int) ≤ x22.toInt ∧ x22.toInt ≤ 9 := by rw [ex22]; exact ai_rd bfa0_15.1 zq5 zq6 (by decide) (by decide) (by decide)
  have fqx22 := congrArg Int32.toInt ex22
  have hF0 := hF0.trans (fl_lt_eq (show x22.toInt = (fl_A fa0_15) (0) from fqx22))
  refine lv_irem hx hb dX8_nextOf_23 (ai_nz bx22.1 (by decide)) ?_
  refine lv_topi (fun x23 ex23 => ?_)
  have qx23 := ai_rem2 ex23 bx16.1 (Int.lt_of_lt_of_le zq100 bx22.1) bx22.2
  have hF0 := hF0.trans (fl_lt_eq (show x23.toInt = x16.toInt % x22.toInt from qx23.1))
  have hFe : FX = x23.toInt := hF0
  exact W.iret (v := x23) hx hb hr (fun t ht hW => ⟨⟨x23, (), rfl, ⟨⟨qx23.2.1, qx23.2.2⟩, hFe.symm⟩, by rw [ht]; exact hP, va_K.moved hW.alike hK, hD⟩, hS.F ht⟩) hS.2.2 dX8_nextOf_24

set_option maxHeartbeats 4000000 in
set_option maxRecDepth 100000 in
theorem f_X8_walkOn (l : Launch) (dC : Nat → ClassId) (dI : Nat → Nat → Nat) (sz : Nat) (a0 : Nat) (a1 : Nat) (a2 : Int32) (a0g_0 a0g_1 a0g_2 a0g_3 a0g_4 a0g_5 a0g_6 a0g_7 a0g_8 a0g_9 a0g_10 a0g_11 a0g_12 a0g_13 a0g_14 a0g_16 a0g_17 a0g_18 a0g_19 a0g_20 a0g_21 a0g_22 a0g_26 a0g_27 a0g_28 a0g_29 a0g_30 a0g_31 a0g_32 a0g_33 a0g_34 a0g_35 a0g_36 a0g_37 a0g_38 a0g_39 : Value) (a0_15 : Nat) (a0_23 : Nat) (a0_24 : Nat) (a0_25 : Int32) (ka1 : ClassId) (fa1 : Nat → Int32) (ka0_15 : ClassId) (fa0_15 : Nat → Int32) (ka0_24 : ClassId) (fa0_24 : Nat → Int32) (ka0_23 : ClassId) (fa0_23 : Nat → Int32) (ba2_l : (0 : Int) ≤ a2.toInt) (ba2_u : a2.toInt ≤ (8 : Int)) (bfa1 : ((∀ k : Nat, 0 ≤ k → k ≤ 8 → (0 : Int) ≤ (fa1 k).toInt ∧ (fa1 k).toInt ≤ 8) ∧ (∀ k : Nat, 19 ≤ k → k ≤ 19 → (0 : Int) ≤ (fa1 k).toInt ∧ (fa1 k).toInt ≤ 8) ∧ (∀ k : Nat, 20 ≤ k → k ≤ 20 → (0 : Int) ≤ (fa1 k).toInt ∧ (fa1 k).toInt ≤ 19))) (bfa0_15 : ((∀ k : Nat, 0 ≤ k → k ≤ 0 → (2 : Int) ≤ (fa0_15 k).toInt ∧ (fa0_15 k).toInt ≤ 9) ∧ (∀ k : Nat, 1 ≤ k → k ≤ 1 → (1 : Int) ≤ (fa0_15 k).toInt ∧ (fa0_15 k).toInt ≤ 20) ∧ (∀ k : Nat, 2 ≤ k → k ≤ 2 → (0 : Int) ≤ (fa0_15 k).toInt ∧ (fa0_15 k).toInt ≤ 8) ∧ (∀ k : Nat, 3 ≤ k → k ≤ 3 → (0 : Int) ≤ (fa0_15 k).toInt ∧ (fa0_15 k).toInt ≤ 100) ∧ (∀ k : Nat, 4 ≤ k → k ≤ 4 → (0 : Int) ≤ (fa0_15 k).toInt ∧ (fa0_15 k).toInt ≤ 9) ∧ (∀ k : Nat, 5 ≤ k → k ≤ 5 → (0 : Int) ≤ (fa0_15 k).toInt ∧ (fa0_15 k).toInt ≤ 3) ∧ (∀ k : Nat, 6 ≤ k → k ≤ 6 → (0 : Int) ≤ (fa0_15 k).toInt ∧ (fa0_15 k).toInt ≤ 6) ∧ (∀ k : Nat, 7 ≤ k → k ≤ 9 → (0 : Int) ≤ (fa0_15 k).toInt ∧ (fa0_15 k).toInt ≤ 8) ∧ (∀ k : Nat, 12 ≤ k → k ≤ 29 → (0 : Int) ≤ (fa0_15 k).toInt ∧ (fa0_15 k).toInt ≤ 20) ∧ (∀ k : Nat, 30 ≤ k → k ≤ 35 → (0 : Int) ≤ (fa0_15 k).toInt ∧ (fa0_15 k).toInt ≤ 8) ∧ (∀ k : Nat, 36 ≤ k → k ≤ 47 → (0 : Int) ≤ (fa0_15 k).toInt ∧ (fa0_15 k).toInt ≤ 999))) (bfa0_24 : (∀ k, (0 : Int) ≤ (fa0_24 k).toInt ∧ (fa0_24 k).toInt ≤ 80)) (bfa0_23 : (∀ k, (0 : Int) ≤ (fa0_23 k).toInt ∧ (fa0_23 k).toInt ≤ 80)) (hkm : ∀ i : Int32, i.toInt = 13 + 2 * a2.toInt → (1 : Int) ≤ (fa0_15 i.toNatClampNeg).toInt) : zm l yX8_walkOn wsX8_walkOn ({ frames := 2, cells := 0, slots := 0, locals := 48 }) [.ref a0, .ref a1, .int a2] dC dI sz [(a0, .inr (8, [a0g_0, a0g_1, a0g_2, a0g_3, a0g_4, a0g_5, a0g_6, a0g_7, a0g_8, a0g_9, a0g_10, a0g_11, a0g_12, a0g_13, a0g_14, Value.ref a0_15, a0g_16, a0g_17, a0g_18, a0g_19, a0g_20, a0g_21, a0g_22, Value.ref a0_23, Value.ref a0_24, Value.int a0_25, a0g_26, a0g_27, a0g_28, a0g_29, a0g_30, a0g_31, a0g_32, a0g_33, a0g_34, a0g_35, a0g_36, a0g_37, a0g_38, a0g_39])), (a1, .inl (ka1, 23, .inl (fa1))), (a0_15, .inl (ka0_15, 156, .inl (fa0_15))), (a0_24, .inl (ka0_24, 3, .inl (fa0_24))), (a0_23, .inl (ka0_23, 3, .inl (fa0_23)))] [(ka1, .int), (ka0_15, .int), (ka0_24, .int), (ka0_23, .int)] (fun A _ => True) (fun A => va_Qv (fun (_ : Unit) => True) (fun (_ : Unit) (t : State) => ∃ nfa1 : Nat → Int32, ((∀ k : Nat, 0 ≤ k → k ≤ 8 → (0 : Int) ≤ (nfa1 k).toInt ∧ (nfa1 k).toInt ≤ 8) ∧ (∀ k : Nat, 19 ≤ k → k ≤ 19 → (0 : Int) ≤ (nfa1 k).toInt ∧ (nfa1 k).toInt ≤ 8) ∧ (∀ k : Nat, 20 ≤ k → k ≤ 20 → (0 : Int) ≤ (nfa1 k).toInt ∧ (nfa1 k).toInt ≤ 19)) ∧ (Ff_X8_walkOn a2.toInt a0_25.toInt (fl_A fa1) (fl_A fa0_15) (fl_A fa0_24) (fl_A fa0_23) = (fl_A nfa1)) ∧ ax_B dC dI A [(a0, .inr (8, [a0g_0, a0g_1, a0g_2, a0g_3, a0g_4, a0g_5, a0g_6, a0g_7, a0g_8, a0g_9, a0g_10, a0g_11, a0g_12, a0g_13, a0g_14, Value.ref a0_15, a0g_16, a0g_17, a0g_18, a0g_19, a0g_20, a0g_21, a0g_22, Value.ref a0_23, Value.ref a0_24, Value.int a0_25, a0g_26, a0g_27, a0g_28, a0g_29, a0g_30, a0g_31, a0g_32, a0g_33, a0g_34, a0g_35, a0g_36, a0g_37, a0g_38, a0g_39])), (a1, .inl (ka1, 23, .inl (nfa1))), (a0_15, .inl (ka0_15, 156, .inl (fa0_15))), (a0_24, .inl (ka0_24, 3, .inl (fa0_24))), (a0_23, .inl (ka0_23, 3, .inl (fa0_23)))] [(ka1, .int), (ka0_15, .int), (ka0_24, .int), (ka0_23, .int)] t) A) := by
  refine zh (cc := cX8_walkOn) (maxL := 3) (ret := none) zn_RX8 rfl (Nat.le_of_ble_eq_true rfl) (fun p e s m below meth c A ls hx hb hml hr hts (hown : s.vm.findClass RX8 = some m.cls) hlocks hA hS hP hK hD hE (hl : lv_has ls 3 [(0, .ref a0), (1, .ref a1), (2, .int a2)]) => ?_)
  generalize hFX : Ff_X8_walkOn a2.toInt a0_25.toInt (fl_A fa1) (fl_A fa0_15) (fl_A fa0_24) (fl_A fa0_23) = FX at ⊢
  have hF0 := hFX.symm.trans (Ff_X8_walkOn.eq_1 a2.toInt a0_25.toInt (fl_A fa1) (fl_A fa0_15) (fl_A fa0_24) (fl_A fa0_23))
  refine lv_aload_n hx hb dX8_walkOn_0 rfl (lv_at hl 1 rfl) ?_
  refine lv_bipush (v := 20) hx hb dX8_walkOn_1 zk_bipush_20 ?_
  refine va_iald hx hb hK hP 1 0 rfl rfl (by unfold vp_in; decide +kernel) dX8_walkOn_3 ?_
  refine lv_topi (fun x3 ex3 => ?_)
  have bx3 : (0 : Int) ≤ x3.toInt ∧ x3.toInt ≤ 19 := by rw [ex3]; exact ai_rd bfa1.2.2 zq153 zq154 (by decide) (by decide) (by decide)
  have fqx3 := congrArg Int32.toInt ex3
  have hF0 := hF0.trans (fl_lt_eq (show x3.toInt = (fl_A fa1) (20) from fqx3))
  refine lv_iconst (v := 1) hx hb dX8_walkOn_4 zk_iconst_1 ?_
  refine lv_iadd hx hb dX8_walkOn_5 ?_
  refine lv_topi (fun x5 ex5 => ?_)
  have qx5 : x5.toInt = x3.toInt + (1 : Int32).toInt := ai_add ex5 ⟨bx3.1, bx3.2⟩ ⟨zq1, zq0⟩ (by decide) (by decide)
  have bx5 : (1 : Int) ≤ x5.toInt ∧ x5.toInt ≤ 20 := ⟨by rw [qx5]; exact Int.add_le_add bx3.1 zq1, by rw [qx5]; exact Int.add_le_add bx3.2 zq0⟩
  have wx5 : x5.toInt = x3.toInt + 1 := qx5
  have hF0 := hF0.trans (fl_lt_eq (show x5.toInt = x3.toInt + 1 from qx5))
  refine lv_aload_n hx hb dX8_walkOn_6 rfl (lv_at hl 0 rfl) ?_
  refine va_get (D := (dC, dI)) (ci := 8) (v := .ref a0_15) (C := RX8) (T := TX8) (N := 40) hx hb hts zi_X8_walkOn_8 hown hK hP 0 rfl rfl 15 (by decide) (hts (.fieldLink RX8 20 "WaxTurnsModel" "\x72" "[I") (List.mem_cons_of_mem _ (List.mem_append_left _ (List.mem_of_getElem? (i := 0) rfl)))) (fun _ h9 => h9) rfl dX8_walkOn_7 ?_
  refine lv_bipush (v := 12) hx hb dX8_walkOn_10 zk_bipush_12 ?_
  refine lv_iconst (v := 2) hx hb dX8_walkOn_12 zk_iconst_2 ?_
  refine lv_iload_n hx hb dX8_walkOn_13 rfl (lv_at hl 2 rfl) ?_
  refine lv_imul hx hb dX8_walkOn_14 ?_
  refine lv_topi (fun x14 ex14 => ?_)
  have qx14 : x14.toInt = (2 : Int32).toInt * a2.toInt ∧ (0 : Int) ≤ x14.toInt ∧ x14.toInt ≤ 16 := ai_mul ex14 ⟨zq12, zq13⟩ ⟨ba2_l, ba2_u⟩ (by decide) (by decide) zq155
  have wx14 : x14.toInt = 2 * a2.toInt := qx14.1
  have hF0 := hF0.trans (fl_lt_eq (show x14.toInt = 2 * a2.toInt from qx14.1))
  refine lv_iadd hx hb dX8_walkOn_15 ?_
  refine lv_topi (fun x15 ex15 => ?_)
  have qx15 : x15.toInt = (12 : Int32).toInt + x14.toInt := ai_add ex15 ⟨zq119, zq120⟩ ⟨qx14.2.1, qx14.2.2⟩ (by decide) (by decide)
  have bx15 : (12 : Int) ≤ x15.toInt ∧ x15.toInt ≤ 28 := ⟨by rw [qx15]; exact Int.add_le_add zq119 qx14.2.1, by rw [qx15]; exact Int.add_le_add zq120 qx14.2.2⟩
  have wx15 : x15.toInt = 12 + x14.toInt := qx15
  have hF0 := hF0.trans (fl_lt_eq (show x15.toInt = 12 + x14.toInt from qx15))
  refine lv_iconst (v := 1) hx hb dX8_walkOn_16 zk_iconst_1 ?_
  refine lv_iadd hx hb dX8_walkOn_17 ?_
  refine lv_topi (fun x17 ex17 => ?_)
  have qx17 : x17.toInt = x15.toInt + (1 : Int32).toInt := ai_add ex17 ⟨bx15.1, bx15.2⟩ ⟨zq1, zq0⟩ (by decide) (by decide)
  have bx17 : (13 : Int) ≤ x17.toInt ∧ x17.toInt ≤ 29 := ⟨by rw [qx17]; exact Int.add_le_add bx15.1 zq1, by rw [qx17]; exact Int.add_le_add bx15.2 zq0⟩
  have wx17 : x17.toInt = x15.toInt + 1 := qx17
  have hF0 := hF0.trans (fl_lt_eq (show x17.toInt = x15.toInt + 1 from qx17))
  refine va_iald hx hb hK hP 2 1 rfl rfl (ai_in bx17.1 bx17.2 (by decide) (by decide)) dX8_walkOn_18 ?_
  refine lv_topi (fun x18 ex18 => ?_)
  have bx18 : (0 : Int) ≤ x18.toInt ∧ x18.toInt ≤ 20 := by rw [ex18]; exact ai_rd bfa0_15.2.2.2.2.2.2.2.2.1 bx17.1 bx17.2 (by decide) (by decide) (by decide)
  have fqx18 := congrArg Int32.toInt ex18
  have hF0 := hF0.trans (fl_lt_eq (show x18.toInt = (fl_A fa0_15) (x17.toInt.toNat) from fqx18))
  have l18z_x18 : (1 : Int) ≤ x18.toInt := by rw [ex18]; exact hkm x17 (by omega)
  refine lv_irem hx hb dX8_walkOn_19 (ai_nz l18z_x18 (by decide)) ?_
  refine lv_topi (fun x19 ex19 => ?_)
  have qx19 := ai_rem2 ex19 (Int.le_trans zq4 bx5.1) (Int.lt_of_lt_of_le zq19 l18z_x18) bx18.2
  have hF0 := hF0.trans (fl_lt_eq (show x19.toInt = x5.toInt % x18.toInt from qx19.1))
  refine lv_if_eq (tgt := 24) hx hb dX8_walkOn_20 (by decide) (fun c20 => ?_) (fun c20 => ?_)
  · have gc20 := ai_eq c20
    have u20t_x19 : x19.toInt ≤ (0 : Int) := Int.le_trans (Int.le_of_eq gc20) zq6
    have l20t_x19 : (0 : Int) ≤ x19.toInt := qx19.2.1
    have hF0 := hF0.trans (if_pos (show x19.toInt = 0 from gc20))
    refine lv_aload_n hx hb dX8_walkOn_24 rfl (lv_at hl 1 rfl) ?_
    refine lv_iload_n hx hb dX8_walkOn_25 rfl (lv_at hl 2 rfl) ?_
    refine lv_dup2_11 hx hb dX8_walkOn_26 rfl rfl ?_
    refine va_iald hx hb hK hP 1 0 rfl rfl (ai_in ba2_l ba2_u (by decide) (by decide)) dX8_walkOn_27 ?_
    refine lv_topi (fun x27 ex27 => ?_)
    have bx27 : (0 : Int) ≤ x27.toInt ∧ x27.toInt ≤ 8 := by rw [ex27]; exact ai_rd bfa1.1 ba2_l ba2_u (by decide) (by decide) (by decide)
    have fqx27 := congrArg Int32.toInt ex27
    have hF0 := hF0.trans (fl_lt_eq (show x27.toInt = (fl_A fa1) (a2.toInt.toNat) from fqx27))
    refine lv_aload_n hx hb dX8_walkOn_28 rfl (lv_at hl 1 rfl) ?_
    refine lv_iload_n hx hb dX8_walkOn_29 rfl (lv_at hl 2 rfl) ?_
    refine va_iald hx hb hK hP 1 0 rfl rfl (ai_in ba2_l ba2_u (by decide) (by decide)) dX8_walkOn_30 ?_
    refine ax_ti x27 ex27.symm ?_
    refine lv_aload_n hx hb dX8_walkOn_31 rfl (lv_at hl 0 rfl) ?_
    refine va_get (D := (dC, dI)) (ci := 8) (v := .ref a0_15) (C := RX8) (T := TX8) (N := 40) hx hb hts zi_X8_walkOn_8 hown hK hP 0 rfl rfl 15 (by decide) (hts (.fieldLink RX8 20 "WaxTurnsModel" "\x72" "[I") (List.mem_cons_of_mem _ (List.mem_append_left _ (List.mem_of_getElem? (i := 0) rfl)))) (fun _ h9 => h9) rfl dX8_walkOn_32 ?_
    refine lv_iconst (v := 2) hx hb dX8_walkOn_35 zk_iconst_2 ?_
    refine va_iald hx hb hK hP 2 1 rfl rfl (by unfold vp_in; decide +kernel) dX8_walkOn_36 ?_
    refine lv_topi (fun x36 ex36 => ?_)
    have bx36 : (0 : Int) ≤ x36.toInt ∧ x36.toInt ≤ 8 := by rw [ex36]; exact ai_rd bfa0_15.2.2.1 zq12 zq13 (by decide) (by decide) (by decide)
    have fqx36 := congrArg Int32.toInt ex36
    have hF0 := hF0.trans (fl_lt_eq (show x36.toInt = (fl_A fa0_15) (2) from fqx36))
    refine lv_icmp_ge (tgt := 44) hx hb dX8_walkOn_37 (by decide) (fun c37 => ?_) (fun c37 => ?_)
    · have gc37 := ai_le c37
      have u37t_x36 : x36.toInt ≤ (8 : Int) := bx36.2
      have l37t_x27 : (0 : Int) ≤ x27.toInt := bx27.1
      have hF0 := hF0.trans (if_pos (show x36.toInt ≤ x27.toInt from gc37))
      refine lv_aload_n hx hb dX8_walkOn_44 rfl (lv_at hl 1 rfl) ?_
      refine lv_iload_n hx hb dX8_walkOn_45 rfl (lv_at hl 2 rfl) ?_
      refine va_iald hx hb hK hP 1 0 rfl rfl (ai_in ba2_l ba2_u (by decide) (by decide)) dX8_walkOn_46 ?_
      refine ax_ti x27 ex27.symm ?_
      refine lv_aload_n hx hb dX8_walkOn_47 rfl (lv_at hl 0 rfl) ?_
      refine va_get (D := (dC, dI)) (ci := 8) (v := .ref a0_15) (C := RX8) (T := TX8) (N := 40) hx hb hts zi_X8_walkOn_8 hown hK hP 0 rfl rfl 15 (by decide) (hts (.fieldLink RX8 20 "WaxTurnsModel" "\x72" "[I") (List.mem_cons_of_mem _ (List.mem_append_left _ (List.mem_of_getElem? (i := 0) rfl)))) (fun _ h9 => h9) rfl dX8_walkOn_48 ?_
      refine lv_iconst (v := 2) hx hb dX8_walkOn_51 zk_iconst_2 ?_
      refine va_iald hx hb hK hP 2 1 rfl rfl (by unfold vp_in; decide +kernel) dX8_walkOn_52 ?_
      refine ax_ti x36 ex36.symm ?_
      refine lv_icmp_le (tgt := 60) hx hb dX8_walkOn_53 (by decide) (fun c53 => ?_) (fun c53 => ?_)
      · have gc53 := ai_le c53
        have u53t_x27 : x27.toInt ≤ (8 : Int) := bx27.2
        have l53t_x36 : (0 : Int) ≤ x36.toInt := bx36.1
        have hF0 := hF0.trans (if_pos (show x27.toInt ≤ x36.toInt from gc53))
        refine lv_iconst (v := 0) hx hb dX8_walkOn_60 zk_iconst_0 ?_
        refine lv_iadd hx hb dX8_walkOn_61 ?_
        refine lv_topi (fun x61 ex61 => ?_)
        have qx61 : x61.toInt = x27.toInt + (0 : Int32).toInt := ai_add ex61 ⟨l37t_x27, u53t_x27⟩ ⟨zq5, zq6⟩ (by decide) (by decide)
        have bx61 : (0 : Int) ≤ x61.toInt ∧ x61.toInt ≤ 8 := ⟨by rw [qx61]; exact Int.add_le_add l37t_x27 zq5, by rw [qx61]; exact Int.add_le_add u53t_x27 zq6⟩
        have wx61 : x61.toInt = x27.toInt + 0 := qx61
        have hF0 := hF0.trans (fl_lt_eq (show x61.toInt = x27.toInt + 0 from qx61))
        refine va_iast hx hb hK hP hD hS 1 0 rfl rfl (ai_in ba2_l ba2_u (by decide) (by decide)) dX8_walkOn_62 (fun H locs hP hD hS => ?_)
        obtain ⟨f62, ef62⟩ : ∃ g9 : Nat → Int32, g9 = upd fa1 (a2 : Int32).toNatClampNeg x61 := ⟨_, rfl⟩
        refine zs_1 (y := (a1, .inl (ka1, 23, .inl (f62)))) hP hD (by rw [ef62]) (fun hP hD => ?_)
        have bf62 : ((∀ k : Nat, 0 ≤ k → k ≤ 8 → (0 : Int) ≤ (f62 k).toInt ∧ (f62 k).toInt ≤ 8) ∧ (∀ k : Nat, 19 ≤ k → k ≤ 19 → (0 : Int) ≤ (f62 k).toInt ∧ (f62 k).toInt ≤ 8) ∧ (∀ k : Nat, 20 ≤ k → k ≤ 20 → (0 : Int) ≤ (f62 k).toInt ∧ (f62 k).toInt ≤ 19)) := by rw [ef62]; exact ⟨ai_updS bfa1.1 _ ⟨bx61.1, bx61.2⟩, ai_updO bfa1.2.1 _ (Or.inl (ai_nlt_of ba2_l ba2_u (by decide) (by decide))), ai_updO bfa1.2.2 _ (Or.inl (ai_nlt_of ba2_l ba2_u (by decide) (by decide)))⟩
        have fqf62 := fl_up_eq ef62
        have hF0 := hF0.trans (fl_lt_eq (show (fl_A f62) = fl_up (fl_A fa1) (a2.toInt.toNat) x61.toInt from fqf62))
        refine lv_aload_n hx hb dX8_walkOn_63 rfl (lv_at hl 0 rfl) ?_
        refine lv_aload_n hx hb dX8_walkOn_64 rfl (lv_at hl 1 rfl) ?_
        refine lv_iload_n hx hb dX8_walkOn_65 rfl (lv_at hl 2 rfl) ?_
        refine va_iald hx hb hK hP 1 0 rfl rfl (ai_in ba2_l ba2_u (by decide) (by decide)) dX8_walkOn_66 ?_
        refine lv_topi (fun x66 ex66 => ?_)
        have bx66 : (0 : Int) ≤ x66.toInt ∧ x66.toInt ≤ 8 := by rw [ex66]; exact ai_rd bf62.1 ba2_l ba2_u (by decide) (by decide) (by decide)
        have fqx66 := congrArg Int32.toInt ex66
        have hF0 := hF0.trans (fl_lt_eq (show x66.toInt = (fl_A f62) (a2.toInt.toNat) from fqx66))
        refine lv_aload_n hx hb dX8_walkOn_67 rfl (lv_at hl 1 rfl) ?_
        refine lv_bipush (v := 21) hx hb dX8_walkOn_68 zk_bipush_21 ?_
        refine va_iald hx hb hK hP 1 0 rfl rfl (by unfold vp_in; decide +kernel) dX8_walkOn_70 ?_
        refine lv_topi (fun x70 ex70 => ?_)
        have fqx70 := congrArg Int32.toInt ex70
        have hF0 := hF0.trans (fl_lt_eq (show x70.toInt = (fl_A f62) (21) from fqx70))
        refine zc_cutc (wc := [(a0, .inr (8, [a0g_0, a0g_1, a0g_2, a0g_3, a0g_4, a0g_5, a0g_6, a0g_7, a0g_8, a0g_9, a0g_10, a0g_11, a0g_12, a0g_13, a0g_14, Value.ref a0_15, a0g_16, a0g_17, a0g_18, a0g_19, a0g_20, a0g_21, a0g_22, Value.ref a0_23, Value.ref a0_24, Value.int a0_25, a0g_26, a0g_27, a0g_28, a0g_29, a0g_30, a0g_31, a0g_32, a0g_33, a0g_34, a0g_35, a0g_36, a0g_37, a0g_38, a0g_39])), (a0_15, .inl (ka0_15, 156, .inl (fa0_15))), (a0_24, .inl (ka0_24, 3, .inl (fa0_24))), (a0_23, .inl (ka0_23, 3, .inl (fa0_23)))]) hP hD hS hA [0, 2, 3, 4] (by decide +kernel) rfl (fun hPc hDc hFc hCc => ?_)
        have hKc := hK.sub (tys' := [(ka0_15, .int), (ka0_24, .int), (ka0_23, .int)]) [1, 2, 3] rfl
        refine va_calli (va_runV (As := [.int x66, .int x70]) (rest := []) ⟨hx, hb, hml, hown, hts⟩ (f_X8_isWatched l dC dI H.size a0 x66 x70 a0g_0 a0g_1 a0g_2 a0g_3 a0g_4 a0g_5 a0g_6 a0g_7 a0g_8 a0g_9 a0g_10 a0g_11 a0g_12 a0g_13 a0g_14 a0g_16 a0g_17 a0g_18 a0g_19 a0g_20 a0g_21 a0g_22 a0g_26 a0g_27 a0g_28 a0g_29 a0g_30 a0g_31 a0g_32 a0g_33 a0g_34 a0g_35 a0g_36 a0g_37 a0g_38 a0g_39 a0_15 a0_23 a0_24 a0_25 ka0_15 fa0_15 ka0_24 fa0_24 ka0_23 fa0_23 bfa0_15 bfa0_24 bfa0_23) (cwV 2 hts gX8_walkOn_X8_isWatched rfl rfl rfl zd_X8_isWatched ⟨Nat.le_of_ble_eq_true rfl, Nat.le_of_ble_eq_true rfl⟩) ⟨ax_blind (fun _ _ _ _ _ => trivial), zr_8 hKc hPc (q0 := 0) rfl, ax_pre hPc hKc hDc (fun _ _ => trivial)⟩ rfl rfl hl.1 rfl (lv_room (Nat.le_of_ble_eq_true rfl)) dX8_walkOn_71 ⟨Nat.le_of_ble_eq_true rfl, Nat.le_of_ble_eq_true rfl⟩) hS (fun q _ h => hFc q h) hFc (fun r71 u t H locs ht hvm hw hB hz1 hk1 hS1 => zo hB ht hS1 (fun hP1 hK1 hD1 hS => ?_))
        refine zc_backc (w := [(a0, .inr (8, [a0g_0, a0g_1, a0g_2, a0g_3, a0g_4, a0g_5, a0g_6, a0g_7, a0g_8, a0g_9, a0g_10, a0g_11, a0g_12, a0g_13, a0g_14, Value.ref a0_15, a0g_16, a0g_17, a0g_18, a0g_19, a0g_20, a0g_21, a0g_22, Value.ref a0_23, Value.ref a0_24, Value.int a0_25, a0g_26, a0g_27, a0g_28, a0g_29, a0g_30, a0g_31, a0g_32, a0g_33, a0g_34, a0g_35, a0g_36, a0g_37, a0g_38, a0g_39])), (a1, .inl (ka1, 23, .inl (f62))), (a0_15, .inl (ka0_15, 156, .inl (fa0_15))), (a0_24, .inl (ka0_24, 3, .inl (fa0_24))), (a0_23, .inl (ka0_23, 3, .inl (fa0_23)))]) hP hD hCc hk1 hFc hP1 hD1 [.inr 0, .inl 1, .inr 1, .inr 2, .inr 3] (by decide +kernel) rfl (fun hP hD => ?_)
        obtain ⟨hw, hfr71⟩ := hw
        have hc71 : Ff_X8_isWatched x66.toInt x70.toInt a0_25.toInt (fl_A fa0_15) (fl_A fa0_24) (fl_A fa0_23) = r71.toInt := hfr71.symm
        have hF0 := hF0.trans (fl_lt_eq hc71.symm)
        rcases hw with hw | hw
        · subst hw
          have hF0 := hF0.trans (if_pos (by decide))
          refine lv_if_eq (tgt := 92) hx hb dX8_walkOn_74 (by decide) (fun c74 => absurd c74 (by decide +kernel)) (fun _ => ?_)
          refine lv_aload_n hx hb dX8_walkOn_77 rfl (lv_at hl 1 rfl) ?_
          refine lv_iload_n hx hb dX8_walkOn_78 rfl (lv_at hl 2 rfl) ?_
          refine lv_iload_n hx hb dX8_walkOn_79 rfl (lv_at hl 2 rfl) ?_
          refine va_iast hx hb hK hP hD hS 1 0 rfl rfl (ai_in ba2_l ba2_u (by decide) (by decide)) dX8_walkOn_80 (fun H locs hP hD hS => ?_)
          obtain ⟨f80, ef80⟩ : ∃ g9 : Nat → Int32, g9 = upd f62 (a2 : Int32).toNatClampNeg a2 := ⟨_, rfl⟩
          refine zs_1 (y := (a1, .inl (ka1, 23, .inl (f80)))) hP hD (by rw [ef80]) (fun hP hD => ?_)
          have bf80 : ((∀ k : Nat, 0 ≤ k → k ≤ 8 → (0 : Int) ≤ (f80 k).toInt ∧ (f80 k).toInt ≤ 8) ∧ (∀ k : Nat, 19 ≤ k → k ≤ 19 → (0 : Int) ≤ (f80 k).toInt ∧ (f80 k).toInt ≤ 8) ∧ (∀ k : Nat, 20 ≤ k → k ≤ 20 → (0 : Int) ≤ (f80 k).toInt ∧ (f80 k).toInt ≤ 19)) := by rw [ef80]; exact ⟨ai_updS bf62.1 _ ⟨ba2_l, ba2_u⟩, ai_updO bf62.2.1 _ (Or.inl (ai_nlt_of ba2_l ba2_u (by decide) (by decide))), ai_updO bf62.2.2 _ (Or.inl (ai_nlt_of ba2_l ba2_u (by decide) (by decide)))⟩
          have fqf80 := fl_up_eq ef80
          have hF0 := hF0.trans (fl_lt_eq (show (fl_A f80) = fl_up (fl_A f62) (a2.toInt.toNat) a2.toInt from fqf80))
          refine lv_aload_n hx hb dX8_walkOn_81 rfl (lv_at hl 1 rfl) ?_
          refine lv_bipush (v := 22) hx hb dX8_walkOn_82 zk_bipush_22 ?_
          refine lv_dup2_11 hx hb dX8_walkOn_84 rfl rfl ?_
          refine va_iald hx hb hK hP 1 0 rfl rfl (by unfold vp_in; decide +kernel) dX8_walkOn_85 ?_
          refine lv_topi (fun x85 ex85 => ?_)
          have fqx85 := congrArg Int32.toInt ex85
          have hF0 := hF0.trans (fl_lt_eq (show x85.toInt = (fl_A f80) (22) from fqx85))
          refine lv_iconst (v := 1) hx hb dX8_walkOn_86 zk_iconst_1 ?_
          refine lv_iadd hx hb dX8_walkOn_87 ?_
          refine lv_topi (fun x87 ex87 => ?_)
          have fqx87 := fl_iadd_eq ex87
          have hF0 := hF0.trans (fl_lt_eq (show x87.toInt = fl_iadd x85.toInt 1 from fqx87))
          refine va_iast hx hb hK hP hD hS 1 0 rfl rfl (by unfold vp_in; decide +kernel) dX8_walkOn_88 (fun H locs hP hD hS => ?_)
          obtain ⟨f88, ef88⟩ : ∃ g9 : Nat → Int32, g9 = upd f80 (22 : Int32).toNatClampNeg x87 := ⟨_, rfl⟩
          refine zs_1 (y := (a1, .inl (ka1, 23, .inl (f88)))) hP hD (by rw [ef88]) (fun hP hD => ?_)
          have bf88 : ((∀ k : Nat, 0 ≤ k → k ≤ 8 → (0 : Int) ≤ (f88 k).toInt ∧ (f88 k).toInt ≤ 8) ∧ (∀ k : Nat, 19 ≤ k → k ≤ 19 → (0 : Int) ≤ (f88 k).toInt ∧ (f88 k).toInt ≤ 8) ∧ (∀ k : Nat, 20 ≤ k → k ≤ 20 → (0 : Int) ≤ (f88 k).toInt ∧ (f88 k).toInt ≤ 19)) := by rw [ef88]; exact ⟨ai_updO bf80.1 _ (Or.inr (ai_ngt_of zq156 (by decide) (by decide))), ai_updO bf80.2.1 _ (Or.inr (ai_ngt_of zq156 (by decide) (by decide))), ai_updO bf80.2.2 _ (Or.inr (ai_ngt_of zq156 (by decide) (by decide)))⟩
          have kf88_22 : f88 22 = x87 := by rw [ef88]; exact ai_k1 (by decide +kernel)
          have fqf88 := fl_up_eq ef88
          have hF0 := hF0.trans (fl_lt_eq (show (fl_A f88) = fl_up (fl_A f80) (22) x87.toInt from fqf88))
          refine lv_goto (tgt := 114) hx hb dX8_walkOn_89 (by decide) ?_
          have hFe : FX = (fl_A f88) := hF0
          exact W.vret hx hb hr (fun t ht hW => ⟨⟨(), rfl, trivial, f88, bf88, hFe, by rw [ht]; exact hP, va_K.moved hW.alike hK, hD⟩, hS.F ht⟩) hS.2.2 dX8_walkOn_114
        · subst hw
          have hF0 := hF0.trans (if_neg (by decide))
          refine lv_if_eq (tgt := 92) hx hb dX8_walkOn_74 (by decide) (fun _ => ?_) (fun c74 => absurd (by decide +kernel) c74)
          refine lv_aload_n hx hb dX8_walkOn_92 rfl (lv_at hl 1 rfl) ?_
          refine lv_iload_n hx hb dX8_walkOn_93 rfl (lv_at hl 2 rfl) ?_
          refine va_iald hx hb hK hP 1 0 rfl rfl (ai_in ba2_l ba2_u (by decide) (by decide)) dX8_walkOn_94 ?_
          refine ax_ti x66 ex66.symm ?_
          refine lv_aload_n hx hb dX8_walkOn_95 rfl (lv_at hl 0 rfl) ?_
          refine va_get (D := (dC, dI)) (ci := 8) (v := .ref a0_15) (C := RX8) (T := TX8) (N := 40) hx hb hts zi_X8_walkOn_8 hown hK hP 0 rfl rfl 15 (by decide) (hts (.fieldLink RX8 20 "WaxTurnsModel" "\x72" "[I") (List.mem_cons_of_mem _ (List.mem_append_left _ (List.mem_of_getElem? (i := 0) rfl)))) (fun _ h9 => h9) rfl dX8_walkOn_96 ?_
          refine lv_iconst (v := 2) hx hb dX8_walkOn_99 zk_iconst_2 ?_
          refine va_iald hx hb hK hP 2 1 rfl rfl (by unfold vp_in; decide +kernel) dX8_walkOn_100 ?_
          refine ax_ti x36 ex36.symm ?_
          refine lv_icmp_ne (tgt := 114) hx hb dX8_walkOn_101 (by decide) (fun c101 => ?_) (fun c101 => ?_)
          · have gc101 := ai_ne c101
            have hF0 := hF0.trans (if_neg (show ¬ (x66.toInt = x36.toInt) from  gc101))
            have hFe : FX = (fl_A f62) := hF0
            exact W.vret hx hb hr (fun t ht hW => ⟨⟨(), rfl, trivial, f62, bf62, hFe, by rw [ht]; exact hP, va_K.moved hW.alike hK, hD⟩, hS.F ht⟩) hS.2.2 dX8_walkOn_114
          · have gc101 := ai_eq c101
            have u101f_x66 : x66.toInt ≤ (8 : Int) := bx66.2
            have l101f_x66 : (0 : Int) ≤ x66.toInt := bx66.1
            have u101f_x36 : x36.toInt ≤ (8 : Int) := u37t_x36
            have l101f_x36 : (0 : Int) ≤ x36.toInt := l53t_x36
            have hF0 := hF0.trans (if_pos (show x66.toInt = x36.toInt from gc101))
            refine lv_aload_n hx hb dX8_walkOn_104 rfl (lv_at hl 1 rfl) ?_
            refine lv_bipush (v := 18) hx hb dX8_walkOn_105 zk_bipush_18 ?_
            refine lv_dup2_11 hx hb dX8_walkOn_107 rfl rfl ?_
            refine va_iald hx hb hK hP 1 0 rfl rfl (by unfold vp_in; decide +kernel) dX8_walkOn_108 ?_
            refine lv_topi (fun x108 ex108 => ?_)
            have fqx108 := congrArg Int32.toInt ex108
            have hF0 := hF0.trans (fl_lt_eq (show x108.toInt = (fl_A f62) (18) from fqx108))
            refine lv_iconst (v := 1) hx hb dX8_walkOn_109 zk_iconst_1 ?_
            refine lv_iload_n hx hb dX8_walkOn_110 rfl (lv_at hl 2 rfl) ?_
            refine lv_ishl hx hb dX8_walkOn_111 ?_
            refine lv_topi (fun x111 ex111 => ?_)
            have bx111 : (1 : Int) ≤ x111.toInt ∧ x111.toInt ≤ 512 := sh_1 ex111 ba2_l (Int.le_trans ba2_u zq22)
            have fqx111 := fl_shl_eq ex111
            have hF0 := hF0.trans (fl_lt_eq (show x111.toInt = fl_shl 1 a2.toInt from fqx111))
            refine lv_ior hx hb dX8_walkOn_112 ?_
            refine lv_topi (fun x112 ex112 => ?_)
            have fqx112 := fl_or_eq ex112
            have hF0 := hF0.trans (fl_lt_eq (show x112.toInt = fl_or x108.toInt x111.toInt from fqx112))
            refine va_iast hx hb hK hP hD hS 1 0 rfl rfl (by unfold vp_in; decide +kernel) dX8_walkOn_113 (fun H locs hP hD hS => ?_)
            obtain ⟨f113, ef113⟩ : ∃ g9 : Nat → Int32, g9 = upd f62 (18 : Int32).toNatClampNeg x112 := ⟨_, rfl⟩
            refine zs_1 (y := (a1, .inl (ka1, 23, .inl (f113)))) hP hD (by rw [ef113]) (fun hP hD => ?_)
            have bf113 : ((∀ k : Nat, 0 ≤ k → k ≤ 8 → (0 : Int) ≤ (f113 k).toInt ∧ (f113 k).toInt ≤ 8) ∧ (∀ k : Nat, 19 ≤ k → k ≤ 19 → (0 : Int) ≤ (f113 k).toInt ∧ (f113 k).toInt ≤ 8) ∧ (∀ k : Nat, 20 ≤ k → k ≤ 20 → (0 : Int) ≤ (f113 k).toInt ∧ (f113 k).toInt ≤ 19)) := by rw [ef113]; exact ⟨ai_updO bf62.1 _ (Or.inr (ai_ngt_of zq157 (by decide) (by decide))), ai_updO bf62.2.1 _ (Or.inl (ai_nlt_of zq157 zq158 (by decide) (by decide))), ai_updO bf62.2.2 _ (Or.inl (ai_nlt_of zq157 zq158 (by decide) (by decide)))⟩
            have kf113_18 : f113 18 = x112 := by rw [ef113]; exact ai_k1 (by decide +kernel)
            have fqf113 := fl_up_eq ef113
            have hF0 := hF0.trans (fl_lt_eq (show (fl_A f113) = fl_up (fl_A f62) (18) x112.toInt from fqf113))
            have hFe : FX = (fl_A f113) := hF0
            exact W.vret hx hb hr (fun t ht hW => ⟨⟨(), rfl, trivial, f113, bf113, hFe, by rw [ht]; exact hP, va_K.moved hW.alike hK, hD⟩, hS.F ht⟩) hS.2.2 dX8_walkOn_114
      · have gc53 := ai_nle c53
        have u53f_x36 : x36.toInt ≤ (7 : Int) := ai_lthi gc53 bx27.2
        have l53f_x27 : (1 : Int) ≤ x27.toInt := ai_ltlo gc53 bx36.1
        have hF0 := hF0.trans (if_neg (show ¬ (x27.toInt ≤ x36.toInt) from Int.not_le.mpr gc53))
        refine lv_iconst (v := (-1)) hx hb dX8_walkOn_56 zk_iconst_n1 ?_
        refine lv_goto (tgt := 61) hx hb dX8_walkOn_57 (by decide) ?_
        refine lv_iadd hx hb dX8_walkOn_61 ?_
        refine lv_topi (fun x61 ex61 => ?_)
        have qx61 : x61.toInt = x27.toInt + ((-1) : Int32).toInt := ai_add ex61 ⟨l53f_x27, bx27.2⟩ ⟨zq70, zq71⟩ (by decide) (by decide)
        have bx61 : (0 : Int) ≤ x61.toInt ∧ x61.toInt ≤ 7 := ⟨by rw [qx61]; exact Int.add_le_add l53f_x27 zq70, by rw [qx61]; exact Int.add_le_add bx27.2 zq71⟩
        have wx61 : x61.toInt = x27.toInt - 1 := qx61
        have hF0 := hF0.trans (fl_lt_eq (show x61.toInt = x27.toInt + (-1) from qx61))
        refine va_iast hx hb hK hP hD hS 1 0 rfl rfl (ai_in ba2_l ba2_u (by decide) (by decide)) dX8_walkOn_62 (fun H locs hP hD hS => ?_)
        obtain ⟨f62, ef62⟩ : ∃ g9 : Nat → Int32, g9 = upd fa1 (a2 : Int32).toNatClampNeg x61 := ⟨_, rfl⟩
        refine zs_1 (y := (a1, .inl (ka1, 23, .inl (f62)))) hP hD (by rw [ef62]) (fun hP hD => ?_)
        have bf62 : ((∀ k : Nat, 0 ≤ k → k ≤ 8 → (0 : Int) ≤ (f62 k).toInt ∧ (f62 k).toInt ≤ 8) ∧ (∀ k : Nat, 19 ≤ k → k ≤ 19 → (0 : Int) ≤ (f62 k).toInt ∧ (f62 k).toInt ≤ 8) ∧ (∀ k : Nat, 20 ≤ k → k ≤ 20 → (0 : Int) ≤ (f62 k).toInt ∧ (f62 k).toInt ≤ 19)) := by rw [ef62]; exact ⟨ai_updS bfa1.1 _ ⟨bx61.1, (Int.le_trans bx61.2 zq49)⟩, ai_updO bfa1.2.1 _ (Or.inl (ai_nlt_of ba2_l ba2_u (by decide) (by decide))), ai_updO bfa1.2.2 _ (Or.inl (ai_nlt_of ba2_l ba2_u (by decide) (by decide)))⟩
        have fqf62 := fl_up_eq ef62
        have hF0 := hF0.trans (fl_lt_eq (show (fl_A f62) = fl_up (fl_A fa1) (a2.toInt.toNat) x61.toInt from fqf62))
        refine lv_aload_n hx hb dX8_walkOn_63 rfl (lv_at hl 0 rfl) ?_
        refine lv_aload_n hx hb dX8_walkOn_64 rfl (lv_at hl 1 rfl) ?_
        refine lv_iload_n hx hb dX8_walkOn_65 rfl (lv_at hl 2 rfl) ?_
        refine va_iald hx hb hK hP 1 0 rfl rfl (ai_in ba2_l ba2_u (by decide) (by decide)) dX8_walkOn_66 ?_
        refine lv_topi (fun x66 ex66 => ?_)
        have bx66 : (0 : Int) ≤ x66.toInt ∧ x66.toInt ≤ 8 := by rw [ex66]; exact ai_rd bf62.1 ba2_l ba2_u (by decide) (by decide) (by decide)
        have fqx66 := congrArg Int32.toInt ex66
        have hF0 := hF0.trans (fl_lt_eq (show x66.toInt = (fl_A f62) (a2.toInt.toNat) from fqx66))
        refine lv_aload_n hx hb dX8_walkOn_67 rfl (lv_at hl 1 rfl) ?_
        refine lv_bipush (v := 21) hx hb dX8_walkOn_68 zk_bipush_21 ?_
        refine va_iald hx hb hK hP 1 0 rfl rfl (by unfold vp_in; decide +kernel) dX8_walkOn_70 ?_
        refine lv_topi (fun x70 ex70 => ?_)
        have fqx70 := congrArg Int32.toInt ex70
        have hF0 := hF0.trans (fl_lt_eq (show x70.toInt = (fl_A f62) (21) from fqx70))
        refine zc_cutc (wc := [(a0, .inr (8, [a0g_0, a0g_1, a0g_2, a0g_3, a0g_4, a0g_5, a0g_6, a0g_7, a0g_8, a0g_9, a0g_10, a0g_11, a0g_12, a0g_13, a0g_14, Value.ref a0_15, a0g_16, a0g_17, a0g_18, a0g_19, a0g_20, a0g_21, a0g_22, Value.ref a0_23, Value.ref a0_24, Value.int a0_25, a0g_26, a0g_27, a0g_28, a0g_29, a0g_30, a0g_31, a0g_32, a0g_33, a0g_34, a0g_35, a0g_36, a0g_37, a0g_38, a0g_39])), (a0_15, .inl (ka0_15, 156, .inl (fa0_15))), (a0_24, .inl (ka0_24, 3, .inl (fa0_24))), (a0_23, .inl (ka0_23, 3, .inl (fa0_23)))]) hP hD hS hA [0, 2, 3, 4] (by decide +kernel) rfl (fun hPc hDc hFc hCc => ?_)
        have hKc := hK.sub (tys' := [(ka0_15, .int), (ka0_24, .int), (ka0_23, .int)]) [1, 2, 3] rfl
        refine va_calli (va_runV (As := [.int x66, .int x70]) (rest := []) ⟨hx, hb, hml, hown, hts⟩ (f_X8_isWatched l dC dI H.size a0 x66 x70 a0g_0 a0g_1 a0g_2 a0g_3 a0g_4 a0g_5 a0g_6 a0g_7 a0g_8 a0g_9 a0g_10 a0g_11 a0g_12 a0g_13 a0g_14 a0g_16 a0g_17 a0g_18 a0g_19 a0g_20 a0g_21 a0g_22 a0g_26 a0g_27 a0g_28 a0g_29 a0g_30 a0g_31 a0g_32 a0g_33 a0g_34 a0g_35 a0g_36 a0g_37 a0g_38 a0g_39 a0_15 a0_23 a0_24 a0_25 ka0_15 fa0_15 ka0_24 fa0_24 ka0_23 fa0_23 bfa0_15 bfa0_24 bfa0_23) (cwV 2 hts gX8_walkOn_X8_isWatched rfl rfl rfl zd_X8_isWatched ⟨Nat.le_of_ble_eq_true rfl, Nat.le_of_ble_eq_true rfl⟩) ⟨ax_blind (fun _ _ _ _ _ => trivial), zr_8 hKc hPc (q0 := 0) rfl, ax_pre hPc hKc hDc (fun _ _ => trivial)⟩ rfl rfl hl.1 rfl (lv_room (Nat.le_of_ble_eq_true rfl)) dX8_walkOn_71 ⟨Nat.le_of_ble_eq_true rfl, Nat.le_of_ble_eq_true rfl⟩) hS (fun q _ h => hFc q h) hFc (fun r71 u t H locs ht hvm hw hB hz1 hk1 hS1 => zo hB ht hS1 (fun hP1 hK1 hD1 hS => ?_))
        refine zc_backc (w := [(a0, .inr (8, [a0g_0, a0g_1, a0g_2, a0g_3, a0g_4, a0g_5, a0g_6, a0g_7, a0g_8, a0g_9, a0g_10, a0g_11, a0g_12, a0g_13, a0g_14, Value.ref a0_15, a0g_16, a0g_17, a0g_18, a0g_19, a0g_20, a0g_21, a0g_22, Value.ref a0_23, Value.ref a0_24, Value.int a0_25, a0g_26, a0g_27, a0g_28, a0g_29, a0g_30, a0g_31, a0g_32, a0g_33, a0g_34, a0g_35, a0g_36, a0g_37, a0g_38, a0g_39])), (a1, .inl (ka1, 23, .inl (f62))), (a0_15, .inl (ka0_15, 156, .inl (fa0_15))), (a0_24, .inl (ka0_24, 3, .inl (fa0_24))), (a0_23, .inl (ka0_23, 3, .inl (fa0_23)))]) hP hD hCc hk1 hFc hP1 hD1 [.inr 0, .inl 1, .inr 1, .inr 2, .inr 3] (by decide +kernel) rfl (fun hP hD => ?_)
        obtain ⟨hw, hfr71⟩ := hw
        have hc71 : Ff_X8_isWatched x66.toInt x70.toInt a0_25.toInt (fl_A fa0_15) (fl_A fa0_24) (fl_A fa0_23) = r71.toInt := hfr71.symm
        have hF0 := hF0.trans (fl_lt_eq hc71.symm)
        rcases hw with hw | hw
        · subst hw
          have hF0 := hF0.trans (if_pos (by decide))
          refine lv_if_eq (tgt := 92) hx hb dX8_walkOn_74 (by decide) (fun c74 => absurd c74 (by decide +kernel)) (fun _ => ?_)
          refine lv_aload_n hx hb dX8_walkOn_77 rfl (lv_at hl 1 rfl) ?_
          refine lv_iload_n hx hb dX8_walkOn_78 rfl (lv_at hl 2 rfl) ?_
          refine lv_iload_n hx hb dX8_walkOn_79 rfl (lv_at hl 2 rfl) ?_
          refine va_iast hx hb hK hP hD hS 1 0 rfl rfl (ai_in ba2_l ba2_u (by decide) (by decide)) dX8_walkOn_80 (fun H locs hP hD hS => ?_)
          obtain ⟨f80, ef80⟩ : ∃ g9 : Nat → Int32, g9 = upd f62 (a2 : Int32).toNatClampNeg a2 := ⟨_, rfl⟩
          refine zs_1 (y := (a1, .inl (ka1, 23, .inl (f80)))) hP hD (by rw [ef80]) (fun hP hD => ?_)
          have bf80 : ((∀ k : Nat, 0 ≤ k → k ≤ 8 → (0 : Int) ≤ (f80 k).toInt ∧ (f80 k).toInt ≤ 8) ∧ (∀ k : Nat, 19 ≤ k → k ≤ 19 → (0 : Int) ≤ (f80 k).toInt ∧ (f80 k).toInt ≤ 8) ∧ (∀ k : Nat, 20 ≤ k → k ≤ 20 → (0 : Int) ≤ (f80 k).toInt ∧ (f80 k).toInt ≤ 19)) := by rw [ef80]; exact ⟨ai_updS bf62.1 _ ⟨ba2_l, ba2_u⟩, ai_updO bf62.2.1 _ (Or.inl (ai_nlt_of ba2_l ba2_u (by decide) (by decide))), ai_updO bf62.2.2 _ (Or.inl (ai_nlt_of ba2_l ba2_u (by decide) (by decide)))⟩
          have fqf80 := fl_up_eq ef80
          have hF0 := hF0.trans (fl_lt_eq (show (fl_A f80) = fl_up (fl_A f62) (a2.toInt.toNat) a2.toInt from fqf80))
          refine lv_aload_n hx hb dX8_walkOn_81 rfl (lv_at hl 1 rfl) ?_
          refine lv_bipush (v := 22) hx hb dX8_walkOn_82 zk_bipush_22 ?_
          refine lv_dup2_11 hx hb dX8_walkOn_84 rfl rfl ?_
          refine va_iald hx hb hK hP 1 0 rfl rfl (by unfold vp_in; decide +kernel) dX8_walkOn_85 ?_
          refine lv_topi (fun x85 ex85 => ?_)
          have fqx85 := congrArg Int32.toInt ex85
          have hF0 := hF0.trans (fl_lt_eq (show x85.toInt = (fl_A f80) (22) from fqx85))
          refine lv_iconst (v := 1) hx hb dX8_walkOn_86 zk_iconst_1 ?_
          refine lv_iadd hx hb dX8_walkOn_87 ?_
          refine lv_topi (fun x87 ex87 => ?_)
          have fqx87 := fl_iadd_eq ex87
          have hF0 := hF0.trans (fl_lt_eq (show x87.toInt = fl_iadd x85.toInt 1 from fqx87))
          refine va_iast hx hb hK hP hD hS 1 0 rfl rfl (by unfold vp_in; decide +kernel) dX8_walkOn_88 (fun H locs hP hD hS => ?_)
          obtain ⟨f88, ef88⟩ : ∃ g9 : Nat → Int32, g9 = upd f80 (22 : Int32).toNatClampNeg x87 := ⟨_, rfl⟩
          refine zs_1 (y := (a1, .inl (ka1, 23, .inl (f88)))) hP hD (by rw [ef88]) (fun hP hD => ?_)
          have bf88 : ((∀ k : Nat, 0 ≤ k → k ≤ 8 → (0 : Int) ≤ (f88 k).toInt ∧ (f88 k).toInt ≤ 8) ∧ (∀ k : Nat, 19 ≤ k → k ≤ 19 → (0 : Int) ≤ (f88 k).toInt ∧ (f88 k).toInt ≤ 8) ∧ (∀ k : Nat, 20 ≤ k → k ≤ 20 → (0 : Int) ≤ (f88 k).toInt ∧ (f88 k).toInt ≤ 19)) := by rw [ef88]; exact ⟨ai_updO bf80.1 _ (Or.inr (ai_ngt_of zq156 (by decide) (by decide))), ai_updO bf80.2.1 _ (Or.inr (ai_ngt_of zq156 (by decide) (by decide))), ai_updO bf80.2.2 _ (Or.inr (ai_ngt_of zq156 (by decide) (by decide)))⟩
          have kf88_22 : f88 22 = x87 := by rw [ef88]; exact ai_k1 (by decide +kernel)
          have fqf88 := fl_up_eq ef88
          have hF0 := hF0.trans (fl_lt_eq (show (fl_A f88) = fl_up (fl_A f80) (22) x87.toInt from fqf88))
          refine lv_goto (tgt := 114) hx hb dX8_walkOn_89 (by decide) ?_
          have hFe : FX = (fl_A f88) := hF0
          exact W.vret hx hb hr (fun t ht hW => ⟨⟨(), rfl, trivial, f88, bf88, hFe, by rw [ht]; exact hP, va_K.moved hW.alike hK, hD⟩, hS.F ht⟩) hS.2.2 dX8_walkOn_114
        · subst hw
          have hF0 := hF0.trans (if_neg (by decide))
          refine lv_if_eq (tgt := 92) hx hb dX8_walkOn_74 (by decide) (fun _ => ?_) (fun c74 => absurd (by decide +kernel) c74)
          refine lv_aload_n hx hb dX8_walkOn_92 rfl (lv_at hl 1 rfl) ?_
          refine lv_iload_n hx hb dX8_walkOn_93 rfl (lv_at hl 2 rfl) ?_
          refine va_iald hx hb hK hP 1 0 rfl rfl (ai_in ba2_l ba2_u (by decide) (by decide)) dX8_walkOn_94 ?_
          refine ax_ti x66 ex66.symm ?_
          refine lv_aload_n hx hb dX8_walkOn_95 rfl (lv_at hl 0 rfl) ?_
          refine va_get (D := (dC, dI)) (ci := 8) (v := .ref a0_15) (C := RX8) (T := TX8) (N := 40) hx hb hts zi_X8_walkOn_8 hown hK hP 0 rfl rfl 15 (by decide) (hts (.fieldLink RX8 20 "WaxTurnsModel" "\x72" "[I") (List.mem_cons_of_mem _ (List.mem_append_left _ (List.mem_of_getElem? (i := 0) rfl)))) (fun _ h9 => h9) rfl dX8_walkOn_96 ?_
          refine lv_iconst (v := 2) hx hb dX8_walkOn_99 zk_iconst_2 ?_
          refine va_iald hx hb hK hP 2 1 rfl rfl (by unfold vp_in; decide +kernel) dX8_walkOn_100 ?_
          refine ax_ti x36 ex36.symm ?_
          refine lv_icmp_ne (tgt := 114) hx hb dX8_walkOn_101 (by decide) (fun c101 => ?_) (fun c101 => ?_)
          · have gc101 := ai_ne c101
            have hF0 := hF0.trans (if_neg (show ¬ (x66.toInt = x36.toInt) from  gc101))
            have hFe : FX = (fl_A f62) := hF0
            exact W.vret hx hb hr (fun t ht hW => ⟨⟨(), rfl, trivial, f62, bf62, hFe, by rw [ht]; exact hP, va_K.moved hW.alike hK, hD⟩, hS.F ht⟩) hS.2.2 dX8_walkOn_114
          · have gc101 := ai_eq c101
            have u101f_x66 : x66.toInt ≤ (7 : Int) := Int.le_trans (Int.le_of_eq gc101) u53f_x36
            have l101f_x66 : (0 : Int) ≤ x66.toInt := bx66.1
            have u101f_x36 : x36.toInt ≤ (7 : Int) := u53f_x36
            have l101f_x36 : (0 : Int) ≤ x36.toInt := bx36.1
            have hF0 := hF0.trans (if_pos (show x66.toInt = x36.toInt from gc101))
            refine lv_aload_n hx hb dX8_walkOn_104 rfl (lv_at hl 1 rfl) ?_
            refine lv_bipush (v := 18) hx hb dX8_walkOn_105 zk_bipush_18 ?_
            refine lv_dup2_11 hx hb dX8_walkOn_107 rfl rfl ?_
            refine va_iald hx hb hK hP 1 0 rfl rfl (by unfold vp_in; decide +kernel) dX8_walkOn_108 ?_
            refine lv_topi (fun x108 ex108 => ?_)
            have fqx108 := congrArg Int32.toInt ex108
            have hF0 := hF0.trans (fl_lt_eq (show x108.toInt = (fl_A f62) (18) from fqx108))
            refine lv_iconst (v := 1) hx hb dX8_walkOn_109 zk_iconst_1 ?_
            refine lv_iload_n hx hb dX8_walkOn_110 rfl (lv_at hl 2 rfl) ?_
            refine lv_ishl hx hb dX8_walkOn_111 ?_
            refine lv_topi (fun x111 ex111 => ?_)
            have bx111 : (1 : Int) ≤ x111.toInt ∧ x111.toInt ≤ 512 := sh_1 ex111 ba2_l (Int.le_trans ba2_u zq22)
            have fqx111 := fl_shl_eq ex111
            have hF0 := hF0.trans (fl_lt_eq (show x111.toInt = fl_shl 1 a2.toInt from fqx111))
            refine lv_ior hx hb dX8_walkOn_112 ?_
            refine lv_topi (fun x112 ex112 => ?_)
            have fqx112 := fl_or_eq ex112
            have hF0 := hF0.trans (fl_lt_eq (show x112.toInt = fl_or x108.toInt x111.toInt from fqx112))
            refine va_iast hx hb hK hP hD hS 1 0 rfl rfl (by unfold vp_in; decide +kernel) dX8_walkOn_113 (fun H locs hP hD hS => ?_)
            obtain ⟨f113, ef113⟩ : ∃ g9 : Nat → Int32, g9 = upd f62 (18 : Int32).toNatClampNeg x112 := ⟨_, rfl⟩
            refine zs_1 (y := (a1, .inl (ka1, 23, .inl (f113)))) hP hD (by rw [ef113]) (fun hP hD => ?_)
            have bf113 : ((∀ k : Nat, 0 ≤ k → k ≤ 8 → (0 : Int) ≤ (f113 k).toInt ∧ (f113 k).toInt ≤ 8) ∧ (∀ k : Nat, 19 ≤ k → k ≤ 19 → (0 : Int) ≤ (f113 k).toInt ∧ (f113 k).toInt ≤ 8) ∧ (∀ k : Nat, 20 ≤ k → k ≤ 20 → (0 : Int) ≤ (f113 k).toInt ∧ (f113 k).toInt ≤ 19)) := by rw [ef113]; exact ⟨ai_updO bf62.1 _ (Or.inr (ai_ngt_of zq157 (by decide) (by decide))), ai_updO bf62.2.1 _ (Or.inl (ai_nlt_of zq157 zq158 (by decide) (by decide))), ai_updO bf62.2.2 _ (Or.inl (ai_nlt_of zq157 zq158 (by decide) (by decide)))⟩
            have kf113_18 : f113 18 = x112 := by rw [ef113]; exact ai_k1 (by decide +kernel)
            have fqf113 := fl_up_eq ef113
            have hF0 := hF0.trans (fl_lt_eq (show (fl_A f113) = fl_up (fl_A f62) (18) x112.toInt from fqf113))
            have hFe : FX = (fl_A f113) := hF0
            exact W.vret hx hb hr (fun t ht hW => ⟨⟨(), rfl, trivial, f113, bf113, hFe, by rw [ht]; exact hP, va_K.moved hW.alike hK, hD⟩, hS.F ht⟩) hS.2.2 dX8_walkOn_114
    · have gc37 := ai_nle c37
      have u37f_x27 : x27.toInt ≤ (7 : Int) := ai_lthi gc37 bx36.2
      have l37f_x36 : (1 : Int) ≤ x36.toInt := ai_ltlo gc37 bx27.1
      have hF0 := hF0.trans (if_neg (show ¬ (x36.toInt ≤ x27.toInt) from Int.not_le.mpr gc37))
      refine lv_iconst (v := 1) hx hb dX8_walkOn_40 zk_iconst_1 ?_
      refine lv_goto (tgt := 61) hx hb dX8_walkOn_41 (by decide) ?_
      refine lv_iadd hx hb dX8_walkOn_61 ?_
      refine lv_topi (fun x61 ex61 => ?_)
      have qx61 : x61.toInt = x27.toInt + (1 : Int32).toInt := ai_add ex61 ⟨bx27.1, u37f_x27⟩ ⟨zq1, zq0⟩ (by decide) (by decide)
      have bx61 : (1 : Int) ≤ x61.toInt ∧ x61.toInt ≤ 8 := ⟨by rw [qx61]; exact Int.add_le_add bx27.1 zq1, by rw [qx61]; exact Int.add_le_add u37f_x27 zq0⟩
      have wx61 : x61.toInt = x27.toInt + 1 := qx61
      have hF0 := hF0.trans (fl_lt_eq (show x61.toInt = x27.toInt + 1 from qx61))
      refine va_iast hx hb hK hP hD hS 1 0 rfl rfl (ai_in ba2_l ba2_u (by decide) (by decide)) dX8_walkOn_62 (fun H locs hP hD hS => ?_)
      obtain ⟨f62, ef62⟩ : ∃ g9 : Nat → Int32, g9 = upd fa1 (a2 : Int32).toNatClampNeg x61 := ⟨_, rfl⟩
      refine zs_1 (y := (a1, .inl (ka1, 23, .inl (f62)))) hP hD (by rw [ef62]) (fun hP hD => ?_)
      have bf62 : ((∀ k : Nat, 0 ≤ k → k ≤ 8 → (0 : Int) ≤ (f62 k).toInt ∧ (f62 k).toInt ≤ 8) ∧ (∀ k : Nat, 19 ≤ k → k ≤ 19 → (0 : Int) ≤ (f62 k).toInt ∧ (f62 k).toInt ≤ 8) ∧ (∀ k : Nat, 20 ≤ k → k ≤ 20 → (0 : Int) ≤ (f62 k).toInt ∧ (f62 k).toInt ≤ 19)) := by rw [ef62]; exact ⟨ai_updS bfa1.1 _ ⟨(Int.le_trans zq4 bx61.1), bx61.2⟩, ai_updO bfa1.2.1 _ (Or.inl (ai_nlt_of ba2_l ba2_u (by decide) (by decide))), ai_updO bfa1.2.2 _ (Or.inl (ai_nlt_of ba2_l ba2_u (by decide) (by decide)))⟩
      have fqf62 := fl_up_eq ef62
      have hF0 := hF0.trans (fl_lt_eq (show (fl_A f62) = fl_up (fl_A fa1) (a2.toInt.toNat) x61.toInt from fqf62))
      refine lv_aload_n hx hb dX8_walkOn_63 rfl (lv_at hl 0 rfl) ?_
      refine lv_aload_n hx hb dX8_walkOn_64 rfl (lv_at hl 1 rfl) ?_
      refine lv_iload_n hx hb dX8_walkOn_65 rfl (lv_at hl 2 rfl) ?_
      refine va_iald hx hb hK hP 1 0 rfl rfl (ai_in ba2_l ba2_u (by decide) (by decide)) dX8_walkOn_66 ?_
      refine lv_topi (fun x66 ex66 => ?_)
      have bx66 : (0 : Int) ≤ x66.toInt ∧ x66.toInt ≤ 8 := by rw [ex66]; exact ai_rd bf62.1 ba2_l ba2_u (by decide) (by decide) (by decide)
      have fqx66 := congrArg Int32.toInt ex66
      have hF0 := hF0.trans (fl_lt_eq (show x66.toInt = (fl_A f62) (a2.toInt.toNat) from fqx66))
      refine lv_aload_n hx hb dX8_walkOn_67 rfl (lv_at hl 1 rfl) ?_
      refine lv_bipush (v := 21) hx hb dX8_walkOn_68 zk_bipush_21 ?_
      refine va_iald hx hb hK hP 1 0 rfl rfl (by unfold vp_in; decide +kernel) dX8_walkOn_70 ?_
      refine lv_topi (fun x70 ex70 => ?_)
      have fqx70 := congrArg Int32.toInt ex70
      have hF0 := hF0.trans (fl_lt_eq (show x70.toInt = (fl_A f62) (21) from fqx70))
      refine zc_cutc (wc := [(a0, .inr (8, [a0g_0, a0g_1, a0g_2, a0g_3, a0g_4, a0g_5, a0g_6, a0g_7, a0g_8, a0g_9, a0g_10, a0g_11, a0g_12, a0g_13, a0g_14, Value.ref a0_15, a0g_16, a0g_17, a0g_18, a0g_19, a0g_20, a0g_21, a0g_22, Value.ref a0_23, Value.ref a0_24, Value.int a0_25, a0g_26, a0g_27, a0g_28, a0g_29, a0g_30, a0g_31, a0g_32, a0g_33, a0g_34, a0g_35, a0g_36, a0g_37, a0g_38, a0g_39])), (a0_15, .inl (ka0_15, 156, .inl (fa0_15))), (a0_24, .inl (ka0_24, 3, .inl (fa0_24))), (a0_23, .inl (ka0_23, 3, .inl (fa0_23)))]) hP hD hS hA [0, 2, 3, 4] (by decide +kernel) rfl (fun hPc hDc hFc hCc => ?_)
      have hKc := hK.sub (tys' := [(ka0_15, .int), (ka0_24, .int), (ka0_23, .int)]) [1, 2, 3] rfl
      refine va_calli (va_runV (As := [.int x66, .int x70]) (rest := []) ⟨hx, hb, hml, hown, hts⟩ (f_X8_isWatched l dC dI H.size a0 x66 x70 a0g_0 a0g_1 a0g_2 a0g_3 a0g_4 a0g_5 a0g_6 a0g_7 a0g_8 a0g_9 a0g_10 a0g_11 a0g_12 a0g_13 a0g_14 a0g_16 a0g_17 a0g_18 a0g_19 a0g_20 a0g_21 a0g_22 a0g_26 a0g_27 a0g_28 a0g_29 a0g_30 a0g_31 a0g_32 a0g_33 a0g_34 a0g_35 a0g_36 a0g_37 a0g_38 a0g_39 a0_15 a0_23 a0_24 a0_25 ka0_15 fa0_15 ka0_24 fa0_24 ka0_23 fa0_23 bfa0_15 bfa0_24 bfa0_23) (cwV 2 hts gX8_walkOn_X8_isWatched rfl rfl rfl zd_X8_isWatched ⟨Nat.le_of_ble_eq_true rfl, Nat.le_of_ble_eq_true rfl⟩) ⟨ax_blind (fun _ _ _ _ _ => trivial), zr_8 hKc hPc (q0 := 0) rfl, ax_pre hPc hKc hDc (fun _ _ => trivial)⟩ rfl rfl hl.1 rfl (lv_room (Nat.le_of_ble_eq_true rfl)) dX8_walkOn_71 ⟨Nat.le_of_ble_eq_true rfl, Nat.le_of_ble_eq_true rfl⟩) hS (fun q _ h => hFc q h) hFc (fun r71 u t H locs ht hvm hw hB hz1 hk1 hS1 => zo hB ht hS1 (fun hP1 hK1 hD1 hS => ?_))
      refine zc_backc (w := [(a0, .inr (8, [a0g_0, a0g_1, a0g_2, a0g_3, a0g_4, a0g_5, a0g_6, a0g_7, a0g_8, a0g_9, a0g_10, a0g_11, a0g_12, a0g_13, a0g_14, Value.ref a0_15, a0g_16, a0g_17, a0g_18, a0g_19, a0g_20, a0g_21, a0g_22, Value.ref a0_23, Value.ref a0_24, Value.int a0_25, a0g_26, a0g_27, a0g_28, a0g_29, a0g_30, a0g_31, a0g_32, a0g_33, a0g_34, a0g_35, a0g_36, a0g_37, a0g_38, a0g_39])), (a1, .inl (ka1, 23, .inl (f62))), (a0_15, .inl (ka0_15, 156, .inl (fa0_15))), (a0_24, .inl (ka0_24, 3, .inl (fa0_24))), (a0_23, .inl (ka0_23, 3, .inl (fa0_23)))]) hP hD hCc hk1 hFc hP1 hD1 [.inr 0, .inl 1, .inr 1, .inr 2, .inr 3] (by decide +kernel) rfl (fun hP hD => ?_)
      obtain ⟨hw, hfr71⟩ := hw
      have hc71 : Ff_X8_isWatched x66.toInt x70.toInt a0_25.toInt (fl_A fa0_15) (fl_A fa0_24) (fl_A fa0_23) = r71.toInt := hfr71.symm
      have hF0 := hF0.trans (fl_lt_eq hc71.symm)
      rcases hw with hw | hw
      · subst hw
        have hF0 := hF0.trans (if_pos (by decide))
        refine lv_if_eq (tgt := 92) hx hb dX8_walkOn_74 (by decide) (fun c74 => absurd c74 (by decide +kernel)) (fun _ => ?_)
        refine lv_aload_n hx hb dX8_walkOn_77 rfl (lv_at hl 1 rfl) ?_
        refine lv_iload_n hx hb dX8_walkOn_78 rfl (lv_at hl 2 rfl) ?_
        refine lv_iload_n hx hb dX8_walkOn_79 rfl (lv_at hl 2 rfl) ?_
        refine va_iast hx hb hK hP hD hS 1 0 rfl rfl (ai_in ba2_l ba2_u (by decide) (by decide)) dX8_walkOn_80 (fun H locs hP hD hS => ?_)
        obtain ⟨f80, ef80⟩ : ∃ g9 : Nat → Int32, g9 = upd f62 (a2 : Int32).toNatClampNeg a2 := ⟨_, rfl⟩
        refine zs_1 (y := (a1, .inl (ka1, 23, .inl (f80)))) hP hD (by rw [ef80]) (fun hP hD => ?_)
        have bf80 : ((∀ k : Nat, 0 ≤ k → k ≤ 8 → (0 : Int) ≤ (f80 k).toInt ∧ (f80 k).toInt ≤ 8) ∧ (∀ k : Nat, 19 ≤ k → k ≤ 19 → (0 : Int) ≤ (f80 k).toInt ∧ (f80 k).toInt ≤ 8) ∧ (∀ k : Nat, 20 ≤ k → k ≤ 20 → (0 : Int) ≤ (f80 k).toInt ∧ (f80 k).toInt ≤ 19)) := by rw [ef80]; exact ⟨ai_updS bf62.1 _ ⟨ba2_l, ba2_u⟩, ai_updO bf62.2.1 _ (Or.inl (ai_nlt_of ba2_l ba2_u (by decide) (by decide))), ai_updO bf62.2.2 _ (Or.inl (ai_nlt_of ba2_l ba2_u (by decide) (by decide)))⟩
        have fqf80 := fl_up_eq ef80
        have hF0 := hF0.trans (fl_lt_eq (show (fl_A f80) = fl_up (fl_A f62) (a2.toInt.toNat) a2.toInt from fqf80))
        refine lv_aload_n hx hb dX8_walkOn_81 rfl (lv_at hl 1 rfl) ?_
        refine lv_bipush (v := 22) hx hb dX8_walkOn_82 zk_bipush_22 ?_
        refine lv_dup2_11 hx hb dX8_walkOn_84 rfl rfl ?_
        refine va_iald hx hb hK hP 1 0 rfl rfl (by unfold vp_in; decide +kernel) dX8_walkOn_85 ?_
        refine lv_topi (fun x85 ex85 => ?_)
        have fqx85 := congrArg Int32.toInt ex85
        have hF0 := hF0.trans (fl_lt_eq (show x85.toInt = (fl_A f80) (22) from fqx85))
        refine lv_iconst (v := 1) hx hb dX8_walkOn_86 zk_iconst_1 ?_
        refine lv_iadd hx hb dX8_walkOn_87 ?_
        refine lv_topi (fun x87 ex87 => ?_)
        have fqx87 := fl_iadd_eq ex87
        have hF0 := hF0.trans (fl_lt_eq (show x87.toInt = fl_iadd x85.toInt 1 from fqx87))
        refine va_iast hx hb hK hP hD hS 1 0 rfl rfl (by unfold vp_in; decide +kernel) dX8_walkOn_88 (fun H locs hP hD hS => ?_)
        obtain ⟨f88, ef88⟩ : ∃ g9 : Nat → Int32, g9 = upd f80 (22 : Int32).toNatClampNeg x87 := ⟨_, rfl⟩
        refine zs_1 (y := (a1, .inl (ka1, 23, .inl (f88)))) hP hD (by rw [ef88]) (fun hP hD => ?_)
        have bf88 : ((∀ k : Nat, 0 ≤ k → k ≤ 8 → (0 : Int) ≤ (f88 k).toInt ∧ (f88 k).toInt ≤ 8) ∧ (∀ k : Nat, 19 ≤ k → k ≤ 19 → (0 : Int) ≤ (f88 k).toInt ∧ (f88 k).toInt ≤ 8) ∧ (∀ k : Nat, 20 ≤ k → k ≤ 20 → (0 : Int) ≤ (f88 k).toInt ∧ (f88 k).toInt ≤ 19)) := by rw [ef88]; exact ⟨ai_updO bf80.1 _ (Or.inr (ai_ngt_of zq156 (by decide) (by decide))), ai_updO bf80.2.1 _ (Or.inr (ai_ngt_of zq156 (by decide) (by decide))), ai_updO bf80.2.2 _ (Or.inr (ai_ngt_of zq156 (by decide) (by decide)))⟩
        have kf88_22 : f88 22 = x87 := by rw [ef88]; exact ai_k1 (by decide +kernel)
        have fqf88 := fl_up_eq ef88
        have hF0 := hF0.trans (fl_lt_eq (show (fl_A f88) = fl_up (fl_A f80) (22) x87.toInt from fqf88))
        refine lv_goto (tgt := 114) hx hb dX8_walkOn_89 (by decide) ?_
        have hFe : FX = (fl_A f88) := hF0
        exact W.vret hx hb hr (fun t ht hW => ⟨⟨(), rfl, trivial, f88, bf88, hFe, by rw [ht]; exact hP, va_K.moved hW.alike hK, hD⟩, hS.F ht⟩) hS.2.2 dX8_walkOn_114
      · subst hw
        have hF0 := hF0.trans (if_neg (by decide))
        refine lv_if_eq (tgt := 92) hx hb dX8_walkOn_74 (by decide) (fun _ => ?_) (fun c74 => absurd (by decide +kernel) c74)
        refine lv_aload_n hx hb dX8_walkOn_92 rfl (lv_at hl 1 rfl) ?_
        refine lv_iload_n hx hb dX8_walkOn_93 rfl (lv_at hl 2 rfl) ?_
        refine va_iald hx hb hK hP 1 0 rfl rfl (ai_in ba2_l ba2_u (by decide) (by decide)) dX8_walkOn_94 ?_
        refine ax_ti x66 ex66.symm ?_
        refine lv_aload_n hx hb dX8_walkOn_95 rfl (lv_at hl 0 rfl) ?_
        refine va_get (D := (dC, dI)) (ci := 8) (v := .ref a0_15) (C := RX8) (T := TX8) (N := 40) hx hb hts zi_X8_walkOn_8 hown hK hP 0 rfl rfl 15 (by decide) (hts (.fieldLink RX8 20 "WaxTurnsModel" "\x72" "[I") (List.mem_cons_of_mem _ (List.mem_append_left _ (List.mem_of_getElem? (i := 0) rfl)))) (fun _ h9 => h9) rfl dX8_walkOn_96 ?_
        refine lv_iconst (v := 2) hx hb dX8_walkOn_99 zk_iconst_2 ?_
        refine va_iald hx hb hK hP 2 1 rfl rfl (by unfold vp_in; decide +kernel) dX8_walkOn_100 ?_
        refine ax_ti x36 ex36.symm ?_
        refine lv_icmp_ne (tgt := 114) hx hb dX8_walkOn_101 (by decide) (fun c101 => ?_) (fun c101 => ?_)
        · have gc101 := ai_ne c101
          have hF0 := hF0.trans (if_neg (show ¬ (x66.toInt = x36.toInt) from  gc101))
          have hFe : FX = (fl_A f62) := hF0
          exact W.vret hx hb hr (fun t ht hW => ⟨⟨(), rfl, trivial, f62, bf62, hFe, by rw [ht]; exact hP, va_K.moved hW.alike hK, hD⟩, hS.F ht⟩) hS.2.2 dX8_walkOn_114
        · have gc101 := ai_eq c101
          have u101f_x66 : x66.toInt ≤ (8 : Int) := bx66.2
          have l101f_x66 : (1 : Int) ≤ x66.toInt := Int.le_trans l37f_x36 (Int.le_of_eq gc101.symm)
          have u101f_x36 : x36.toInt ≤ (8 : Int) := bx36.2
          have l101f_x36 : (1 : Int) ≤ x36.toInt := l37f_x36
          have hF0 := hF0.trans (if_pos (show x66.toInt = x36.toInt from gc101))
          refine lv_aload_n hx hb dX8_walkOn_104 rfl (lv_at hl 1 rfl) ?_
          refine lv_bipush (v := 18) hx hb dX8_walkOn_105 zk_bipush_18 ?_
          refine lv_dup2_11 hx hb dX8_walkOn_107 rfl rfl ?_
          refine va_iald hx hb hK hP 1 0 rfl rfl (by unfold vp_in; decide +kernel) dX8_walkOn_108 ?_
          refine lv_topi (fun x108 ex108 => ?_)
          have fqx108 := congrArg Int32.toInt ex108
          have hF0 := hF0.trans (fl_lt_eq (show x108.toInt = (fl_A f62) (18) from fqx108))
          refine lv_iconst (v := 1) hx hb dX8_walkOn_109 zk_iconst_1 ?_
          refine lv_iload_n hx hb dX8_walkOn_110 rfl (lv_at hl 2 rfl) ?_
          refine lv_ishl hx hb dX8_walkOn_111 ?_
          refine lv_topi (fun x111 ex111 => ?_)
          have bx111 : (1 : Int) ≤ x111.toInt ∧ x111.toInt ≤ 512 := sh_1 ex111 ba2_l (Int.le_trans ba2_u zq22)
          have fqx111 := fl_shl_eq ex111
          have hF0 := hF0.trans (fl_lt_eq (show x111.toInt = fl_shl 1 a2.toInt from fqx111))
          refine lv_ior hx hb dX8_walkOn_112 ?_
          refine lv_topi (fun x112 ex112 => ?_)
          have fqx112 := fl_or_eq ex112
          have hF0 := hF0.trans (fl_lt_eq (show x112.toInt = fl_or x108.toInt x111.toInt from fqx112))
          refine va_iast hx hb hK hP hD hS 1 0 rfl rfl (by unfold vp_in; decide +kernel) dX8_walkOn_113 (fun H locs hP hD hS => ?_)
          obtain ⟨f113, ef113⟩ : ∃ g9 : Nat → Int32, g9 = upd f62 (18 : Int32).toNatClampNeg x112 := ⟨_, rfl⟩
          refine zs_1 (y := (a1, .inl (ka1, 23, .inl (f113)))) hP hD (by rw [ef113]) (fun hP hD => ?_)
          have bf113 : ((∀ k : Nat, 0 ≤ k → k ≤ 8 → (0 : Int) ≤ (f113 k).toInt ∧ (f113 k).toInt ≤ 8) ∧ (∀ k : Nat, 19 ≤ k → k ≤ 19 → (0 : Int) ≤ (f113 k).toInt ∧ (f113 k).toInt ≤ 8) ∧ (∀ k : Nat, 20 ≤ k → k ≤ 20 → (0 : Int) ≤ (f113 k).toInt ∧ (f113 k).toInt ≤ 19)) := by rw [ef113]; exact ⟨ai_updO bf62.1 _ (Or.inr (ai_ngt_of zq157 (by decide) (by decide))), ai_updO bf62.2.1 _ (Or.inl (ai_nlt_of zq157 zq158 (by decide) (by decide))), ai_updO bf62.2.2 _ (Or.inl (ai_nlt_of zq157 zq158 (by decide) (by decide)))⟩
          have kf113_18 : f113 18 = x112 := by rw [ef113]; exact ai_k1 (by decide +kernel)
          have fqf113 := fl_up_eq ef113
          have hF0 := hF0.trans (fl_lt_eq (show (fl_A f113) = fl_up (fl_A f62) (18) x112.toInt from fqf113))
          have hFe : FX = (fl_A f113) := hF0
          exact W.vret hx hb hr (fun t ht hW => ⟨⟨(), rfl, trivial, f113, bf113, hFe, by rw [ht]; exact hP, va_K.moved hW.alike hK, hD⟩, hS.F ht⟩) hS.2.2 dX8_walkOn_114
  · have gc20 := ai_ne c20
    have l20f_x19 : (1 : Int) ≤ x19.toInt := (by first | exact zg_l qx19.2.1 gc20 (by decide) (by decide) | (have h1 := qx19.2.1; have h2 : (0 : Int32).toInt = 0 := (by decide); rw [h2] at gc20; omega))
    have hF0 := hF0.trans (if_neg (show ¬ (x19.toInt = 0) from  gc20))
    have hFe : FX = (fl_A fa1) := hF0
    exact W.vret hx hb hr (fun t ht hW => ⟨⟨(), rfl, trivial, fa1, bfa1, hFe, by rw [ht]; exact hP, va_K.moved hW.alike hK, hD⟩, hS.F ht⟩) hS.2.2 dX8_walkOn_23
end P314_02_f
section P314_03_f
set_option maxHeartbeats 4000000 in
set_option maxRecDepth 100000 in
theorem f_X8_speakOn (l : Launch) (dC : Nat → ClassId) (dI : Nat → Nat → Nat) (sz : Nat) (a0 : Nat) (a1 : Nat) (a2 : Int32) (a0g_0 a0g_1 a0g_2 a0g_3 a0g_4 a0g_5 a0g_6 a0g_7 a0g_8 a0g_9 a0g_10 a0g_11 a0g_12 a0g_13 a0g_14 a0g_16 a0g_17 a0g_18 a0g_19 a0g_20 a0g_21 a0g_22 a0g_26 a0g_27 a0g_29 a0g_30 a0g_31 a0g_32 a0g_33 a0g_34 a0g_35 a0g_36 a0g_37 a0g_38 a0g_39 : Value) (a0_15 : Nat) (a0_23 : Nat) (a0_24 : Nat) (a0_25 : Int32) (a0_28 : Int32) (ka1 : ClassId) (fa1 : Nat → Int32) (ka0_15 : ClassId) (fa0_15 : Nat → Int32) (ka0_24 : ClassId) (fa0_24 : Nat → Int32) (ka0_23 : ClassId) (fa0_23 : Nat → Int32) (ba2_l : (0 : Int) ≤ a2.toInt) (ba2_u : a2.toInt ≤ (8 : Int)) (bfa1 : ((∀ k : Nat, 0 ≤ k → k ≤ 8 → (0 : Int) ≤ (fa1 k).toInt ∧ (fa1 k).toInt ≤ 8) ∧ (∀ k : Nat, 19 ≤ k → k ≤ 19 → (0 : Int) ≤ (fa1 k).toInt ∧ (fa1 k).toInt ≤ 8) ∧ (∀ k : Nat, 20 ≤ k → k ≤ 20 → (0 : Int) ≤ (fa1 k).toInt ∧ (fa1 k).toInt ≤ 19))) (bfa0_15 : ((∀ k : Nat, 0 ≤ k → k ≤ 0 → (2 : Int) ≤ (fa0_15 k).toInt ∧ (fa0_15 k).toInt ≤ 9) ∧ (∀ k : Nat, 1 ≤ k → k ≤ 1 → (1 : Int) ≤ (fa0_15 k).toInt ∧ (fa0_15 k).toInt ≤ 20) ∧ (∀ k : Nat, 2 ≤ k → k ≤ 2 → (0 : Int) ≤ (fa0_15 k).toInt ∧ (fa0_15 k).toInt ≤ 8) ∧ (∀ k : Nat, 3 ≤ k → k ≤ 3 → (0 : Int) ≤ (fa0_15 k).toInt ∧ (fa0_15 k).toInt ≤ 100) ∧ (∀ k : Nat, 4 ≤ k → k ≤ 4 → (0 : Int) ≤ (fa0_15 k).toInt ∧ (fa0_15 k).toInt ≤ 9) ∧ (∀ k : Nat, 5 ≤ k → k ≤ 5 → (0 : Int) ≤ (fa0_15 k).toInt ∧ (fa0_15 k).toInt ≤ 3) ∧ (∀ k : Nat, 6 ≤ k → k ≤ 6 → (0 : Int) ≤ (fa0_15 k).toInt ∧ (fa0_15 k).toInt ≤ 6) ∧ (∀ k : Nat, 7 ≤ k → k ≤ 9 → (0 : Int) ≤ (fa0_15 k).toInt ∧ (fa0_15 k).toInt ≤ 8) ∧ (∀ k : Nat, 12 ≤ k → k ≤ 29 → (0 : Int) ≤ (fa0_15 k).toInt ∧ (fa0_15 k).toInt ≤ 20) ∧ (∀ k : Nat, 30 ≤ k → k ≤ 35 → (0 : Int) ≤ (fa0_15 k).toInt ∧ (fa0_15 k).toInt ≤ 8) ∧ (∀ k : Nat, 36 ≤ k → k ≤ 47 → (0 : Int) ≤ (fa0_15 k).toInt ∧ (fa0_15 k).toInt ≤ 999))) (bfa0_24 : (∀ k, (0 : Int) ≤ (fa0_24 k).toInt ∧ (fa0_24 k).toInt ≤ 80)) (bfa0_23 : (∀ k, (0 : Int) ≤ (fa0_23 k).toInt ∧ (fa0_23 k).toInt ≤ 80)) : zm l yX8_speakOn wsX8_speakOn ({ frames := 2, cells := 0, slots := 0, locals := 48 }) [.ref a0, .ref a1, .int a2] dC dI sz [(a0, .inr (8, [a0g_0, a0g_1, a0g_2, a0g_3, a0g_4, a0g_5, a0g_6, a0g_7, a0g_8, a0g_9, a0g_10, a0g_11, a0g_12, a0g_13, a0g_14, Value.ref a0_15, a0g_16, a0g_17, a0g_18, a0g_19, a0g_20, a0g_21, a0g_22, Value.ref a0_23, Value.ref a0_24, Value.int a0_25, a0g_26, a0g_27, Value.int a0_28, a0g_29, a0g_30, a0g_31, a0g_32, a0g_33, a0g_34, a0g_35, a0g_36, a0g_37, a0g_38, a0g_39])), (a1, .inl (ka1, 23, .inl (fa1))), (a0_15, .inl (ka0_15, 156, .inl (fa0_15))), (a0_24, .inl (ka0_24, 3, .inl (fa0_24))), (a0_23, .inl (ka0_23, 3, .inl (fa0_23)))] [(ka1, .int), (ka0_15, .int), (ka0_24, .int), (ka0_23, .int)] (fun A _ => True) (fun A => va_Qv (fun (_ : Unit) => True) (fun (_ : Unit) (t : State) => ∃ na0_28 : Int32, ∃ nfa1 : Nat → Int32, ((∀ k : Nat, 0 ≤ k → k ≤ 8 → (0 : Int) ≤ (nfa1 k).toInt ∧ (nfa1 k).toInt ≤ 8) ∧ (∀ k : Nat, 19 ≤ k → k ≤ 19 → (0 : Int) ≤ (nfa1 k).toInt ∧ (nfa1 k).toInt ≤ 8) ∧ (∀ k : Nat, 20 ≤ k → k ≤ 20 → (0 : Int) ≤ (nfa1 k).toInt ∧ (nfa1 k).toInt ≤ 19)) ∧ (Ff_X8_speakOn a2.toInt a0_25.toInt a0_28.toInt (fl_A fa1) (fl_A fa0_15) (fl_A fa0_24) (fl_A fa0_23) = (na0_28.toInt, (fl_A nfa1))) ∧ ax_B dC dI A [(a0, .inr (8, [a0g_0, a0g_1, a0g_2, a0g_3, a0g_4, a0g_5, a0g_6, a0g_7, a0g_8, a0g_9, a0g_10, a0g_11, a0g_12, a0g_13, a0g_14, Value.ref a0_15, a0g_16, a0g_17, a0g_18, a0g_19, a0g_20, a0g_21, a0g_22, Value.ref a0_23, Value.ref a0_24, Value.int a0_25, a0g_26, a0g_27, Value.int na0_28, a0g_29, a0g_30, a0g_31, a0g_32, a0g_33, a0g_34, a0g_35, a0g_36, a0g_37, a0g_38, a0g_39])), (a1, .inl (ka1, 23, .inl (nfa1))), (a0_15, .inl (ka0_15, 156, .inl (fa0_15))), (a0_24, .inl (ka0_24, 3, .inl (fa0_24))), (a0_23, .inl (ka0_23, 3, .inl (fa0_23)))] [(ka1, .int), (ka0_15, .int), (ka0_24, .int), (ka0_23, .int)] t) A) := by
  refine zh (cc := cX8_speakOn) (maxL := 6) (ret := none) zn_RX8 rfl (Nat.le_of_ble_eq_true rfl) (fun p e s m below meth c A ls hx hb hml hr hts (hown : s.vm.findClass RX8 = some m.cls) hlocks hA hS hP hK hD hE (hl : lv_has ls 6 [(0, .ref a0), (1, .ref a1), (2, .int a2)]) => ?_)
  generalize hFX : Ff_X8_speakOn a2.toInt a0_25.toInt a0_28.toInt (fl_A fa1) (fl_A fa0_15) (fl_A fa0_24) (fl_A fa0_23) = FX at ⊢
  have hF0 := hFX.symm.trans (Ff_X8_speakOn.eq_1 a2.toInt a0_25.toInt a0_28.toInt (fl_A fa1) (fl_A fa0_15) (fl_A fa0_24) (fl_A fa0_23))
  refine ai_open (fun K hK0 => ?_)
  refine (hK0 _ _ _).mpr ?_
  refine lv_aload_n hx hb dX8_speakOn_0 rfl (lv_at hl 1 rfl) ?_
  refine lv_bipush (v := 20) hx hb dX8_speakOn_1 zk_bipush_20 ?_
  refine va_iald hx hb hK hP 1 0 rfl rfl (by unfold vp_in; decide +kernel) dX8_speakOn_3 ?_
  refine lv_topi (fun x3 ex3 => ?_)
  have bx3 : (0 : Int) ≤ x3.toInt ∧ x3.toInt ≤ 19 := by rw [ex3]; exact ai_rd bfa1.2.2 zq153 zq154 (by decide) (by decide) (by decide)
  have fqx3 := congrArg Int32.toInt ex3
  have hF0 := hF0.trans (fl_lt_eq (show x3.toInt = (fl_A fa1) (20) from fqx3))
  refine lv_istore_n (lv' := [(3, .int x3), (0, .ref a0), (1, .ref a1), (2, .int a2)]) hx hb dX8_speakOn_4 rfl hl (by decide) rfl (fun ls hl => ?_)
  refine lv_iload_n hx hb dX8_speakOn_5 rfl (lv_at hl 0 rfl) ?_
  refine lv_aload_n hx hb dX8_speakOn_6 rfl (lv_at hl 1 rfl) ?_
  refine va_get (D := (dC, dI)) (ci := 8) (v := .ref a0_15) (C := RX8) (T := TX8) (N := 40) hx hb hts zi_X8_speakOn_8 hown hK hP 0 rfl rfl 15 (by decide) (hts (.fieldLink RX8 20 "WaxTurnsModel" "\x72" "[I") (List.mem_cons_of_mem _ (List.mem_append_left _ (List.mem_of_getElem? (i := 0) rfl)))) (fun _ h9 => h9) rfl dX8_speakOn_7 ?_
  refine lv_bipush (v := 12) hx hb dX8_speakOn_10 zk_bipush_12 ?_
  refine lv_iconst (v := 2) hx hb dX8_speakOn_12 zk_iconst_2 ?_
  refine lv_iload_n hx hb dX8_speakOn_13 rfl (lv_at hl 3 rfl) ?_
  refine lv_imul hx hb dX8_speakOn_14 ?_
  refine lv_topi (fun x14 ex14 => ?_)
  have qx14 : x14.toInt = (2 : Int32).toInt * a2.toInt ∧ (0 : Int) ≤ x14.toInt ∧ x14.toInt ≤ 16 := ai_mul ex14 ⟨zq12, zq13⟩ ⟨ba2_l, ba2_u⟩ (by decide) (by decide) zq155
  have wx14 : x14.toInt = 2 * a2.toInt := qx14.1
  have hF0 := hF0.trans (fl_lt_eq (show x14.toInt = 2 * a2.toInt from qx14.1))
  refine lv_iadd hx hb dX8_speakOn_15 ?_
  refine lv_topi (fun x15 ex15 => ?_)
  have qx15 : x15.toInt = (12 : Int32).toInt + x14.toInt := ai_add ex15 ⟨zq119, zq120⟩ ⟨qx14.2.1, qx14.2.2⟩ (by decide) (by decide)
  have bx15 : (12 : Int) ≤ x15.toInt ∧ x15.toInt ≤ 28 := ⟨by rw [qx15]; exact Int.add_le_add zq119 qx14.2.1, by rw [qx15]; exact Int.add_le_add zq120 qx14.2.2⟩
  have wx15 : x15.toInt = 12 + x14.toInt := qx15
  have hF0 := hF0.trans (fl_lt_eq (show x15.toInt = 12 + x14.toInt from qx15))
  refine lv_iconst (v := 1) hx hb dX8_speakOn_16 zk_iconst_1 ?_
  refine lv_iadd hx hb dX8_speakOn_17 ?_
  refine lv_topi (fun x17 ex17 => ?_)
  have qx17 : x17.toInt = x15.toInt + (1 : Int32).toInt := ai_add ex17 ⟨bx15.1, bx15.2⟩ ⟨zq1, zq0⟩ (by decide) (by decide)
  have bx17 : (13 : Int) ≤ x17.toInt ∧ x17.toInt ≤ 29 := ⟨by rw [qx17]; exact Int.add_le_add bx15.1 zq1, by rw [qx17]; exact Int.add_le_add bx15.2 zq0⟩
  have wx17 : x17.toInt = x15.toInt + 1 := qx17
  have hF0 := hF0.trans (fl_lt_eq (show x17.toInt = x15.toInt + 1 from qx17))
  refine va_iald hx hb hK hP 2 1 rfl rfl (ai_in bx17.1 bx17.2 (by decide) (by decide)) dX8_speakOn_18 ?_
  refine lv_topi (fun x18 ex18 => ?_)
  have bx18 : (0 : Int) ≤ x18.toInt ∧ x18.toInt ≤ 20 := by rw [ex18]; exact ai_rd bfa0_15.2.2.2.2.2.2.2.2.1 bx17.1 bx17.2 (by decide) (by decide) (by decide)
  have fqx18 := congrArg Int32.toInt ex18
  have hF0 := hF0.trans (fl_lt_eq (show x18.toInt = (fl_A fa0_15) (x17.toInt.toNat) from fqx18))
  refine lv_icmp_lt (tgt := 23) hx hb dX8_speakOn_19 (by decide) (fun c19 => ?_) (fun c19 => ?_)
  · have gc19 := ai_lt c19
    have u19t_x3 : x3.toInt ≤ (19 : Int) := bx3.2
    have l19t_x18 : (1 : Int) ≤ x18.toInt := ai_ltlo gc19 bx3.1
    have hF0 := hF0.trans (if_pos (show x3.toInt < x18.toInt from gc19))
    refine lv_aload_n hx hb dX8_speakOn_23 rfl (lv_at hl 1 rfl) ?_
    refine lv_iconst (v := 1) hx hb dX8_speakOn_24 zk_iconst_1 ?_
    refine lv_iload_n hx hb dX8_speakOn_25 rfl (lv_at hl 0 rfl) ?_
    refine lv_ishl hx hb dX8_speakOn_26 ?_
    refine lv_topi (fun x26 ex26 => ?_)
    have fqx26 := fl_shl_eq ex26
    have hF0 := hF0.trans (fl_lt_eq (show x26.toInt = fl_shl 1 x3.toInt from fqx26))
    refine va_put (D := (dC, dI)) (ci := 8) (v := .int x26) (ty := .int) (C := RX8) (T := TX8) (N := 40) hx hb hts zi_X8_speakOn_8 tyX8 tyX8_ok nmX8 hown hK hP hD hS 0 rfl rfl 28 (by decide) (hts (.fieldLink RX8 248 "WaxTurnsModel" "said" "I") (List.mem_cons_of_mem _ (List.mem_append_left _ (List.mem_of_getElem? (i := 1) rfl)))) (fun _ h9 => h9) rfl (tyX8_ok 28 (by decide)) rfl rfl (Nat.le_of_ble_eq_true rfl) dX8_speakOn_27 (fun H locs hP hD hS => ?_)
    refine zs_0 (y := (a0, .inr (8, [a0g_0, a0g_1, a0g_2, a0g_3, a0g_4, a0g_5, a0g_6, a0g_7, a0g_8, a0g_9, a0g_10, a0g_11, a0g_12, a0g_13, a0g_14, Value.ref a0_15, a0g_16, a0g_17, a0g_18, a0g_19, a0g_20, a0g_21, a0g_22, Value.ref a0_23, Value.ref a0_24, Value.int a0_25, a0g_26, a0g_27, Value.int x26, a0g_29, a0g_30, a0g_31, a0g_32, a0g_33, a0g_34, a0g_35, a0g_36, a0g_37, a0g_38, a0g_39]))) hP hD rfl (fun hP hD => ?_)
    refine lv_iconst (v := 0) hx hb dX8_speakOn_30 zk_iconst_0 ?_
    refine lv_istore (lv' := [(4, .int 0), (3, .int x3), (0, .ref a0), (1, .ref a1), (2, .int a2)]) hx hb dX8_speakOn_31 hl (by decide) rfl (fun ls hl => ?_)
    refine lv_aload_n hx hb dX8_speakOn_33 rfl (lv_at hl 3 rfl) ?_
    refine lv_iload_n hx hb dX8_speakOn_34 rfl (lv_at hl 4 rfl) ?_
    refine va_iald hx hb hK hP 1 0 rfl rfl (ai_in ba2_l ba2_u (by decide) (by decide)) dX8_speakOn_35 ?_
    refine lv_topi (fun x35 ex35 => ?_)
    have bx35 : (0 : Int) ≤ x35.toInt ∧ x35.toInt ≤ 8 := by rw [ex35]; exact ai_rd bfa1.1 ba2_l ba2_u (by decide) (by decide) (by decide)
    have fqx35 := congrArg Int32.toInt ex35
    have hF0 := hF0.trans (fl_lt_eq (show x35.toInt = (fl_A fa1) (a2.toInt.toNat) from fqx35))
    refine lv_iconst (v := 1) hx hb dX8_speakOn_36 zk_iconst_1 ?_
    refine lv_isub hx hb dX8_speakOn_37 ?_
    refine lv_topi (fun x37 ex37 => ?_)
    have qx37 : x37.toInt = x35.toInt - (1 : Int32).toInt := ai_sub ex37 ⟨bx35.1, bx35.2⟩ ⟨zq1, zq0⟩ (by decide) (by decide)
    have bx37 : (-1 : Int) ≤ x37.toInt ∧ x37.toInt ≤ 7 := ⟨by rw [qx37]; exact Int.sub_le_sub bx35.1 zq0, by rw [qx37]; exact Int.sub_le_sub bx35.2 zq1⟩
    have wx37 : x37.toInt = x35.toInt - 1 := qx37
    have hF0 := hF0.trans (fl_lt_eq (show x37.toInt = x35.toInt - 1 from qx37))
    refine lv_istore (lv' := [(5, .int x37), (4, .int 0), (3, .int x3), (0, .ref a0), (1, .ref a1), (2, .int a2)]) hx hb dX8_speakOn_38 hl (by decide) rfl (fun ls hl => ?_)
    have J40 : ∀ (n : Nat) (j40l5 : Int32) (j40l4 : Int32) (H : Heap) (locs : List Loc) (ls : Array Slot), (11 : Int) - j40l5.toInt ≤ (n : Int) → (-1 : Int) ≤ j40l5.toInt → j40l5.toInt ≤ (10 : Int) → (0 : Int) ≤ j40l4.toInt → j40l4.toInt ≤ (1 : Int) → (FX = fl_wh (fun t9 => Sf_X8_speakOn_40_1 a2.toInt a0_25.toInt (fl_A fa1) (fl_A fa0_15) (fl_A fa0_24) (fl_A fa0_23) x26.toInt t9.1 t9.2) (0, (fun _ => 0)) n (j40l5.toInt, j40l4.toInt)) → va_P (dC, dI) vwCl [(a0, .inr (8, [a0g_0, a0g_1, a0g_2, a0g_3, a0g_4, a0g_5, a0g_6, a0g_7, a0g_8, a0g_9, a0g_10, a0g_11, a0g_12, a0g_13, a0g_14, Value.ref a0_15, a0g_16, a0g_17, a0g_18, a0g_19, a0g_20, a0g_21, a0g_22, Value.ref a0_23, Value.ref a0_24, Value.int a0_25, a0g_26, a0g_27, Value.int x26, a0g_29, a0g_30, a0g_31, a0g_32, a0g_33, a0g_34, a0g_35, a0g_36, a0g_37, a0g_38, a0g_39])), (a1, .inl (ka1, 23, .inl (fa1))), (a0_15, .inl (ka0_15, 156, .inl (fa0_15))), (a0_24, .inl (ka0_24, 3, .inl (fa0_24))), (a0_23, .inl (ka0_23, 3, .inl (fa0_23)))] H → va_D A [(a0, .inr (8, [a0g_0, a0g_1, a0g_2, a0g_3, a0g_4, a0g_5, a0g_6, a0g_7, a0g_8, a0g_9, a0g_10, a0g_11, a0g_12, a0g_13, a0g_14, Value.ref a0_15, a0g_16, a0g_17, a0g_18, a0g_19, a0g_20, a0g_21, a0g_22, Value.ref a0_23, Value.ref a0_24, Value.int a0_25, a0g_26, a0g_27, Value.int x26, a0g_29, a0g_30, a0g_31, a0g_32, a0g_33, a0g_34, a0g_35, a0g_36, a0g_37, a0g_38, a0g_39])), (a1, .inl (ka1, 23, .inl (fa1))), (a0_15, .inl (ka0_15, 156, .inl (fa0_15))), (a0_24, .inl (ka0_24, 3, .inl (fa0_24))), (a0_23, .inl (ka0_23, 3, .inl (fa0_23)))] → va_S A s.heap H locs → lv_has ls 6 [(0, .ref a0), (1, .ref a1), (2, .int a2), (4, .int j40l4), (5, .int j40l5)] → K H locs (F0 m 40 ls []) := by
      intro n
      induction n with
      | zero =>
        intro j40l5 j40l4 H locs ls hm bj40l5_l bj40l5_u bj40l4_l bj40l4_u hF0 hP hD hS hl
        first | exact zg_0 hm bj40l5_u (by decide) | (have h8 := ai_min j40l5; have h9 := ai_max j40l5; exact absurd hm (by omega))
      | succ n ih40 =>
        intro j40l5 j40l4 H locs ls hm bj40l5_l bj40l5_u bj40l4_l bj40l4_u hF0 hP hD hS hl
        refine (hK0 _ _ _).mpr ?_
        have hm40 := hm
        obtain ⟨SX40, hSX40⟩ : ∃ q9, Sf_X8_speakOn_40_1 a2.toInt a0_25.toInt (fl_A fa1) (fl_A fa0_15) (fl_A fa0_24) (fl_A fa0_23) x26.toInt j40l5.toInt j40l4.toInt = q9 := ⟨_, rfl⟩
        have hF1 := hSX40.symm.trans (Sf_X8_speakOn_40_1.eq_1 a2.toInt a0_25.toInt (fl_A fa1) (fl_A fa0_15) (fl_A fa0_24) (fl_A fa0_23) x26.toInt j40l5.toInt j40l4.toInt)
        refine lv_iload hx hb dX8_speakOn_40 (lv_at hl 4 rfl) ?_
        refine lv_aload_n hx hb dX8_speakOn_42 rfl (lv_at hl 1 rfl) ?_
        refine lv_iload_n hx hb dX8_speakOn_43 rfl (lv_at hl 2 rfl) ?_
        refine va_iald hx hb hK hP 1 0 rfl rfl (ai_in ba2_l ba2_u (by decide) (by decide)) dX8_speakOn_44 ?_
        refine lv_topi (fun x44 ex44 => ?_)
        have bx44 : (0 : Int) ≤ x44.toInt ∧ x44.toInt ≤ 8 := by rw [ex44]; exact ai_rd bfa1.1 ba2_l ba2_u (by decide) (by decide) (by decide)
        have fqx44 := congrArg Int32.toInt ex44
        have hF1 := hF1.trans (fl_lt_eq (show x44.toInt = (fl_A fa1) (a2.toInt.toNat) from fqx44))
        refine lv_iconst (v := 1) hx hb dX8_speakOn_45 zk_iconst_1 ?_
        refine lv_iadd hx hb dX8_speakOn_46 ?_
        refine lv_topi (fun x46 ex46 => ?_)
        have qx46 : x46.toInt = x44.toInt + (1 : Int32).toInt := ai_add ex46 ⟨bx44.1, bx44.2⟩ ⟨zq1, zq0⟩ (by decide) (by decide)
        have bx46 : (1 : Int) ≤ x46.toInt ∧ x46.toInt ≤ 9 := ⟨by rw [qx46]; exact Int.add_le_add bx44.1 zq1, by rw [qx46]; exact Int.add_le_add bx44.2 zq0⟩
        have wx46 : x46.toInt = x44.toInt + 1 := qx46
        have hF1 := hF1.trans (fl_lt_eq (show x46.toInt = x44.toInt + 1 from qx46))
        refine lv_icmp_gt (tgt := 86) hx hb dX8_speakOn_47 (by decide) (fun c47 => ?_) (fun c47 => ?_)
        · have gc47 := ai_lt c47
          have u47t_x46 : x46.toInt ≤ (9 : Int) := bx46.2
          have l47t_j40l5 : (2 : Int) ≤ j40l5.toInt := ai_ltlo gc47 bx46.1
          have hF1 := hF1.trans (if_pos (show x46.toInt < j40l5.toInt from gc47))
          have hF0 := hF0.trans (fl_wh_r (hSX40.trans hF1))
          refine lv_iload hx hb dX8_speakOn_86 (lv_at hl 3 rfl) ?_
          refine lv_if_eq (tgt := 104) hx hb dX8_speakOn_88 (by decide) (fun c88 => ?_) (fun c88 => ?_)
          · have gc88 := ai_eq c88
            have u88t_j40l4 : j40l4.toInt ≤ (0 : Int) := Int.le_trans (Int.le_of_eq gc88) zq6
            have l88t_j40l4 : (0 : Int) ≤ j40l4.toInt := bj40l4_l
            have hF0 := hF0.trans (if_pos (show j40l4.toInt = 0 from gc88))
            have hFe : FX = (x26.toInt, (fl_A fa1)) := hF0
            exact W.vret hx hb hr (fun t ht hW => ⟨⟨(), rfl, trivial, x26, fa1, bfa1, hFe, by rw [ht]; exact hP, va_K.moved hW.alike hK, hD⟩, hS.F ht⟩) hS.2.2 dX8_speakOn_104
          · have gc88 := ai_ne c88
            have l88f_j40l4 : (1 : Int) ≤ j40l4.toInt := (by first | exact zg_l bj40l4_l gc88 (by decide) (by decide) | (have h1 := bj40l4_l; have h2 : (0 : Int32).toInt = 0 := (by decide); rw [h2] at gc88; omega))
            have hF0 := hF0.trans (if_neg (show ¬ (j40l4.toInt = 0) from  gc88))
            refine lv_aload_n hx hb dX8_speakOn_91 rfl (lv_at hl 1 rfl) ?_
            refine lv_bipush (v := 9) hx hb dX8_speakOn_92 zk_bipush_9 ?_
            refine lv_iload_n hx hb dX8_speakOn_94 rfl (lv_at hl 2 rfl) ?_
            refine lv_iadd hx hb dX8_speakOn_95 ?_
            refine lv_topi (fun x95 ex95 => ?_)
            have qx95 : x95.toInt = (9 : Int32).toInt + a2.toInt := ai_add ex95 ⟨zq2, zq3⟩ ⟨ba2_l, ba2_u⟩ (by decide) (by decide)
            have bx95 : (9 : Int) ≤ x95.toInt ∧ x95.toInt ≤ 17 := ⟨by rw [qx95]; exact Int.add_le_add zq2 ba2_l, by rw [qx95]; exact Int.add_le_add zq3 ba2_u⟩
            have wx95 : x95.toInt = 9 + a2.toInt := qx95
            have hF0 := hF0.trans (fl_lt_eq (show x95.toInt = 9 + a2.toInt from qx95))
            refine lv_dup2_11 hx hb dX8_speakOn_96 rfl rfl ?_
            refine va_iald hx hb hK hP 1 0 rfl rfl (ai_in bx95.1 bx95.2 (by decide) (by decide)) dX8_speakOn_97 ?_
            refine lv_topi (fun x97 ex97 => ?_)
            have fqx97 := congrArg Int32.toInt ex97
            have hF0 := hF0.trans (fl_lt_eq (show x97.toInt = (fl_A fa1) (x95.toInt.toNat) from fqx97))
            refine lv_aload_n hx hb dX8_speakOn_98 rfl (lv_at hl 0 rfl) ?_
            refine va_get (D := (dC, dI)) (ci := 8) (v := .int x26) (C := RX8) (T := TX8) (N := 40) hx hb hts zi_X8_speakOn_8 hown hK hP 0 rfl rfl 28 (by decide) (hts (.fieldLink RX8 248 "WaxTurnsModel" "said" "I") (List.mem_cons_of_mem _ (List.mem_append_left _ (List.mem_of_getElem? (i := 1) rfl)))) (fun _ h9 => h9) rfl dX8_speakOn_99 ?_
            refine lv_ior hx hb dX8_speakOn_102 ?_
            refine lv_topi (fun x102 ex102 => ?_)
            have fqx102 := fl_or_eq ex102
            have hF0 := hF0.trans (fl_lt_eq (show x102.toInt = fl_or x97.toInt x26.toInt from fqx102))
            refine va_iast hx hb hK hP hD hS 1 0 rfl rfl (ai_in bx95.1 bx95.2 (by decide) (by decide)) dX8_speakOn_103 (fun H locs hP hD hS => ?_)
            obtain ⟨f103, ef103⟩ : ∃ g9 : Nat → Int32, g9 = upd fa1 (x95 : Int32).toNatClampNeg x102 := ⟨_, rfl⟩
            refine zs_1 (y := (a1, .inl (ka1, 23, .inl (f103)))) hP hD (by rw [ef103]) (fun hP hD => ?_)
            have bf103 : ((∀ k : Nat, 0 ≤ k → k ≤ 8 → (0 : Int) ≤ (f103 k).toInt ∧ (f103 k).toInt ≤ 8) ∧ (∀ k : Nat, 19 ≤ k → k ≤ 19 → (0 : Int) ≤ (f103 k).toInt ∧ (f103 k).toInt ≤ 8) ∧ (∀ k : Nat, 20 ≤ k → k ≤ 20 → (0 : Int) ≤ (f103 k).toInt ∧ (f103 k).toInt ≤ 19)) := by rw [ef103]; exact ⟨ai_updO bfa1.1 _ (Or.inr (ai_ngt_of bx95.1 (by decide) (by decide))), ai_updO bfa1.2.1 _ (Or.inl (ai_nlt_of bx95.1 bx95.2 (by decide) (by decide))), ai_updO bfa1.2.2 _ (Or.inl (ai_nlt_of bx95.1 bx95.2 (by decide) (by decide)))⟩
            have fqf103 := fl_up_eq ef103
            have hF0 := hF0.trans (fl_lt_eq (show (fl_A f103) = fl_up (fl_A fa1) (x95.toInt.toNat) x102.toInt from fqf103))
            have hFe : FX = (x26.toInt, (fl_A f103)) := hF0
            exact W.vret hx hb hr (fun t ht hW => ⟨⟨(), rfl, trivial, x26, f103, bf103, hFe, by rw [ht]; exact hP, va_K.moved hW.alike hK, hD⟩, hS.F ht⟩) hS.2.2 dX8_speakOn_104
        · have gc47 := ai_nlt c47
          have u47f_j40l5 : j40l5.toInt ≤ (9 : Int) := Int.le_trans gc47 bx46.2
          have l47f_x46 : (1 : Int) ≤ x46.toInt := bx46.1
          have hF1 := hF1.trans (if_neg (show ¬ (x46.toInt < j40l5.toInt) from Int.not_lt.mpr gc47))
          refine lv_iload hx hb dX8_speakOn_50 (lv_at hl 3 rfl) ?_
          have J78 : ∀ (j78s0 : Int32) (H : Heap) (locs : List Loc) (ls : Array Slot), (0 : Int) ≤ j78s0.toInt → j78s0.toInt ≤ (1 : Int) → (SX40 = Gf_X8_speakOn_78_1 j40l5.toInt j78s0.toInt) → va_P (dC, dI) vwCl [(a0, .inr (8, [a0g_0, a0g_1, a0g_2, a0g_3, a0g_4, a0g_5, a0g_6, a0g_7, a0g_8, a0g_9, a0g_10, a0g_11, a0g_12, a0g_13, a0g_14, Value.ref a0_15, a0g_16, a0g_17, a0g_18, a0g_19, a0g_20, a0g_21, a0g_22, Value.ref a0_23, Value.ref a0_24, Value.int a0_25, a0g_26, a0g_27, Value.int x26, a0g_29, a0g_30, a0g_31, a0g_32, a0g_33, a0g_34, a0g_35, a0g_36, a0g_37, a0g_38, a0g_39])), (a1, .inl (ka1, 23, .inl (fa1))), (a0_15, .inl (ka0_15, 156, .inl (fa0_15))), (a0_24, .inl (ka0_24, 3, .inl (fa0_24))), (a0_23, .inl (ka0_23, 3, .inl (fa0_23)))] H → va_D A [(a0, .inr (8, [a0g_0, a0g_1, a0g_2, a0g_3, a0g_4, a0g_5, a0g_6, a0g_7, a0g_8, a0g_9, a0g_10, a0g_11, a0g_12, a0g_13, a0g_14, Value.ref a0_15, a0g_16, a0g_17, a0g_18, a0g_19, a0g_20, a0g_21, a0g_22, Value.ref a0_23, Value.ref a0_24, Value.int a0_25, a0g_26, a0g_27, Value.int x26, a0g_29, a0g_30, a0g_31, a0g_32, a0g_33, a0g_34, a0g_35, a0g_36, a0g_37, a0g_38, a0g_39])), (a1, .inl (ka1, 23, .inl (fa1))), (a0_15, .inl (ka0_15, 156, .inl (fa0_15))), (a0_24, .inl (ka0_24, 3, .inl (fa0_24))), (a0_23, .inl (ka0_23, 3, .inl (fa0_23)))] → va_S A s.heap H locs → lv_has ls 6 [(0, .ref a0), (1, .ref a1), (2, .int a2), (5, .int j40l5)] → K H locs (F0 m 78 ls [.int j78s0]) := by
            intro j78s0 H locs ls  bj78s0_l bj78s0_u hF1 hP hD hS hl
            refine (hK0 _ _ _).mpr ?_
            have hF1 := hF1.trans (Gf_X8_speakOn_78_1.eq_1 j40l5.toInt j78s0.toInt)
            refine lv_istore (lv' := [(4, .int j78s0), (0, .ref a0), (1, .ref a1), (2, .int a2), (5, .int j40l5)]) hx hb dX8_speakOn_78 hl (by decide) rfl (fun ls hl => ?_)
            obtain ⟨x80, ex80⟩ : ∃ y : Int32, y = j40l5 + Int32.ofInt 1 := ⟨_, rfl⟩
            have qx80 : x80.toInt = j40l5.toInt + 1 := ai_inc ex80 (by decide) (by decide) u47f_j40l5 (by decide)
            have bx80 : (0 : Int) ≤ x80.toInt ∧ x80.toInt ≤ 10 := ⟨by rw [qx80]; exact Int.add_le_add bj40l5_l (Int.le_refl _), by rw [qx80]; exact Int.add_le_add u47f_j40l5 (Int.le_refl _)⟩
            refine lv_iinc (v := x80) (lv' := [(5, .int x80), (4, .int j78s0), (0, .ref a0), (1, .ref a1), (2, .int a2)]) hx hb dX8_speakOn_80 hl (k := 4) rfl ex80.symm (by decide) rfl (fun ls hl => ?_)
            have hF1 := hF1.trans (fl_lt_eq (show x80.toInt = j40l5.toInt + 1 from qx80))
            refine lv_goto (tgt := 40) hx hb dX8_speakOn_83 (by decide) ?_
            exact (hK0 _ _ _).mp (ih40 x80 j78s0 _ _ _ (by first | exact zg_s hm40 qx80 | (have h0 := qx80; omega)) (Int.le_trans zq69 bx80.1) bx80.2 bj78s0_l bj78s0_u (hF0.trans (fl_wh_l (hSX40.trans hF1))) hP hD hS (lv_sub hl [2, 3, 4, 1, 0] rfl))
          have J73 : ∀ (H : Heap) (locs : List Loc) (ls : Array Slot), (SX40 = Gf_X8_speakOn_73_1 j40l5.toInt) → va_P (dC, dI) vwCl [(a0, .inr (8, [a0g_0, a0g_1, a0g_2, a0g_3, a0g_4, a0g_5, a0g_6, a0g_7, a0g_8, a0g_9, a0g_10, a0g_11, a0g_12, a0g_13, a0g_14, Value.ref a0_15, a0g_16, a0g_17, a0g_18, a0g_19, a0g_20, a0g_21, a0g_22, Value.ref a0_23, Value.ref a0_24, Value.int a0_25, a0g_26, a0g_27, Value.int x26, a0g_29, a0g_30, a0g_31, a0g_32, a0g_33, a0g_34, a0g_35, a0g_36, a0g_37, a0g_38, a0g_39])), (a1, .inl (ka1, 23, .inl (fa1))), (a0_15, .inl (ka0_15, 156, .inl (fa0_15))), (a0_24, .inl (ka0_24, 3, .inl (fa0_24))), (a0_23, .inl (ka0_23, 3, .inl (fa0_23)))] H → va_D A [(a0, .inr (8, [a0g_0, a0g_1, a0g_2, a0g_3, a0g_4, a0g_5, a0g_6, a0g_7, a0g_8, a0g_9, a0g_10, a0g_11, a0g_12, a0g_13, a0g_14, Value.ref a0_15, a0g_16, a0g_17, a0g_18, a0g_19, a0g_20, a0g_21, a0g_22, Value.ref a0_23, Value.ref a0_24, Value.int a0_25, a0g_26, a0g_27, Value.int x26, a0g_29, a0g_30, a0g_31, a0g_32, a0g_33, a0g_34, a0g_35, a0g_36, a0g_37, a0g_38, a0g_39])), (a1, .inl (ka1, 23, .inl (fa1))), (a0_15, .inl (ka0_15, 156, .inl (fa0_15))), (a0_24, .inl (ka0_24, 3, .inl (fa0_24))), (a0_23, .inl (ka0_23, 3, .inl (fa0_23)))] → va_S A s.heap H locs → lv_has ls 6 [(0, .ref a0), (1, .ref a1), (2, .int a2), (5, .int j40l5)] → K H locs (F0 m 73 ls []) := by
            intro  H locs ls  hF1 hP hD hS hl
            refine (hK0 _ _ _).mpr ?_
            have hF1 := hF1.trans (Gf_X8_speakOn_73_1.eq_1 j40l5.toInt)
            refine lv_iconst (v := 1) hx hb dX8_speakOn_73 zk_iconst_1 ?_
            refine lv_goto (tgt := 78) hx hb dX8_speakOn_74 (by decide) ?_
            exact (hK0 _ _ _).mp (J78 1 _ _ _  (Int.le_trans zq4 zq1) zq0 (by rw [show (1 : Int32).toInt = 1 from by decide]; exact hF1) hP hD hS (lv_sub hl [0, 1, 2, 3] rfl))
          refine lv_if_ne (tgt := 73) hx hb dX8_speakOn_52 (by decide) (fun c52 => ?_) (fun c52 => ?_)
          · have gc52 := ai_ne c52
            have l52t_j40l4 : (1 : Int) ≤ j40l4.toInt := (by first | exact zg_l bj40l4_l gc52 (by decide) (by decide) | (have h1 := bj40l4_l; have h2 : (0 : Int32).toInt = 0 := (by decide); rw [h2] at gc52; omega))
            have hF1 := hF1.trans (if_neg (show ¬ (j40l4.toInt = 0) from  gc52))
            exact (hK0 _ _ _).mp (J73  _ _ _   hF1 hP hD hS (lv_sub hl [0, 1, 2, 4] rfl))
          · have gc52 := ai_eq c52
            have u52f_j40l4 : j40l4.toInt ≤ (0 : Int) := Int.le_trans (Int.le_of_eq gc52) zq6
            have l52f_j40l4 : (0 : Int) ≤ j40l4.toInt := bj40l4_l
            have hF1 := hF1.trans (if_pos (show j40l4.toInt = 0 from gc52))
            refine lv_iload hx hb dX8_speakOn_55 (lv_at hl 4 rfl) ?_
            have J77 : ∀ (H : Heap) (locs : List Loc) (ls : Array Slot), (SX40 = Gf_X8_speakOn_77_1 j40l5.toInt) → va_P (dC, dI) vwCl [(a0, .inr (8, [a0g_0, a0g_1, a0g_2, a0g_3, a0g_4, a0g_5, a0g_6, a0g_7, a0g_8, a0g_9, a0g_10, a0g_11, a0g_12, a0g_13, a0g_14, Value.ref a0_15, a0g_16, a0g_17, a0g_18, a0g_19, a0g_20, a0g_21, a0g_22, Value.ref a0_23, Value.ref a0_24, Value.int a0_25, a0g_26, a0g_27, Value.int x26, a0g_29, a0g_30, a0g_31, a0g_32, a0g_33, a0g_34, a0g_35, a0g_36, a0g_37, a0g_38, a0g_39])), (a1, .inl (ka1, 23, .inl (fa1))), (a0_15, .inl (ka0_15, 156, .inl (fa0_15))), (a0_24, .inl (ka0_24, 3, .inl (fa0_24))), (a0_23, .inl (ka0_23, 3, .inl (fa0_23)))] H → va_D A [(a0, .inr (8, [a0g_0, a0g_1, a0g_2, a0g_3, a0g_4, a0g_5, a0g_6, a0g_7, a0g_8, a0g_9, a0g_10, a0g_11, a0g_12, a0g_13, a0g_14, Value.ref a0_15, a0g_16, a0g_17, a0g_18, a0g_19, a0g_20, a0g_21, a0g_22, Value.ref a0_23, Value.ref a0_24, Value.int a0_25, a0g_26, a0g_27, Value.int x26, a0g_29, a0g_30, a0g_31, a0g_32, a0g_33, a0g_34, a0g_35, a0g_36, a0g_37, a0g_38, a0g_39])), (a1, .inl (ka1, 23, .inl (fa1))), (a0_15, .inl (ka0_15, 156, .inl (fa0_15))), (a0_24, .inl (ka0_24, 3, .inl (fa0_24))), (a0_23, .inl (ka0_23, 3, .inl (fa0_23)))] → va_S A s.heap H locs → lv_has ls 6 [(0, .ref a0), (1, .ref a1), (2, .int a2), (5, .int j40l5)] → K H locs (F0 m 77 ls []) := by
              intro  H locs ls  hF1 hP hD hS hl
              refine (hK0 _ _ _).mpr ?_
              have hF1 := hF1.trans (Gf_X8_speakOn_77_1.eq_1 j40l5.toInt)
              refine lv_iconst (v := 0) hx hb dX8_speakOn_77 zk_iconst_0 ?_
              exact (hK0 _ _ _).mp (J78 0 _ _ _  zq5 (Int.le_trans zq6 zq4) (by rw [show (0 : Int32).toInt = 0 from by decide]; exact hF1) hP hD hS (lv_sub hl [0, 1, 2, 3] rfl))
            refine lv_if_lt (tgt := 77) hx hb dX8_speakOn_57 (by decide) (fun c57 => ?_) (fun c57 => ?_)
            · have gc57 := ai_lt c57
              have u57t_j40l5 : j40l5.toInt ≤ (-1 : Int) := ai_lthi gc57 zq6
              have hF1 := hF1.trans (if_pos (show j40l5.toInt < 0 from gc57))
              exact (hK0 _ _ _).mp (J77  _ _ _   hF1 hP hD hS (lv_sub hl [0, 1, 2, 4] rfl))
            · have gc57 := ai_nlt c57
              have l57f_j40l5 : (0 : Int) ≤ j40l5.toInt := Int.le_trans zq5 gc57
              have hF1 := hF1.trans (if_neg (show ¬ (j40l5.toInt < 0) from Int.not_lt.mpr gc57))
              refine lv_aload_n hx hb dX8_speakOn_60 rfl (lv_at hl 0 rfl) ?_
              refine lv_iload hx hb dX8_speakOn_61 (lv_at hl 4 rfl) ?_
              refine lv_aload_n hx hb dX8_speakOn_63 rfl (lv_at hl 1 rfl) ?_
              refine lv_bipush (v := 21) hx hb dX8_speakOn_64 zk_bipush_21 ?_
              refine va_iald hx hb hK hP 1 0 rfl rfl (by unfold vp_in; decide +kernel) dX8_speakOn_66 ?_
              refine lv_topi (fun x66 ex66 => ?_)
              have fqx66 := congrArg Int32.toInt ex66
              have hF1 := hF1.trans (fl_lt_eq (show x66.toInt = (fl_A fa1) (21) from fqx66))
              refine zc_cutc (wc := [(a0, .inr (8, [a0g_0, a0g_1, a0g_2, a0g_3, a0g_4, a0g_5, a0g_6, a0g_7, a0g_8, a0g_9, a0g_10, a0g_11, a0g_12, a0g_13, a0g_14, Value.ref a0_15, a0g_16, a0g_17, a0g_18, a0g_19, a0g_20, a0g_21, a0g_22, Value.ref a0_23, Value.ref a0_24, Value.int a0_25, a0g_26, a0g_27, Value.int x26, a0g_29, a0g_30, a0g_31, a0g_32, a0g_33, a0g_34, a0g_35, a0g_36, a0g_37, a0g_38, a0g_39])), (a0_15, .inl (ka0_15, 156, .inl (fa0_15))), (a0_24, .inl (ka0_24, 3, .inl (fa0_24))), (a0_23, .inl (ka0_23, 3, .inl (fa0_23)))]) hP hD hS hA [0, 2, 3, 4] (by decide +kernel) rfl (fun hPc hDc hFc hCc => ?_)
              have hKc := hK.sub (tys' := [(ka0_15, .int), (ka0_24, .int), (ka0_23, .int)]) [1, 2, 3] rfl
              refine va_calli (va_runV (As := [.int j40l5, .int x66]) (rest := []) ⟨hx, hb, hml, hown, hts⟩ (f_X8_isWatched l dC dI H.size a0 j40l5 x66 a0g_0 a0g_1 a0g_2 a0g_3 a0g_4 a0g_5 a0g_6 a0g_7 a0g_8 a0g_9 a0g_10 a0g_11 a0g_12 a0g_13 a0g_14 a0g_16 a0g_17 a0g_18 a0g_19 a0g_20 a0g_21 a0g_22 a0g_26 a0g_27 (Value.int x26) a0g_29 a0g_30 a0g_31 a0g_32 a0g_33 a0g_34 a0g_35 a0g_36 a0g_37 a0g_38 a0g_39 a0_15 a0_23 a0_24 a0_25 ka0_15 fa0_15 ka0_24 fa0_24 ka0_23 fa0_23 bfa0_15 bfa0_24 bfa0_23) (cwV 2 hts gX8_speakOn_X8_isWatched rfl rfl rfl zd_X8_isWatched ⟨Nat.le_of_ble_eq_true rfl, Nat.le_of_ble_eq_true rfl⟩) ⟨ax_blind (fun _ _ _ _ _ => trivial), zr_8 hKc hPc (q0 := 0) rfl, ax_pre hPc hKc hDc (fun _ _ => trivial)⟩ rfl rfl hl.1 rfl (lv_room (Nat.le_of_ble_eq_true rfl)) dX8_speakOn_67 ⟨Nat.le_of_ble_eq_true rfl, Nat.le_of_ble_eq_true rfl⟩) hS (fun q _ h => hFc q h) hFc (fun r67 u t H locs ht hvm hw hB hz1 hk1 hS1 => zo hB ht hS1 (fun hP1 hK1 hD1 hS => ?_))
              refine zc_backc (w := [(a0, .inr (8, [a0g_0, a0g_1, a0g_2, a0g_3, a0g_4, a0g_5, a0g_6, a0g_7, a0g_8, a0g_9, a0g_10, a0g_11, a0g_12, a0g_13, a0g_14, Value.ref a0_15, a0g_16, a0g_17, a0g_18, a0g_19, a0g_20, a0g_21, a0g_22, Value.ref a0_23, Value.ref a0_24, Value.int a0_25, a0g_26, a0g_27, Value.int x26, a0g_29, a0g_30, a0g_31, a0g_32, a0g_33, a0g_34, a0g_35, a0g_36, a0g_37, a0g_38, a0g_39])), (a1, .inl (ka1, 23, .inl (fa1))), (a0_15, .inl (ka0_15, 156, .inl (fa0_15))), (a0_24, .inl (ka0_24, 3, .inl (fa0_24))), (a0_23, .inl (ka0_23, 3, .inl (fa0_23)))]) hP hD hCc hk1 hFc hP1 hD1 [.inr 0, .inl 1, .inr 1, .inr 2, .inr 3] (by decide +kernel) rfl (fun hP hD => ?_)
              obtain ⟨hw, hfr67⟩ := hw
              have hc67 : Ff_X8_isWatched j40l5.toInt x66.toInt a0_25.toInt (fl_A fa0_15) (fl_A fa0_24) (fl_A fa0_23) = r67.toInt := hfr67.symm
              have hF1 := hF1.trans (fl_lt_eq hc67.symm)
              rcases hw with hw | hw
              · subst hw
                have hF1 := hF1.trans (if_pos (by decide))
                refine lv_if_eq (tgt := 77) hx hb dX8_speakOn_70 (by decide) (fun c70 => absurd c70 (by decide +kernel)) (fun _ => ?_)
                exact (hK0 _ _ _).mp (J73  _ _ _   hF1 hP hD hS (lv_sub hl [0, 1, 2, 4] rfl))
              · subst hw
                have hF1 := hF1.trans (if_neg (by decide))
                refine lv_if_eq (tgt := 77) hx hb dX8_speakOn_70 (by decide) (fun _ => ?_) (fun c70 => absurd (by decide +kernel) c70)
                exact (hK0 _ _ _).mp (J77  _ _ _   hF1 hP hD hS (lv_sub hl [0, 1, 2, 4] rfl))
    exact (hK0 _ _ _).mp (J40 12 x37 0 _ _ _ (by have h1 : (-1 : Int) ≤ x37.toInt := bx37.1; have h2 : x37.toInt ≤ (7 : Int) := bx37.2; omega) bx37.1 (Int.le_trans bx37.2 zq159) zq5 (Int.le_trans zq6 zq4) (by rw [show (0 : Int32).toInt = 0 from by decide]; exact hF0) hP hD hS (lv_sub hl [3, 4, 5, 1, 0] rfl))
  · have gc19 := ai_nlt c19
    have u19f_x18 : x18.toInt ≤ (19 : Int) := Int.le_trans gc19 bx3.2
    have l19f_x3 : (0 : Int) ≤ x3.toInt := bx3.1
    have hF0 := hF0.trans (if_neg (show ¬ (x3.toInt < x18.toInt) from Int.not_lt.mpr gc19))
    have hFe : FX = (a0_28.toInt, (fl_A fa1)) := hF0
    exact W.vret hx hb hr (fun t ht hW => ⟨⟨(), rfl, trivial, a0_28, fa1, bfa1, hFe, by rw [ht]; exact hP, va_K.moved hW.alike hK, hD⟩, hS.F ht⟩) hS.2.2 dX8_speakOn_22

set_option maxHeartbeats 4000000 in
set_option maxRecDepth 100000 in
theorem f_X8_minuteOn (l : Launch) (dC : Nat → ClassId) (dI : Nat → Nat → Nat) (sz : Nat) (a0 : Nat) (a1 : Nat) (a0g_0 a0g_1 a0g_2 a0g_3 a0g_4 a0g_5 a0g_6 a0g_7 a0g_8 a0g_9 a0g_10 a0g_11 a0g_12 a0g_13 a0g_14 a0g_16 a0g_17 a0g_18 a0g_19 a0g_20 a0g_21 a0g_22 a0g_29 a0g_30 a0g_31 a0g_32 a0g_33 a0g_34 a0g_35 a0g_36 a0g_37 a0g_38 a0g_39 : Value) (a0_15 : Nat) (a0_23 : Nat) (a0_24 : Nat) (a0_25 : Int32) (a0_26 : Int32) (a0_27 : Int32) (a0_28 : Int32) (ka1 : ClassId) (fa1 : Nat → Int32) (ka0_15 : ClassId) (fa0_15 : Nat → Int32) (ka0_24 : ClassId) (fa0_24 : Nat → Int32) (ka0_23 : ClassId) (fa0_23 : Nat → Int32) (bfa1 : ((∀ k : Nat, 0 ≤ k → k ≤ 8 → (0 : Int) ≤ (fa1 k).toInt ∧ (fa1 k).toInt ≤ 8) ∧ (∀ k : Nat, 19 ≤ k → k ≤ 19 → (0 : Int) ≤ (fa1 k).toInt ∧ (fa1 k).toInt ≤ 8) ∧ (∀ k : Nat, 20 ≤ k → k ≤ 20 → (0 : Int) ≤ (fa1 k).toInt ∧ (fa1 k).toInt ≤ 19))) (bfa0_15 : ((∀ k : Nat, 0 ≤ k → k ≤ 0 → (2 : Int) ≤ (fa0_15 k).toInt ∧ (fa0_15 k).toInt ≤ 9) ∧ (∀ k : Nat, 1 ≤ k → k ≤ 1 → (1 : Int) ≤ (fa0_15 k).toInt ∧ (fa0_15 k).toInt ≤ 20) ∧ (∀ k : Nat, 2 ≤ k → k ≤ 2 → (0 : Int) ≤ (fa0_15 k).toInt ∧ (fa0_15 k).toInt ≤ 8) ∧ (∀ k : Nat, 3 ≤ k → k ≤ 3 → (0 : Int) ≤ (fa0_15 k).toInt ∧ (fa0_15 k).toInt ≤ 100) ∧ (∀ k : Nat, 4 ≤ k → k ≤ 4 → (0 : Int) ≤ (fa0_15 k).toInt ∧ (fa0_15 k).toInt ≤ 9) ∧ (∀ k : Nat, 5 ≤ k → k ≤ 5 → (0 : Int) ≤ (fa0_15 k).toInt ∧ (fa0_15 k).toInt ≤ 3) ∧ (∀ k : Nat, 6 ≤ k → k ≤ 6 → (0 : Int) ≤ (fa0_15 k).toInt ∧ (fa0_15 k).toInt ≤ 6) ∧ (∀ k : Nat, 7 ≤ k → k ≤ 9 → (0 : Int) ≤ (fa0_15 k).toInt ∧ (fa0_15 k).toInt ≤ 8) ∧ (∀ k : Nat, 12 ≤ k → k ≤ 29 → (0 : Int) ≤ (fa0_15 k).toInt ∧ (fa0_15 k).toInt ≤ 20) ∧ (∀ k : Nat, 30 ≤ k → k ≤ 35 → (0 : Int) ≤ (fa0_15 k).toInt ∧ (fa0_15 k).toInt ≤ 8) ∧ (∀ k : Nat, 36 ≤ k → k ≤ 47 → (0 : Int) ≤ (fa0_15 k).toInt ∧ (fa0_15 k).toInt ≤ 999))) (bfa0_24 : (∀ k, (0 : Int) ≤ (fa0_24 k).toInt ∧ (fa0_24 k).toInt ≤ 80)) (bfa0_23 : (∀ k, (0 : Int) ≤ (fa0_23 k).toInt ∧ (fa0_23 k).toInt ≤ 80)) (hkm : ∀ (j i0 i : Int32), (0 : Int) ≤ j.toInt → j.toInt ≤ 8 → i0.toInt = 12 + 2 * j.toInt → i.toInt = 13 + 2 * j.toInt → (fa0_15 i0.toNatClampNeg).toInt = (1 : Int32).toInt → (1 : Int) ≤ (fa0_15 i.toNatClampNeg).toInt) : zm l yX8_minuteOn wsX8_minuteOn ({ frames := 3, cells := 0, slots := 0, locals := 73 }) [.ref a0, .ref a1] dC dI sz [(a0, .inr (8, [a0g_0, a0g_1, a0g_2, a0g_3, a0g_4, a0g_5, a0g_6, a0g_7, a0g_8, a0g_9, a0g_10, a0g_11, a0g_12, a0g_13, a0g_14, Value.ref a0_15, a0g_16, a0g_17, a0g_18, a0g_19, a0g_20, a0g_21, a0g_22, Value.ref a0_23, Value.ref a0_24, Value.int a0_25, Value.int a0_26, Value.int a0_27, Value.int a0_28, a0g_29, a0g_30, a0g_31, a0g_32, a0g_33, a0g_34, a0g_35, a0g_36, a0g_37, a0g_38, a0g_39])), (a1, .inl (ka1, 23, .inl (fa1))), (a0_15, .inl (ka0_15, 156, .inl (fa0_15))), (a0_24, .inl (ka0_24, 3, .inl (fa0_24))), (a0_23, .inl (ka0_23, 3, .inl (fa0_23)))] [(ka1, .int), (ka0_15, .int), (ka0_24, .int), (ka0_23, .int)] (fun A _ => True) (fun A => va_Qv (fun (_ : Unit) => True) (fun (_ : Unit) (t : State) => ∃ na0_26 : Int32, ∃ na0_27 : Int32, ∃ na0_28 : Int32, ∃ nfa1 : Nat → Int32, ((∀ k : Nat, 0 ≤ k → k ≤ 8 → (0 : Int) ≤ (nfa1 k).toInt ∧ (nfa1 k).toInt ≤ 8) ∧ (∀ k : Nat, 19 ≤ k → k ≤ 19 → (0 : Int) ≤ (nfa1 k).toInt ∧ (nfa1 k).toInt ≤ 8) ∧ (∀ k : Nat, 20 ≤ k → k ≤ 20 → (0 : Int) ≤ (nfa1 k).toInt ∧ (nfa1 k).toInt ≤ 19)) ∧ (Ff_X8_minuteOn a0_25.toInt (fl_A fa1) (fl_A fa0_15) (fl_A fa0_24) (fl_A fa0_23) = (na0_26.toInt, na0_27.toInt, na0_28.toInt, (fl_A nfa1))) ∧ ax_B dC dI A [(a0, .inr (8, [a0g_0, a0g_1, a0g_2, a0g_3, a0g_4, a0g_5, a0g_6, a0g_7, a0g_8, a0g_9, a0g_10, a0g_11, a0g_12, a0g_13, a0g_14, Value.ref a0_15, a0g_16, a0g_17, a0g_18, a0g_19, a0g_20, a0g_21, a0g_22, Value.ref a0_23, Value.ref a0_24, Value.int a0_25, Value.int na0_26, Value.int na0_27, Value.int na0_28, a0g_29, a0g_30, a0g_31, a0g_32, a0g_33, a0g_34, a0g_35, a0g_36, a0g_37, a0g_38, a0g_39])), (a1, .inl (ka1, 23, .inl (nfa1))), (a0_15, .inl (ka0_15, 156, .inl (fa0_15))), (a0_24, .inl (ka0_24, 3, .inl (fa0_24))), (a0_23, .inl (ka0_23, 3, .inl (fa0_23)))] [(ka1, .int), (ka0_15, .int), (ka0_24, .int), (ka0_23, .int)] t) A) := by
  refine zh (cc := cX8_minuteOn) (maxL := 3) (ret := none) zn_RX8 rfl (Nat.le_of_ble_eq_true rfl) (fun p e s m below meth c A ls hx hb hml hr hts (hown : s.vm.findClass RX8 = some m.cls) hlocks hA hS hP hK hD hE (hl : lv_has ls 3 [(0, .ref a0), (1, .ref a1)]) => ?_)
  generalize hFX : Ff_X8_minuteOn a0_25.toInt (fl_A fa1) (fl_A fa0_15) (fl_A fa0_24) (fl_A fa0_23) = FX at ⊢
  have hF0 := hFX.symm.trans (Ff_X8_minuteOn.eq_1 a0_25.toInt (fl_A fa1) (fl_A fa0_15) (fl_A fa0_24) (fl_A fa0_23))
  refine lv_aload_n hx hb dX8_minuteOn_0 rfl (lv_at hl 1 rfl) ?_
  refine lv_bipush (v := 19) hx hb dX8_minuteOn_1 zk_bipush_19 ?_
  refine va_iald hx hb hK hP 1 0 rfl rfl (by unfold vp_in; decide +kernel) dX8_minuteOn_3 ?_
  refine lv_topi (fun x3 ex3 => ?_)
  have bx3 : (0 : Int) ≤ x3.toInt ∧ x3.toInt ≤ 8 := by rw [ex3]; exact ai_rd bfa1.2.1 zq160 zq161 (by decide) (by decide) (by decide)
  have fqx3 := congrArg Int32.toInt ex3
  have hF0 := hF0.trans (fl_lt_eq (show x3.toInt = (fl_A fa1) (19) from fqx3))
  refine lv_istore_n (lv' := [(2, .int x3), (0, .ref a0), (1, .ref a1)]) hx hb dX8_minuteOn_4 rfl hl (by decide) rfl (fun ls hl => ?_)
  refine lv_aload_n hx hb dX8_minuteOn_5 rfl (lv_at hl 1 rfl) ?_
  refine lv_iconst (v := 0) hx hb dX8_minuteOn_6 zk_iconst_0 ?_
  refine va_put (D := (dC, dI)) (ci := 8) (v := .int 0) (ty := .int) (C := RX8) (T := TX8) (N := 40) hx hb hts zi_X8_minuteOn_8 tyX8 tyX8_ok nmX8 hown hK hP hD hS 0 rfl rfl 28 (by decide) (hts (.fieldLink RX8 248 "WaxTurnsModel" "said" "I") (zm_X8_minuteOn_r1 (List.mem_of_getElem? (i := 0) rfl))) (fun _ h9 => h9) rfl (tyX8_ok 28 (by decide)) rfl rfl (Nat.le_of_ble_eq_true rfl) dX8_minuteOn_7 (fun H locs hP hD hS => ?_)
  refine zs_0 (y := (a0, .inr (8, [a0g_0, a0g_1, a0g_2, a0g_3, a0g_4, a0g_5, a0g_6, a0g_7, a0g_8, a0g_9, a0g_10, a0g_11, a0g_12, a0g_13, a0g_14, Value.ref a0_15, a0g_16, a0g_17, a0g_18, a0g_19, a0g_20, a0g_21, a0g_22, Value.ref a0_23, Value.ref a0_24, Value.int a0_25, Value.int a0_26, Value.int a0_27, Value.int 0, a0g_29, a0g_30, a0g_31, a0g_32, a0g_33, a0g_34, a0g_35, a0g_36, a0g_37, a0g_38, a0g_39]))) hP hD rfl (fun hP hD => ?_)
  refine lv_aload_n hx hb dX8_minuteOn_10 rfl (lv_at hl 2 rfl) ?_
  refine lv_bipush (v := 18) hx hb dX8_minuteOn_11 zk_bipush_18 ?_
  refine va_iald hx hb hK hP 1 0 rfl rfl (by unfold vp_in; decide +kernel) dX8_minuteOn_13 ?_
  refine lv_topi (fun x13 ex13 => ?_)
  have fqx13 := congrArg Int32.toInt ex13
  have hF0 := hF0.trans (fl_lt_eq (show x13.toInt = (fl_A fa1) (18) from fqx13))
  refine lv_iload_n hx hb dX8_minuteOn_14 rfl (lv_at hl 0 rfl) ?_
  refine va_calli (va_runS (As := [.int x13, .int x3]) (rest := []) ⟨hx, hb, hml, hown, hts⟩ (f_X8_hasBit l dC dI H.size x13 x3 ) (va_cwS 2 hts gX8_minuteOn_X8_hasBit rfl rfl rfl zd_X8_hasBit.2 ⟨Nat.le_of_ble_eq_true rfl, Nat.le_of_ble_eq_true rfl⟩) ⟨ax_blind (fun _ _ _ _ _ => trivial), ax_pre (zp_P0 hP) (zp_K hK) (zp_D0 hD) (fun _ _ => trivial)⟩ rfl rfl hl.1 rfl (lv_room (Nat.le_of_ble_eq_true rfl)) dX8_minuteOn_15 ⟨Nat.le_of_ble_eq_true rfl, Nat.le_of_ble_eq_true rfl⟩) hS (fun q _ h => zp_F0 hD hS hA q h) (zp_F0 hD hS hA) (fun r15 u t H locs ht hvm hw hB hz1 hk1 hS1 => zo0 hB ht hP hD hk1 (zp_F0 hD hS hA) hS1 (fun hP hK1 hD hS => ?_))
  obtain ⟨hw, hfr15⟩ := hw
  have hc15 : Ff_X8_hasBit x13.toInt x3.toInt = r15.toInt := hfr15.symm
  have hF0 := hF0.trans (fl_lt_eq hc15.symm)
  rcases hw with hw | hw
  · subst hw
    have hF0 := hF0.trans (if_pos (by decide))
    refine lv_if_ne (tgt := 66) hx hb dX8_minuteOn_18 (by decide) (fun _ => ?_) (fun c18 => absurd c18 (by decide +kernel))
    refine lv_aload_n hx hb dX8_minuteOn_66 rfl (lv_at hl 1 rfl) ?_
    refine lv_iload_n hx hb dX8_minuteOn_67 rfl (lv_at hl 0 rfl) ?_
    refine va_put (D := (dC, dI)) (ci := 8) (v := .int x3) (ty := .int) (C := RX8) (T := TX8) (N := 40) hx hb hts zi_X8_minuteOn_8 tyX8 tyX8_ok nmX8 hown hK hP hD hS 0 rfl rfl 26 (by decide) (hts (.fieldLink RX8 258 "WaxTurnsModel" "lived" "I") (zm_X8_minuteOn_r1 (List.mem_of_getElem? (i := 2) rfl))) (fun _ h9 => h9) rfl (tyX8_ok 26 (by decide)) rfl rfl (Nat.le_of_ble_eq_true rfl) dX8_minuteOn_68 (fun H locs hP hD hS => ?_)
    refine zs_0 (y := (a0, .inr (8, [a0g_0, a0g_1, a0g_2, a0g_3, a0g_4, a0g_5, a0g_6, a0g_7, a0g_8, a0g_9, a0g_10, a0g_11, a0g_12, a0g_13, a0g_14, Value.ref a0_15, a0g_16, a0g_17, a0g_18, a0g_19, a0g_20, a0g_21, a0g_22, Value.ref a0_23, Value.ref a0_24, Value.int a0_25, Value.int x3, Value.int a0_27, Value.int 0, a0g_29, a0g_30, a0g_31, a0g_32, a0g_33, a0g_34, a0g_35, a0g_36, a0g_37, a0g_38, a0g_39]))) hP hD rfl (fun hP hD => ?_)
    refine lv_aload_n hx hb dX8_minuteOn_71 rfl (lv_at hl 1 rfl) ?_
    refine lv_aload_n hx hb dX8_minuteOn_72 rfl (lv_at hl 2 rfl) ?_
    refine lv_bipush (v := 18) hx hb dX8_minuteOn_73 zk_bipush_18 ?_
    refine va_iald hx hb hK hP 1 0 rfl rfl (by unfold vp_in; decide +kernel) dX8_minuteOn_75 ?_
    refine ax_ti x13 ex13.symm ?_
    refine lv_iload_n hx hb dX8_minuteOn_76 rfl (lv_at hl 0 rfl) ?_
    refine va_calli (va_runS (As := [.int x13, .int x3]) (rest := [.ref a0]) ⟨hx, hb, hml, hown, hts⟩ (f_X8_hasBit l dC dI H.size x13 x3 ) (va_cwS 2 hts gX8_minuteOn_X8_hasBit rfl rfl rfl zd_X8_hasBit.2 ⟨Nat.le_of_ble_eq_true rfl, Nat.le_of_ble_eq_true rfl⟩) ⟨ax_blind (fun _ _ _ _ _ => trivial), ax_pre (zp_P0 hP) (zp_K hK) (zp_D0 hD) (fun _ _ => trivial)⟩ rfl rfl hl.1 rfl (lv_room (Nat.le_of_ble_eq_true rfl)) dX8_minuteOn_77 ⟨Nat.le_of_ble_eq_true rfl, Nat.le_of_ble_eq_true rfl⟩) hS (fun q _ h => zp_F0 hD hS hA q h) (zp_F0 hD hS hA) (fun r77 u t H locs ht hvm hw hB hz1 hk1 hS1 => zo0 hB ht hP hD hk1 (zp_F0 hD hS hA) hS1 (fun hP hK1 hD hS => ?_))
    obtain ⟨hw, hfr77⟩ := hw
    have hc77 : Ff_X8_hasBit x13.toInt x3.toInt = r77.toInt := hfr77.symm
    have hF0 := hF0.trans (fl_lt_eq hc77.symm)
    rcases hw with hw | hw
    · subst hw
      have hF0 := hF0.trans (if_pos (by decide))
      refine lv_if_eq (tgt := 87) hx hb dX8_minuteOn_80 (by decide) (fun c80 => absurd c80 (by decide +kernel)) (fun _ => ?_)
      refine lv_iconst (v := (-1)) hx hb dX8_minuteOn_83 zk_iconst_n1 ?_
      refine lv_goto (tgt := 90) hx hb dX8_minuteOn_84 (by decide) ?_
      refine va_put (D := (dC, dI)) (ci := 8) (v := .int (-1)) (ty := .int) (C := RX8) (T := TX8) (N := 40) hx hb hts zi_X8_minuteOn_8 tyX8 tyX8_ok nmX8 hown hK hP hD hS 0 rfl rfl 27 (by decide) (hts (.fieldLink RX8 261 "WaxTurnsModel" "livedAt" "I") (zm_X8_minuteOn_r1 (List.mem_of_getElem? (i := 3) rfl))) (fun _ h9 => h9) rfl (tyX8_ok 27 (by decide)) rfl rfl (Nat.le_of_ble_eq_true rfl) dX8_minuteOn_90 (fun H locs hP hD hS => ?_)
      refine zs_0 (y := (a0, .inr (8, [a0g_0, a0g_1, a0g_2, a0g_3, a0g_4, a0g_5, a0g_6, a0g_7, a0g_8, a0g_9, a0g_10, a0g_11, a0g_12, a0g_13, a0g_14, Value.ref a0_15, a0g_16, a0g_17, a0g_18, a0g_19, a0g_20, a0g_21, a0g_22, Value.ref a0_23, Value.ref a0_24, Value.int a0_25, Value.int x3, Value.int (-1), Value.int 0, a0g_29, a0g_30, a0g_31, a0g_32, a0g_33, a0g_34, a0g_35, a0g_36, a0g_37, a0g_38, a0g_39]))) hP hD rfl (fun hP hD => ?_)
      refine lv_aload_n hx hb dX8_minuteOn_93 rfl (lv_at hl 2 rfl) ?_
      refine lv_bipush (v := 21) hx hb dX8_minuteOn_94 zk_bipush_21 ?_
      refine lv_dup2_11 hx hb dX8_minuteOn_96 rfl rfl ?_
      refine va_iald hx hb hK hP 1 0 rfl rfl (by unfold vp_in; decide +kernel) dX8_minuteOn_97 ?_
      refine lv_topi (fun x97 ex97 => ?_)
      have fqx97 := congrArg Int32.toInt ex97
      have hF0 := hF0.trans (fl_lt_eq (show x97.toInt = (fl_A fa1) (21) from fqx97))
      refine lv_iconst (v := 1) hx hb dX8_minuteOn_98 zk_iconst_1 ?_
      refine lv_iadd hx hb dX8_minuteOn_99 ?_
      refine lv_topi (fun x99 ex99 => ?_)
      have fqx99 := fl_iadd_eq ex99
      have hF0 := hF0.trans (fl_lt_eq (show x99.toInt = fl_iadd x97.toInt 1 from fqx99))
      refine va_iast hx hb hK hP hD hS 1 0 rfl rfl (by unfold vp_in; decide +kernel) dX8_minuteOn_100 (fun H locs hP hD hS => ?_)
      obtain ⟨f100, ef100⟩ : ∃ g9 : Nat → Int32, g9 = upd fa1 (21 : Int32).toNatClampNeg x99 := ⟨_, rfl⟩
      refine zs_1 (y := (a1, .inl (ka1, 23, .inl (f100)))) hP hD (by rw [ef100]) (fun hP hD => ?_)
      have bf100 : ((∀ k : Nat, 0 ≤ k → k ≤ 8 → (0 : Int) ≤ (f100 k).toInt ∧ (f100 k).toInt ≤ 8) ∧ (∀ k : Nat, 19 ≤ k → k ≤ 19 → (0 : Int) ≤ (f100 k).toInt ∧ (f100 k).toInt ≤ 8) ∧ (∀ k : Nat, 20 ≤ k → k ≤ 20 → (0 : Int) ≤ (f100 k).toInt ∧ (f100 k).toInt ≤ 19)) := by rw [ef100]; exact ⟨ai_updO bfa1.1 _ (Or.inr (ai_ngt_of zq162 (by decide) (by decide))), ai_updO bfa1.2.1 _ (Or.inr (ai_ngt_of zq162 (by decide) (by decide))), ai_updO bfa1.2.2 _ (Or.inr (ai_ngt_of zq162 (by decide) (by decide)))⟩
      have kf100_21 : f100 21 = x99 := by rw [ef100]; exact ai_k1 (by decide +kernel)
      have fqf100 := fl_up_eq ef100
      have hF0 := hF0.trans (fl_lt_eq (show (fl_A f100) = fl_up (fl_A fa1) (21) x99.toInt from fqf100))
      refine lv_aload_n hx hb dX8_minuteOn_101 rfl (lv_at hl 2 rfl) ?_
      refine lv_bipush (v := 20) hx hb dX8_minuteOn_102 zk_bipush_20 ?_
      refine lv_dup2_11 hx hb dX8_minuteOn_104 rfl rfl ?_
      refine va_iald hx hb hK hP 1 0 rfl rfl (by unfold vp_in; decide +kernel) dX8_minuteOn_105 ?_
      refine lv_topi (fun x105 ex105 => ?_)
      have bx105 : (0 : Int) ≤ x105.toInt ∧ x105.toInt ≤ 19 := by rw [ex105]; exact ai_rd bf100.2.2 zq153 zq154 (by decide) (by decide) (by decide)
      have fqx105 := congrArg Int32.toInt ex105
      have hF0 := hF0.trans (fl_lt_eq (show x105.toInt = (fl_A f100) (20) from fqx105))
      refine lv_iconst (v := 1) hx hb dX8_minuteOn_106 zk_iconst_1 ?_
      refine lv_iadd hx hb dX8_minuteOn_107 ?_
      refine lv_topi (fun x107 ex107 => ?_)
      have qx107 : x107.toInt = x105.toInt + (1 : Int32).toInt := ai_add ex107 ⟨bx105.1, bx105.2⟩ ⟨zq1, zq0⟩ (by decide) (by decide)
      have bx107 : (1 : Int) ≤ x107.toInt ∧ x107.toInt ≤ 20 := ⟨by rw [qx107]; exact Int.add_le_add bx105.1 zq1, by rw [qx107]; exact Int.add_le_add bx105.2 zq0⟩
      have wx107 : x107.toInt = x105.toInt + 1 := qx107
      have hF0 := hF0.trans (fl_lt_eq (show x107.toInt = x105.toInt + 1 from qx107))
      refine va_iast hx hb hK hP hD hS 1 0 rfl rfl (by unfold vp_in; decide +kernel) dX8_minuteOn_108 (fun H locs hP hD hS => ?_)
      obtain ⟨f108, ef108⟩ : ∃ g9 : Nat → Int32, g9 = upd f100 (20 : Int32).toNatClampNeg x107 := ⟨_, rfl⟩
      refine zs_1 (y := (a1, .inl (ka1, 23, .inl (f108)))) hP hD (by rw [ef108]) (fun hP hD => ?_)
      have bf108 : ((∀ k : Nat, 0 ≤ k → k ≤ 8 → (0 : Int) ≤ (f108 k).toInt ∧ (f108 k).toInt ≤ 8) ∧ (∀ k : Nat, 19 ≤ k → k ≤ 19 → (0 : Int) ≤ (f108 k).toInt ∧ (f108 k).toInt ≤ 8) ∧ True) := by rw [ef108]; exact ⟨ai_updO bf100.1 _ (Or.inr (ai_ngt_of zq153 (by decide) (by decide))), ai_updO bf100.2.1 _ (Or.inr (ai_ngt_of zq153 (by decide) (by decide))), trivial⟩
      have kf108_20 : f108 20 = x107 := by rw [ef108]; exact ai_k1 (by decide +kernel)
      have kf108_21 : f108 21 = x99 := by rw [ef108]; exact ai_k2 (by decide +kernel) kf100_21
      have fqf108 := fl_up_eq ef108
      have hF0 := hF0.trans (fl_lt_eq (show (fl_A f108) = fl_up (fl_A f100) (20) x107.toInt from fqf108))
      refine lv_aload_n hx hb dX8_minuteOn_109 rfl (lv_at hl 2 rfl) ?_
      refine lv_bipush (v := 20) hx hb dX8_minuteOn_110 zk_bipush_20 ?_
      refine va_iald hx hb hK hP 1 0 rfl rfl (by unfold vp_in; decide +kernel) dX8_minuteOn_112 ?_
      refine ax_ti x107 ((congrArg f108 (by decide +kernel : (20 : Int32).toNatClampNeg = 20)).trans kf108_20) ?_
      refine lv_aload_n hx hb dX8_minuteOn_113 rfl (lv_at hl 1 rfl) ?_
      refine va_get (D := (dC, dI)) (ci := 8) (v := .ref a0_15) (C := RX8) (T := TX8) (N := 40) hx hb hts zi_X8_minuteOn_8 hown hK hP 0 rfl rfl 15 (by decide) (hts (.fieldLink RX8 20 "WaxTurnsModel" "\x72" "[I") (zm_X8_minuteOn_r1 (List.mem_of_getElem? (i := 1) rfl))) (fun _ h9 => h9) rfl dX8_minuteOn_114 ?_
      refine lv_iconst (v := 1) hx hb dX8_minuteOn_117 zk_iconst_1 ?_
      refine va_iald hx hb hK hP 2 1 rfl rfl (by unfold vp_in; decide +kernel) dX8_minuteOn_118 ?_
      refine lv_topi (fun x118 ex118 => ?_)
      have bx118 : (1 : Int) ≤ x118.toInt ∧ x118.toInt ≤ 20 := by rw [ex118]; exact ai_rd bfa0_15.2.1 zq1 zq0 (by decide) (by decide) (by decide)
      have fqx118 := congrArg Int32.toInt ex118
      have hF0 := hF0.trans (fl_lt_eq (show x118.toInt = (fl_A fa0_15) (1) from fqx118))
      refine lv_icmp_ge (tgt := 123) hx hb dX8_minuteOn_119 (by decide) (fun c119 => ?_) (fun c119 => ?_)
      · have gc119 := ai_le c119
        have u119t_x118 : x118.toInt ≤ (20 : Int) := bx118.2
        have l119t_x107 : (1 : Int) ≤ x107.toInt := bx107.1
        have hF0 := hF0.trans (if_pos (show x118.toInt ≤ x107.toInt from gc119))
        refine lv_aload_n hx hb dX8_minuteOn_123 rfl (lv_at hl 2 rfl) ?_
        refine lv_bipush (v := 20) hx hb dX8_minuteOn_124 zk_bipush_20 ?_
        refine lv_iconst (v := 0) hx hb dX8_minuteOn_126 zk_iconst_0 ?_
        refine va_iast hx hb hK hP hD hS 1 0 rfl rfl (by unfold vp_in; decide +kernel) dX8_minuteOn_127 (fun H locs hP hD hS => ?_)
        obtain ⟨f127, ef127⟩ : ∃ g9 : Nat → Int32, g9 = upd f108 (20 : Int32).toNatClampNeg (0 : Int32) := ⟨_, rfl⟩
        refine zs_1 (y := (a1, .inl (ka1, 23, .inl (f127)))) hP hD (by rw [ef127]) (fun hP hD => ?_)
        have bf127 : ((∀ k : Nat, 0 ≤ k → k ≤ 8 → (0 : Int) ≤ (f127 k).toInt ∧ (f127 k).toInt ≤ 8) ∧ (∀ k : Nat, 19 ≤ k → k ≤ 19 → (0 : Int) ≤ (f127 k).toInt ∧ (f127 k).toInt ≤ 8) ∧ (∀ k : Nat, 20 ≤ k → k ≤ 20 → (0 : Int) ≤ (f127 k).toInt ∧ (f127 k).toInt ≤ 19)) := by rw [ef127]; exact ⟨ai_updO bf108.1 _ (Or.inr (ai_ngt_of zq153 (by decide) (by decide))), ai_updO bf108.2.1 _ (Or.inr (ai_ngt_of zq153 (by decide) (by decide))), ai_new (by decide +kernel) ⟨zq5, (Int.le_trans zq6 zq163)⟩⟩
        have kf127_20 : f127 20 = 0 := by rw [ef127]; exact ai_k1 (by decide +kernel)
        have kf127_21 : f127 21 = x99 := by rw [ef127]; exact ai_k2 (by decide +kernel) kf108_21
        have fqf127 := fl_up_eq ef127
        have hF0 := hF0.trans (fl_lt_eq (show (fl_A f127) = fl_up (fl_A f108) (20) 0 from fqf127))
        refine lv_aload_n hx hb dX8_minuteOn_128 rfl (lv_at hl 2 rfl) ?_
        refine lv_bipush (v := 19) hx hb dX8_minuteOn_129 zk_bipush_19 ?_
        refine lv_aload_n hx hb dX8_minuteOn_131 rfl (lv_at hl 1 rfl) ?_
        refine lv_iload_n hx hb dX8_minuteOn_132 rfl (lv_at hl 0 rfl) ?_
        refine zc_cutc (wc := [(a0, .inr (8, [a0g_0, a0g_1, a0g_2, a0g_3, a0g_4, a0g_5, a0g_6, a0g_7, a0g_8, a0g_9, a0g_10, a0g_11, a0g_12, a0g_13, a0g_14, Value.ref a0_15, a0g_16, a0g_17, a0g_18, a0g_19, a0g_20, a0g_21, a0g_22, Value.ref a0_23, Value.ref a0_24, Value.int a0_25, Value.int x3, Value.int (-1), Value.int 0, a0g_29, a0g_30, a0g_31, a0g_32, a0g_33, a0g_34, a0g_35, a0g_36, a0g_37, a0g_38, a0g_39])), (a0_15, .inl (ka0_15, 156, .inl (fa0_15)))]) hP hD hS hA [0, 2] (by decide +kernel) rfl (fun hPc hDc hFc hCc => ?_)
        have hKc := hK.sub (tys' := [(ka0_15, .int)]) [1] rfl
        refine va_calli (va_runV (As := [.int x3]) (rest := [.int 19, .ref a1]) ⟨hx, hb, hml, hown, hts⟩ (f_X8_nextOf l dC dI H.size a0 x3 a0g_0 a0g_1 a0g_2 a0g_3 a0g_4 a0g_5 a0g_6 a0g_7 a0g_8 a0g_9 a0g_10 a0g_11 a0g_12 a0g_13 a0g_14 a0g_16 a0g_17 a0g_18 a0g_19 a0g_20 a0g_21 a0g_22 (Value.ref a0_23) (Value.ref a0_24) (Value.int a0_25) (Value.int x3) (Value.int (-1)) (Value.int 0) a0g_29 a0g_30 a0g_31 a0g_32 a0g_33 a0g_34 a0g_35 a0g_36 a0g_37 a0g_38 a0g_39 a0_15 ka0_15 fa0_15 bx3.1 bx3.2 bfa0_15) (cwV 1 hts gX8_minuteOn_X8_nextOf rfl rfl rfl zd_X8_nextOf ⟨Nat.le_of_ble_eq_true rfl, Nat.le_of_ble_eq_true rfl⟩) ⟨ax_blind (fun _ _ _ _ _ => trivial), zr_8 hKc hPc (q0 := 0) rfl, ax_pre hPc hKc hDc (fun _ _ => trivial)⟩ rfl rfl hl.1 rfl (lv_room (Nat.le_of_ble_eq_true rfl)) dX8_minuteOn_133 ⟨Nat.le_of_ble_eq_true rfl, Nat.le_of_ble_eq_true rfl⟩) hS (fun q _ h => hFc q h) hFc (fun r133 u t H locs ht hvm hw hB hz1 hk1 hS1 => zo hB ht hS1 (fun hP1 hK1 hD1 hS => ?_))
        refine zc_backc (w := [(a0, .inr (8, [a0g_0, a0g_1, a0g_2, a0g_3, a0g_4, a0g_5, a0g_6, a0g_7, a0g_8, a0g_9, a0g_10, a0g_11, a0g_12, a0g_13, a0g_14, Value.ref a0_15, a0g_16, a0g_17, a0g_18, a0g_19, a0g_20, a0g_21, a0g_22, Value.ref a0_23, Value.ref a0_24, Value.int a0_25, Value.int x3, Value.int (-1), Value.int 0, a0g_29, a0g_30, a0g_31, a0g_32, a0g_33, a0g_34, a0g_35, a0g_36, a0g_37, a0g_38, a0g_39])), (a1, .inl (ka1, 23, .inl (f127))), (a0_15, .inl (ka0_15, 156, .inl (fa0_15))), (a0_24, .inl (ka0_24, 3, .inl (fa0_24))), (a0_23, .inl (ka0_23, 3, .inl (fa0_23)))]) hP hD hCc hk1 hFc hP1 hD1 [.inr 0, .inl 1, .inr 1, .inl 3, .inl 4] (by decide +kernel) rfl (fun hP hD => ?_)
        obtain ⟨hw, hfr133⟩ := hw
        have hc133 : Ff_X8_nextOf x3.toInt (fl_A fa0_15) = r133.toInt := hfr133.symm
        have hF0 := hF0.trans (fl_lt_eq hc133.symm)
        have hw : (0 : Int) ≤ r133.toInt ∧ r133.toInt ≤ (8 : Int) := hw
        obtain ⟨h133_0, h133_1⟩ := hw
        refine va_iast hx hb hK hP hD hS 1 0 rfl rfl (by unfold vp_in; decide +kernel) dX8_minuteOn_136 (fun H locs hP hD hS => ?_)
        obtain ⟨f136, ef136⟩ : ∃ g9 : Nat → Int32, g9 = upd f127 (19 : Int32).toNatClampNeg r133 := ⟨_, rfl⟩
        refine zs_1 (y := (a1, .inl (ka1, 23, .inl (f136)))) hP hD (by rw [ef136]) (fun hP hD => ?_)
        have bf136 : ((∀ k : Nat, 0 ≤ k → k ≤ 8 → (0 : Int) ≤ (f136 k).toInt ∧ (f136 k).toInt ≤ 8) ∧ (∀ k : Nat, 19 ≤ k → k ≤ 19 → (0 : Int) ≤ (f136 k).toInt ∧ (f136 k).toInt ≤ 8) ∧ (∀ k : Nat, 20 ≤ k → k ≤ 20 → (0 : Int) ≤ (f136 k).toInt ∧ (f136 k).toInt ≤ 19)) := by rw [ef136]; exact ⟨ai_updO bf127.1 _ (Or.inr (ai_ngt_of zq160 (by decide) (by decide))), ai_updS bf127.2.1 _ ⟨h133_0, h133_1⟩, ai_updO bf127.2.2 _ (Or.inl (ai_nlt_of zq160 zq161 (by decide) (by decide)))⟩
        have kf136_19 : f136 19 = r133 := by rw [ef136]; exact ai_k1 (by decide +kernel)
        have kf136_20 : f136 20 = 0 := by rw [ef136]; exact ai_k2 (by decide +kernel) kf127_20
        have kf136_21 : f136 21 = x99 := by rw [ef136]; exact ai_k2 (by decide +kernel) kf127_21
        have fqf136 := fl_up_eq ef136
        have hF0 := hF0.trans (fl_lt_eq (show (fl_A f136) = fl_up (fl_A f127) (19) r133.toInt from fqf136))
        have hFe : FX = (x3.toInt, (-1), 0, (fl_A f136)) := hF0
        exact W.vret hx hb hr (fun t ht hW => ⟨⟨(), rfl, trivial, x3, (-1), 0, f136, bf136, hFe, by rw [ht]; exact hP, va_K.moved hW.alike hK, hD⟩, hS.F ht⟩) hS.2.2 dX8_minuteOn_137
      · have gc119 := ai_nle c119
        have u119f_x107 : x107.toInt ≤ (19 : Int) := ai_lthi gc119 bx118.2
        have u119f_x105 : x105.toInt ≤ (18 : Int) := by have h1 := wx107; have h2 := u119f_x107; omega
        have l119f_x118 : (2 : Int) ≤ x118.toInt := ai_ltlo gc119 bx107.1
        have hF0 := hF0.trans (if_neg (show ¬ (x118.toInt ≤ x107.toInt) from Int.not_le.mpr gc119))
        have hFe : FX = (x3.toInt, (-1), 0, (fl_A f108)) := hF0
        exact W.vret hx hb hr (fun t ht hW => ⟨⟨(), rfl, trivial, x3, (-1), 0, f108, ⟨bf108.1, bf108.2.1, ai_one (by rw [kf108_20]; exact ⟨(Int.le_trans zq4 bx107.1), u119f_x107⟩)⟩, hFe, by rw [ht]; exact hP, va_K.moved hW.alike hK, hD⟩, hS.F ht⟩) hS.2.2 dX8_minuteOn_122
    · subst hw
      have hF0 := hF0.trans (if_neg (by decide))
      refine lv_if_eq (tgt := 87) hx hb dX8_minuteOn_80 (by decide) (fun _ => ?_) (fun c80 => absurd (by decide +kernel) c80)
      refine lv_aload_n hx hb dX8_minuteOn_87 rfl (lv_at hl 2 rfl) ?_
      refine lv_iload_n hx hb dX8_minuteOn_88 rfl (lv_at hl 0 rfl) ?_
      refine va_iald hx hb hK hP 1 0 rfl rfl (ai_in bx3.1 bx3.2 (by decide) (by decide)) dX8_minuteOn_89 ?_
      refine lv_topi (fun x89 ex89 => ?_)
      have bx89 : (0 : Int) ≤ x89.toInt ∧ x89.toInt ≤ 8 := by rw [ex89]; exact ai_rd bfa1.1 bx3.1 bx3.2 (by decide) (by decide) (by decide)
      have fqx89 := congrArg Int32.toInt ex89
      have hF0 := hF0.trans (fl_lt_eq (show x89.toInt = (fl_A fa1) (x3.toInt.toNat) from fqx89))
      refine va_put (D := (dC, dI)) (ci := 8) (v := .int x89) (ty := .int) (C := RX8) (T := TX8) (N := 40) hx hb hts zi_X8_minuteOn_8 tyX8 tyX8_ok nmX8 hown hK hP hD hS 0 rfl rfl 27 (by decide) (hts (.fieldLink RX8 261 "WaxTurnsModel" "livedAt" "I") (zm_X8_minuteOn_r1 (List.mem_of_getElem? (i := 3) rfl))) (fun _ h9 => h9) rfl (tyX8_ok 27 (by decide)) rfl rfl (Nat.le_of_ble_eq_true rfl) dX8_minuteOn_90 (fun H locs hP hD hS => ?_)
      refine zs_0 (y := (a0, .inr (8, [a0g_0, a0g_1, a0g_2, a0g_3, a0g_4, a0g_5, a0g_6, a0g_7, a0g_8, a0g_9, a0g_10, a0g_11, a0g_12, a0g_13, a0g_14, Value.ref a0_15, a0g_16, a0g_17, a0g_18, a0g_19, a0g_20, a0g_21, a0g_22, Value.ref a0_23, Value.ref a0_24, Value.int a0_25, Value.int x3, Value.int x89, Value.int 0, a0g_29, a0g_30, a0g_31, a0g_32, a0g_33, a0g_34, a0g_35, a0g_36, a0g_37, a0g_38, a0g_39]))) hP hD rfl (fun hP hD => ?_)
      refine lv_aload_n hx hb dX8_minuteOn_93 rfl (lv_at hl 2 rfl) ?_
      refine lv_bipush (v := 21) hx hb dX8_minuteOn_94 zk_bipush_21 ?_
      refine lv_dup2_11 hx hb dX8_minuteOn_96 rfl rfl ?_
      refine va_iald hx hb hK hP 1 0 rfl rfl (by unfold vp_in; decide +kernel) dX8_minuteOn_97 ?_
      refine lv_topi (fun x97 ex97 => ?_)
      have fqx97 := congrArg Int32.toInt ex97
      have hF0 := hF0.trans (fl_lt_eq (show x97.toInt = (fl_A fa1) (21) from fqx97))
      refine lv_iconst (v := 1) hx hb dX8_minuteOn_98 zk_iconst_1 ?_
      refine lv_iadd hx hb dX8_minuteOn_99 ?_
      refine lv_topi (fun x99 ex99 => ?_)
      have fqx99 := fl_iadd_eq ex99
      have hF0 := hF0.trans (fl_lt_eq (show x99.toInt = fl_iadd x97.toInt 1 from fqx99))
      refine va_iast hx hb hK hP hD hS 1 0 rfl rfl (by unfold vp_in; decide +kernel) dX8_minuteOn_100 (fun H locs hP hD hS => ?_)
      obtain ⟨f100, ef100⟩ : ∃ g9 : Nat → Int32, g9 = upd fa1 (21 : Int32).toNatClampNeg x99 := ⟨_, rfl⟩
      refine zs_1 (y := (a1, .inl (ka1, 23, .inl (f100)))) hP hD (by rw [ef100]) (fun hP hD => ?_)
      have bf100 : ((∀ k : Nat, 0 ≤ k → k ≤ 8 → (0 : Int) ≤ (f100 k).toInt ∧ (f100 k).toInt ≤ 8) ∧ (∀ k : Nat, 19 ≤ k → k ≤ 19 → (0 : Int) ≤ (f100 k).toInt ∧ (f100 k).toInt ≤ 8) ∧ (∀ k : Nat, 20 ≤ k → k ≤ 20 → (0 : Int) ≤ (f100 k).toInt ∧ (f100 k).toInt ≤ 19)) := by rw [ef100]; exact ⟨ai_updO bfa1.1 _ (Or.inr (ai_ngt_of zq162 (by decide) (by decide))), ai_updO bfa1.2.1 _ (Or.inr (ai_ngt_of zq162 (by decide) (by decide))), ai_updO bfa1.2.2 _ (Or.inr (ai_ngt_of zq162 (by decide) (by decide)))⟩
      have kf100_21 : f100 21 = x99 := by rw [ef100]; exact ai_k1 (by decide +kernel)
      have fqf100 := fl_up_eq ef100
      have hF0 := hF0.trans (fl_lt_eq (show (fl_A f100) = fl_up (fl_A fa1) (21) x99.toInt from fqf100))
      refine lv_aload_n hx hb dX8_minuteOn_101 rfl (lv_at hl 2 rfl) ?_
      refine lv_bipush (v := 20) hx hb dX8_minuteOn_102 zk_bipush_20 ?_
      refine lv_dup2_11 hx hb dX8_minuteOn_104 rfl rfl ?_
      refine va_iald hx hb hK hP 1 0 rfl rfl (by unfold vp_in; decide +kernel) dX8_minuteOn_105 ?_
      refine lv_topi (fun x105 ex105 => ?_)
      have bx105 : (0 : Int) ≤ x105.toInt ∧ x105.toInt ≤ 19 := by rw [ex105]; exact ai_rd bf100.2.2 zq153 zq154 (by decide) (by decide) (by decide)
      have fqx105 := congrArg Int32.toInt ex105
      have hF0 := hF0.trans (fl_lt_eq (show x105.toInt = (fl_A f100) (20) from fqx105))
      refine lv_iconst (v := 1) hx hb dX8_minuteOn_106 zk_iconst_1 ?_
      refine lv_iadd hx hb dX8_minuteOn_107 ?_
      refine lv_topi (fun x107 ex107 => ?_)
      have qx107 : x107.toInt = x105.toInt + (1 : Int32).toInt := ai_add ex107 ⟨bx105.1, bx105.2⟩ ⟨zq1, zq0⟩ (by decide) (by decide)
      have bx107 : (1 : Int) ≤ x107.toInt ∧ x107.toInt ≤ 20 := ⟨by rw [qx107]; exact Int.add_le_add bx105.1 zq1, by rw [qx107]; exact Int.add_le_add bx105.2 zq0⟩
      have wx107 : x107.toInt = x105.toInt + 1 := qx107
      have hF0 := hF0.trans (fl_lt_eq (show x107.toInt = x105.toInt + 1 from qx107))
      refine va_iast hx hb hK hP hD hS 1 0 rfl rfl (by unfold vp_in; decide +kernel) dX8_minuteOn_108 (fun H locs hP hD hS => ?_)
      obtain ⟨f108, ef108⟩ : ∃ g9 : Nat → Int32, g9 = upd f100 (20 : Int32).toNatClampNeg x107 := ⟨_, rfl⟩
      refine zs_1 (y := (a1, .inl (ka1, 23, .inl (f108)))) hP hD (by rw [ef108]) (fun hP hD => ?_)
      have bf108 : ((∀ k : Nat, 0 ≤ k → k ≤ 8 → (0 : Int) ≤ (f108 k).toInt ∧ (f108 k).toInt ≤ 8) ∧ (∀ k : Nat, 19 ≤ k → k ≤ 19 → (0 : Int) ≤ (f108 k).toInt ∧ (f108 k).toInt ≤ 8) ∧ True) := by rw [ef108]; exact ⟨ai_updO bf100.1 _ (Or.inr (ai_ngt_of zq153 (by decide) (by decide))), ai_updO bf100.2.1 _ (Or.inr (ai_ngt_of zq153 (by decide) (by decide))), trivial⟩
      have kf108_20 : f108 20 = x107 := by rw [ef108]; exact ai_k1 (by decide +kernel)
      have kf108_21 : f108 21 = x99 := by rw [ef108]; exact ai_k2 (by decide +kernel) kf100_21
      have fqf108 := fl_up_eq ef108
      have hF0 := hF0.trans (fl_lt_eq (show (fl_A f108) = fl_up (fl_A f100) (20) x107.toInt from fqf108))
      refine lv_aload_n hx hb dX8_minuteOn_109 rfl (lv_at hl 2 rfl) ?_
      refine lv_bipush (v := 20) hx hb dX8_minuteOn_110 zk_bipush_20 ?_
      refine va_iald hx hb hK hP 1 0 rfl rfl (by unfold vp_in; decide +kernel) dX8_minuteOn_112 ?_
      refine ax_ti x107 ((congrArg f108 (by decide +kernel : (20 : Int32).toNatClampNeg = 20)).trans kf108_20) ?_
      refine lv_aload_n hx hb dX8_minuteOn_113 rfl (lv_at hl 1 rfl) ?_
      refine va_get (D := (dC, dI)) (ci := 8) (v := .ref a0_15) (C := RX8) (T := TX8) (N := 40) hx hb hts zi_X8_minuteOn_8 hown hK hP 0 rfl rfl 15 (by decide) (hts (.fieldLink RX8 20 "WaxTurnsModel" "\x72" "[I") (zm_X8_minuteOn_r1 (List.mem_of_getElem? (i := 1) rfl))) (fun _ h9 => h9) rfl dX8_minuteOn_114 ?_
      refine lv_iconst (v := 1) hx hb dX8_minuteOn_117 zk_iconst_1 ?_
      refine va_iald hx hb hK hP 2 1 rfl rfl (by unfold vp_in; decide +kernel) dX8_minuteOn_118 ?_
      refine lv_topi (fun x118 ex118 => ?_)
      have bx118 : (1 : Int) ≤ x118.toInt ∧ x118.toInt ≤ 20 := by rw [ex118]; exact ai_rd bfa0_15.2.1 zq1 zq0 (by decide) (by decide) (by decide)
      have fqx118 := congrArg Int32.toInt ex118
      have hF0 := hF0.trans (fl_lt_eq (show x118.toInt = (fl_A fa0_15) (1) from fqx118))
      refine lv_icmp_ge (tgt := 123) hx hb dX8_minuteOn_119 (by decide) (fun c119 => ?_) (fun c119 => ?_)
      · have gc119 := ai_le c119
        have u119t_x118 : x118.toInt ≤ (20 : Int) := bx118.2
        have l119t_x107 : (1 : Int) ≤ x107.toInt := bx107.1
        have hF0 := hF0.trans (if_pos (show x118.toInt ≤ x107.toInt from gc119))
        refine lv_aload_n hx hb dX8_minuteOn_123 rfl (lv_at hl 2 rfl) ?_
        refine lv_bipush (v := 20) hx hb dX8_minuteOn_124 zk_bipush_20 ?_
        refine lv_iconst (v := 0) hx hb dX8_minuteOn_126 zk_iconst_0 ?_
        refine va_iast hx hb hK hP hD hS 1 0 rfl rfl (by unfold vp_in; decide +kernel) dX8_minuteOn_127 (fun H locs hP hD hS => ?_)
        obtain ⟨f127, ef127⟩ : ∃ g9 : Nat → Int32, g9 = upd f108 (20 : Int32).toNatClampNeg (0 : Int32) := ⟨_, rfl⟩
        refine zs_1 (y := (a1, .inl (ka1, 23, .inl (f127)))) hP hD (by rw [ef127]) (fun hP hD => ?_)
        have bf127 : ((∀ k : Nat, 0 ≤ k → k ≤ 8 → (0 : Int) ≤ (f127 k).toInt ∧ (f127 k).toInt ≤ 8) ∧ (∀ k : Nat, 19 ≤ k → k ≤ 19 → (0 : Int) ≤ (f127 k).toInt ∧ (f127 k).toInt ≤ 8) ∧ (∀ k : Nat, 20 ≤ k → k ≤ 20 → (0 : Int) ≤ (f127 k).toInt ∧ (f127 k).toInt ≤ 19)) := by rw [ef127]; exact ⟨ai_updO bf108.1 _ (Or.inr (ai_ngt_of zq153 (by decide) (by decide))), ai_updO bf108.2.1 _ (Or.inr (ai_ngt_of zq153 (by decide) (by decide))), ai_new (by decide +kernel) ⟨zq5, (Int.le_trans zq6 zq163)⟩⟩
        have kf127_20 : f127 20 = 0 := by rw [ef127]; exact ai_k1 (by decide +kernel)
        have kf127_21 : f127 21 = x99 := by rw [ef127]; exact ai_k2 (by decide +kernel) kf108_21
        have fqf127 := fl_up_eq ef127
        have hF0 := hF0.trans (fl_lt_eq (show (fl_A f127) = fl_up (fl_A f108) (20) 0 from fqf127))
        refine lv_aload_n hx hb dX8_minuteOn_128 rfl (lv_at hl 2 rfl) ?_
        refine lv_bipush (v := 19) hx hb dX8_minuteOn_129 zk_bipush_19 ?_
        refine lv_aload_n hx hb dX8_minuteOn_131 rfl (lv_at hl 1 rfl) ?_
        refine lv_iload_n hx hb dX8_minuteOn_132 rfl (lv_at hl 0 rfl) ?_
        refine zc_cutc (wc := [(a0, .inr (8, [a0g_0, a0g_1, a0g_2, a0g_3, a0g_4, a0g_5, a0g_6, a0g_7, a0g_8, a0g_9, a0g_10, a0g_11, a0g_12, a0g_13, a0g_14, Value.ref a0_15, a0g_16, a0g_17, a0g_18, a0g_19, a0g_20, a0g_21, a0g_22, Value.ref a0_23, Value.ref a0_24, Value.int a0_25, Value.int x3, Value.int x89, Value.int 0, a0g_29, a0g_30, a0g_31, a0g_32, a0g_33, a0g_34, a0g_35, a0g_36, a0g_37, a0g_38, a0g_39])), (a0_15, .inl (ka0_15, 156, .inl (fa0_15)))]) hP hD hS hA [0, 2] (by decide +kernel) rfl (fun hPc hDc hFc hCc => ?_)
        have hKc := hK.sub (tys' := [(ka0_15, .int)]) [1] rfl
        refine va_calli (va_runV (As := [.int x3]) (rest := [.int 19, .ref a1]) ⟨hx, hb, hml, hown, hts⟩ (f_X8_nextOf l dC dI H.size a0 x3 a0g_0 a0g_1 a0g_2 a0g_3 a0g_4 a0g_5 a0g_6 a0g_7 a0g_8 a0g_9 a0g_10 a0g_11 a0g_12 a0g_13 a0g_14 a0g_16 a0g_17 a0g_18 a0g_19 a0g_20 a0g_21 a0g_22 (Value.ref a0_23) (Value.ref a0_24) (Value.int a0_25) (Value.int x3) (Value.int x89) (Value.int 0) a0g_29 a0g_30 a0g_31 a0g_32 a0g_33 a0g_34 a0g_35 a0g_36 a0g_37 a0g_38 a0g_39 a0_15 ka0_15 fa0_15 bx3.1 bx3.2 bfa0_15) (cwV 1 hts gX8_minuteOn_X8_nextOf rfl rfl rfl zd_X8_nextOf ⟨Nat.le_of_ble_eq_true rfl, Nat.le_of_ble_eq_true rfl⟩) ⟨ax_blind (fun _ _ _ _ _ => trivial), zr_8 hKc hPc (q0 := 0) rfl, ax_pre hPc hKc hDc (fun _ _ => trivial)⟩ rfl rfl hl.1 rfl (lv_room (Nat.le_of_ble_eq_true rfl)) dX8_minuteOn_133 ⟨Nat.le_of_ble_eq_true rfl, Nat.le_of_ble_eq_true rfl⟩) hS (fun q _ h => hFc q h) hFc (fun r133 u t H locs ht hvm hw hB hz1 hk1 hS1 => zo hB ht hS1 (fun hP1 hK1 hD1 hS => ?_))
        refine zc_backc (w := [(a0, .inr (8, [a0g_0, a0g_1, a0g_2, a0g_3, a0g_4, a0g_5, a0g_6, a0g_7, a0g_8, a0g_9, a0g_10, a0g_11, a0g_12, a0g_13, a0g_14, Value.ref a0_15, a0g_16, a0g_17, a0g_18, a0g_19, a0g_20, a0g_21, a0g_22, Value.ref a0_23, Value.ref a0_24, Value.int a0_25, Value.int x3, Value.int x89, Value.int 0, a0g_29, a0g_30, a0g_31, a0g_32, a0g_33, a0g_34, a0g_35, a0g_36, a0g_37, a0g_38, a0g_39])), (a1, .inl (ka1, 23, .inl (f127))), (a0_15, .inl (ka0_15, 156, .inl (fa0_15))), (a0_24, .inl (ka0_24, 3, .inl (fa0_24))), (a0_23, .inl (ka0_23, 3, .inl (fa0_23)))]) hP hD hCc hk1 hFc hP1 hD1 [.inr 0, .inl 1, .inr 1, .inl 3, .inl 4] (by decide +kernel) rfl (fun hP hD => ?_)
        obtain ⟨hw, hfr133⟩ := hw
        have hc133 : Ff_X8_nextOf x3.toInt (fl_A fa0_15) = r133.toInt := hfr133.symm
        have hF0 := hF0.trans (fl_lt_eq hc133.symm)
        have hw : (0 : Int) ≤ r133.toInt ∧ r133.toInt ≤ (8 : Int) := hw
        obtain ⟨h133_0, h133_1⟩ := hw
        refine va_iast hx hb hK hP hD hS 1 0 rfl rfl (by unfold vp_in; decide +kernel) dX8_minuteOn_136 (fun H locs hP hD hS => ?_)
        obtain ⟨f136, ef136⟩ : ∃ g9 : Nat → Int32, g9 = upd f127 (19 : Int32).toNatClampNeg r133 := ⟨_, rfl⟩
        refine zs_1 (y := (a1, .inl (ka1, 23, .inl (f136)))) hP hD (by rw [ef136]) (fun hP hD => ?_)
        have bf136 : ((∀ k : Nat, 0 ≤ k → k ≤ 8 → (0 : Int) ≤ (f136 k).toInt ∧ (f136 k).toInt ≤ 8) ∧ (∀ k : Nat, 19 ≤ k → k ≤ 19 → (0 : Int) ≤ (f136 k).toInt ∧ (f136 k).toInt ≤ 8) ∧ (∀ k : Nat, 20 ≤ k → k ≤ 20 → (0 : Int) ≤ (f136 k).toInt ∧ (f136 k).toInt ≤ 19)) := by rw [ef136]; exact ⟨ai_updO bf127.1 _ (Or.inr (ai_ngt_of zq160 (by decide) (by decide))), ai_updS bf127.2.1 _ ⟨h133_0, h133_1⟩, ai_updO bf127.2.2 _ (Or.inl (ai_nlt_of zq160 zq161 (by decide) (by decide)))⟩
        have kf136_19 : f136 19 = r133 := by rw [ef136]; exact ai_k1 (by decide +kernel)
        have kf136_20 : f136 20 = 0 := by rw [ef136]; exact ai_k2 (by decide +kernel) kf127_20
        have kf136_21 : f136 21 = x99 := by rw [ef136]; exact ai_k2 (by decide +kernel) kf127_21
        have fqf136 := fl_up_eq ef136
        have hF0 := hF0.trans (fl_lt_eq (show (fl_A f136) = fl_up (fl_A f127) (19) r133.toInt from fqf136))
        have hFe : FX = (x3.toInt, x89.toInt, 0, (fl_A f136)) := hF0
        exact W.vret hx hb hr (fun t ht hW => ⟨⟨(), rfl, trivial, x3, x89, 0, f136, bf136, hFe, by rw [ht]; exact hP, va_K.moved hW.alike hK, hD⟩, hS.F ht⟩) hS.2.2 dX8_minuteOn_137
      · have gc119 := ai_nle c119
        have u119f_x107 : x107.toInt ≤ (19 : Int) := ai_lthi gc119 bx118.2
        have u119f_x105 : x105.toInt ≤ (18 : Int) := by have h1 := wx107; have h2 := u119f_x107; omega
        have l119f_x118 : (2 : Int) ≤ x118.toInt := ai_ltlo gc119 bx107.1
        have hF0 := hF0.trans (if_neg (show ¬ (x118.toInt ≤ x107.toInt) from Int.not_le.mpr gc119))
        have hFe : FX = (x3.toInt, x89.toInt, 0, (fl_A f108)) := hF0
        exact W.vret hx hb hr (fun t ht hW => ⟨⟨(), rfl, trivial, x3, x89, 0, f108, ⟨bf108.1, bf108.2.1, ai_one (by rw [kf108_20]; exact ⟨(Int.le_trans zq4 bx107.1), u119f_x107⟩)⟩, hFe, by rw [ht]; exact hP, va_K.moved hW.alike hK, hD⟩, hS.F ht⟩) hS.2.2 dX8_minuteOn_122
  · subst hw
    have hF0 := hF0.trans (if_neg (by decide))
    refine lv_if_ne (tgt := 66) hx hb dX8_minuteOn_18 (by decide) (fun c18 => absurd (by decide +kernel) c18) (fun _ => ?_)
    refine lv_aload_n hx hb dX8_minuteOn_21 rfl (lv_at hl 1 rfl) ?_
    refine va_get (D := (dC, dI)) (ci := 8) (v := .ref a0_15) (C := RX8) (T := TX8) (N := 40) hx hb hts zi_X8_minuteOn_8 hown hK hP 0 rfl rfl 15 (by decide) (hts (.fieldLink RX8 20 "WaxTurnsModel" "\x72" "[I") (zm_X8_minuteOn_r1 (List.mem_of_getElem? (i := 1) rfl))) (fun _ h9 => h9) rfl dX8_minuteOn_22 ?_
    refine lv_bipush (v := 12) hx hb dX8_minuteOn_25 zk_bipush_12 ?_
    refine lv_iconst (v := 2) hx hb dX8_minuteOn_27 zk_iconst_2 ?_
    refine lv_iload_n hx hb dX8_minuteOn_28 rfl (lv_at hl 0 rfl) ?_
    refine lv_imul hx hb dX8_minuteOn_29 ?_
    refine lv_topi (fun x29 ex29 => ?_)
    have qx29 : x29.toInt = (2 : Int32).toInt * x3.toInt ∧ (0 : Int) ≤ x29.toInt ∧ x29.toInt ≤ 16 := ai_mul ex29 ⟨zq12, zq13⟩ ⟨bx3.1, bx3.2⟩ (by decide) (by decide) zq155
    have wx29 : x29.toInt = 2 * x3.toInt := qx29.1
    have hF0 := hF0.trans (fl_lt_eq (show x29.toInt = 2 * x3.toInt from qx29.1))
    refine lv_iadd hx hb dX8_minuteOn_30 ?_
    refine lv_topi (fun x30 ex30 => ?_)
    have qx30 : x30.toInt = (12 : Int32).toInt + x29.toInt := ai_add ex30 ⟨zq119, zq120⟩ ⟨qx29.2.1, qx29.2.2⟩ (by decide) (by decide)
    have bx30 : (12 : Int) ≤ x30.toInt ∧ x30.toInt ≤ 28 := ⟨by rw [qx30]; exact Int.add_le_add zq119 qx29.2.1, by rw [qx30]; exact Int.add_le_add zq120 qx29.2.2⟩
    have wx30 : x30.toInt = 12 + x29.toInt := qx30
    have hF0 := hF0.trans (fl_lt_eq (show x30.toInt = 12 + x29.toInt from qx30))
    refine va_iald hx hb hK hP 2 1 rfl rfl (ai_in bx30.1 bx30.2 (by decide) (by decide)) dX8_minuteOn_31 ?_
    refine lv_topi (fun x31 ex31 => ?_)
    have bx31 : (0 : Int) ≤ x31.toInt ∧ x31.toInt ≤ 20 := by rw [ex31]; exact ai_rd bfa0_15.2.2.2.2.2.2.2.2.1 bx30.1 bx30.2 (by decide) (by decide) (by decide)
    have fqx31 := congrArg Int32.toInt ex31
    have hF0 := hF0.trans (fl_lt_eq (show x31.toInt = (fl_A fa0_15) (x30.toInt.toNat) from fqx31))
    refine lv_iconst (v := 1) hx hb dX8_minuteOn_32 zk_iconst_1 ?_
    refine lv_icmp_ne (tgt := 45) hx hb dX8_minuteOn_33 (by decide) (fun c33 => ?_) (fun c33 => ?_)
    · have gc33 := ai_ne c33
      have hF0 := hF0.trans (if_neg (show ¬ (x31.toInt = 1) from  gc33))
      refine lv_aload_n hx hb dX8_minuteOn_45 rfl (lv_at hl 1 rfl) ?_
      refine va_get (D := (dC, dI)) (ci := 8) (v := .ref a0_15) (C := RX8) (T := TX8) (N := 40) hx hb hts zi_X8_minuteOn_8 hown hK hP 0 rfl rfl 15 (by decide) (hts (.fieldLink RX8 20 "WaxTurnsModel" "\x72" "[I") (zm_X8_minuteOn_r1 (List.mem_of_getElem? (i := 1) rfl))) (fun _ h9 => h9) rfl dX8_minuteOn_46 ?_
      refine lv_bipush (v := 12) hx hb dX8_minuteOn_49 zk_bipush_12 ?_
      refine lv_iconst (v := 2) hx hb dX8_minuteOn_51 zk_iconst_2 ?_
      refine lv_iload_n hx hb dX8_minuteOn_52 rfl (lv_at hl 0 rfl) ?_
      refine lv_imul hx hb dX8_minuteOn_53 ?_
      refine ax_ti x29 ex29.symm ?_
      refine lv_iadd hx hb dX8_minuteOn_54 ?_
      refine ax_ti x30 ex30.symm ?_
      refine va_iald hx hb hK hP 2 1 rfl rfl (ai_in bx30.1 bx30.2 (by decide) (by decide)) dX8_minuteOn_55 ?_
      refine ax_ti x31 ex31.symm ?_
      refine lv_iconst (v := 2) hx hb dX8_minuteOn_56 zk_iconst_2 ?_
      refine lv_icmp_ne (tgt := 66) hx hb dX8_minuteOn_57 (by decide) (fun c57 => ?_) (fun c57 => ?_)
      · have gc57 := ai_ne c57
        have hF0 := hF0.trans (if_neg (show ¬ (x31.toInt = 2) from  gc57))
        refine lv_aload_n hx hb dX8_minuteOn_66 rfl (lv_at hl 1 rfl) ?_
        refine lv_iload_n hx hb dX8_minuteOn_67 rfl (lv_at hl 0 rfl) ?_
        refine va_put (D := (dC, dI)) (ci := 8) (v := .int x3) (ty := .int) (C := RX8) (T := TX8) (N := 40) hx hb hts zi_X8_minuteOn_8 tyX8 tyX8_ok nmX8 hown hK hP hD hS 0 rfl rfl 26 (by decide) (hts (.fieldLink RX8 258 "WaxTurnsModel" "lived" "I") (zm_X8_minuteOn_r1 (List.mem_of_getElem? (i := 2) rfl))) (fun _ h9 => h9) rfl (tyX8_ok 26 (by decide)) rfl rfl (Nat.le_of_ble_eq_true rfl) dX8_minuteOn_68 (fun H locs hP hD hS => ?_)
        refine zs_0 (y := (a0, .inr (8, [a0g_0, a0g_1, a0g_2, a0g_3, a0g_4, a0g_5, a0g_6, a0g_7, a0g_8, a0g_9, a0g_10, a0g_11, a0g_12, a0g_13, a0g_14, Value.ref a0_15, a0g_16, a0g_17, a0g_18, a0g_19, a0g_20, a0g_21, a0g_22, Value.ref a0_23, Value.ref a0_24, Value.int a0_25, Value.int x3, Value.int a0_27, Value.int 0, a0g_29, a0g_30, a0g_31, a0g_32, a0g_33, a0g_34, a0g_35, a0g_36, a0g_37, a0g_38, a0g_39]))) hP hD rfl (fun hP hD => ?_)
        refine lv_aload_n hx hb dX8_minuteOn_71 rfl (lv_at hl 1 rfl) ?_
        refine lv_aload_n hx hb dX8_minuteOn_72 rfl (lv_at hl 2 rfl) ?_
        refine lv_bipush (v := 18) hx hb dX8_minuteOn_73 zk_bipush_18 ?_
        refine va_iald hx hb hK hP 1 0 rfl rfl (by unfold vp_in; decide +kernel) dX8_minuteOn_75 ?_
        refine ax_ti x13 ex13.symm ?_
        refine lv_iload_n hx hb dX8_minuteOn_76 rfl (lv_at hl 0 rfl) ?_
        refine va_calli (va_runS (As := [.int x13, .int x3]) (rest := [.ref a0]) ⟨hx, hb, hml, hown, hts⟩ (f_X8_hasBit l dC dI H.size x13 x3 ) (va_cwS 2 hts gX8_minuteOn_X8_hasBit rfl rfl rfl zd_X8_hasBit.2 ⟨Nat.le_of_ble_eq_true rfl, Nat.le_of_ble_eq_true rfl⟩) ⟨ax_blind (fun _ _ _ _ _ => trivial), ax_pre (zp_P0 hP) (zp_K hK) (zp_D0 hD) (fun _ _ => trivial)⟩ rfl rfl hl.1 rfl (lv_room (Nat.le_of_ble_eq_true rfl)) dX8_minuteOn_77 ⟨Nat.le_of_ble_eq_true rfl, Nat.le_of_ble_eq_true rfl⟩) hS (fun q _ h => zp_F0 hD hS hA q h) (zp_F0 hD hS hA) (fun r77 u t H locs ht hvm hw hB hz1 hk1 hS1 => zo0 hB ht hP hD hk1 (zp_F0 hD hS hA) hS1 (fun hP hK1 hD hS => ?_))
        obtain ⟨hw, hfr77⟩ := hw
        have hc77 : Ff_X8_hasBit x13.toInt x3.toInt = r77.toInt := hfr77.symm
        have hF0 := hF0.trans (fl_lt_eq hc77.symm)
        rcases hw with hw | hw
        · subst hw
          have hF0 := hF0.trans (if_pos (by decide))
          refine lv_if_eq (tgt := 87) hx hb dX8_minuteOn_80 (by decide) (fun c80 => absurd c80 (by decide +kernel)) (fun _ => ?_)
          refine lv_iconst (v := (-1)) hx hb dX8_minuteOn_83 zk_iconst_n1 ?_
          refine lv_goto (tgt := 90) hx hb dX8_minuteOn_84 (by decide) ?_
          refine va_put (D := (dC, dI)) (ci := 8) (v := .int (-1)) (ty := .int) (C := RX8) (T := TX8) (N := 40) hx hb hts zi_X8_minuteOn_8 tyX8 tyX8_ok nmX8 hown hK hP hD hS 0 rfl rfl 27 (by decide) (hts (.fieldLink RX8 261 "WaxTurnsModel" "livedAt" "I") (zm_X8_minuteOn_r1 (List.mem_of_getElem? (i := 3) rfl))) (fun _ h9 => h9) rfl (tyX8_ok 27 (by decide)) rfl rfl (Nat.le_of_ble_eq_true rfl) dX8_minuteOn_90 (fun H locs hP hD hS => ?_)
          refine zs_0 (y := (a0, .inr (8, [a0g_0, a0g_1, a0g_2, a0g_3, a0g_4, a0g_5, a0g_6, a0g_7, a0g_8, a0g_9, a0g_10, a0g_11, a0g_12, a0g_13, a0g_14, Value.ref a0_15, a0g_16, a0g_17, a0g_18, a0g_19, a0g_20, a0g_21, a0g_22, Value.ref a0_23, Value.ref a0_24, Value.int a0_25, Value.int x3, Value.int (-1), Value.int 0, a0g_29, a0g_30, a0g_31, a0g_32, a0g_33, a0g_34, a0g_35, a0g_36, a0g_37, a0g_38, a0g_39]))) hP hD rfl (fun hP hD => ?_)
          refine lv_aload_n hx hb dX8_minuteOn_93 rfl (lv_at hl 2 rfl) ?_
          refine lv_bipush (v := 21) hx hb dX8_minuteOn_94 zk_bipush_21 ?_
          refine lv_dup2_11 hx hb dX8_minuteOn_96 rfl rfl ?_
          refine va_iald hx hb hK hP 1 0 rfl rfl (by unfold vp_in; decide +kernel) dX8_minuteOn_97 ?_
          refine lv_topi (fun x97 ex97 => ?_)
          have fqx97 := congrArg Int32.toInt ex97
          have hF0 := hF0.trans (fl_lt_eq (show x97.toInt = (fl_A fa1) (21) from fqx97))
          refine lv_iconst (v := 1) hx hb dX8_minuteOn_98 zk_iconst_1 ?_
          refine lv_iadd hx hb dX8_minuteOn_99 ?_
          refine lv_topi (fun x99 ex99 => ?_)
          have fqx99 := fl_iadd_eq ex99
          have hF0 := hF0.trans (fl_lt_eq (show x99.toInt = fl_iadd x97.toInt 1 from fqx99))
          refine va_iast hx hb hK hP hD hS 1 0 rfl rfl (by unfold vp_in; decide +kernel) dX8_minuteOn_100 (fun H locs hP hD hS => ?_)
          obtain ⟨f100, ef100⟩ : ∃ g9 : Nat → Int32, g9 = upd fa1 (21 : Int32).toNatClampNeg x99 := ⟨_, rfl⟩
          refine zs_1 (y := (a1, .inl (ka1, 23, .inl (f100)))) hP hD (by rw [ef100]) (fun hP hD => ?_)
          have bf100 : ((∀ k : Nat, 0 ≤ k → k ≤ 8 → (0 : Int) ≤ (f100 k).toInt ∧ (f100 k).toInt ≤ 8) ∧ (∀ k : Nat, 19 ≤ k → k ≤ 19 → (0 : Int) ≤ (f100 k).toInt ∧ (f100 k).toInt ≤ 8) ∧ (∀ k : Nat, 20 ≤ k → k ≤ 20 → (0 : Int) ≤ (f100 k).toInt ∧ (f100 k).toInt ≤ 19)) := by rw [ef100]; exact ⟨ai_updO bfa1.1 _ (Or.inr (ai_ngt_of zq162 (by decide) (by decide))), ai_updO bfa1.2.1 _ (Or.inr (ai_ngt_of zq162 (by decide) (by decide))), ai_updO bfa1.2.2 _ (Or.inr (ai_ngt_of zq162 (by decide) (by decide)))⟩
          have kf100_21 : f100 21 = x99 := by rw [ef100]; exact ai_k1 (by decide +kernel)
          have fqf100 := fl_up_eq ef100
          have hF0 := hF0.trans (fl_lt_eq (show (fl_A f100) = fl_up (fl_A fa1) (21) x99.toInt from fqf100))
          refine lv_aload_n hx hb dX8_minuteOn_101 rfl (lv_at hl 2 rfl) ?_
          refine lv_bipush (v := 20) hx hb dX8_minuteOn_102 zk_bipush_20 ?_
          refine lv_dup2_11 hx hb dX8_minuteOn_104 rfl rfl ?_
          refine va_iald hx hb hK hP 1 0 rfl rfl (by unfold vp_in; decide +kernel) dX8_minuteOn_105 ?_
          refine lv_topi (fun x105 ex105 => ?_)
          have bx105 : (0 : Int) ≤ x105.toInt ∧ x105.toInt ≤ 19 := by rw [ex105]; exact ai_rd bf100.2.2 zq153 zq154 (by decide) (by decide) (by decide)
          have fqx105 := congrArg Int32.toInt ex105
          have hF0 := hF0.trans (fl_lt_eq (show x105.toInt = (fl_A f100) (20) from fqx105))
          refine lv_iconst (v := 1) hx hb dX8_minuteOn_106 zk_iconst_1 ?_
          refine lv_iadd hx hb dX8_minuteOn_107 ?_
          refine lv_topi (fun x107 ex107 => ?_)
          have qx107 : x107.toInt = x105.toInt + (1 : Int32).toInt := ai_add ex107 ⟨bx105.1, bx105.2⟩ ⟨zq1, zq0⟩ (by decide) (by decide)
          have bx107 : (1 : Int) ≤ x107.toInt ∧ x107.toInt ≤ 20 := ⟨by rw [qx107]; exact Int.add_le_add bx105.1 zq1, by rw [qx107]; exact Int.add_le_add bx105.2 zq0⟩
          have wx107 : x107.toInt = x105.toInt + 1 := qx107
          have hF0 := hF0.trans (fl_lt_eq (show x107.toInt = x105.toInt + 1 from qx107))
          refine va_iast hx hb hK hP hD hS 1 0 rfl rfl (by unfold vp_in; decide +kernel) dX8_minuteOn_108 (fun H locs hP hD hS => ?_)
          obtain ⟨f108, ef108⟩ : ∃ g9 : Nat → Int32, g9 = upd f100 (20 : Int32).toNatClampNeg x107 := ⟨_, rfl⟩
          refine zs_1 (y := (a1, .inl (ka1, 23, .inl (f108)))) hP hD (by rw [ef108]) (fun hP hD => ?_)
          have bf108 : ((∀ k : Nat, 0 ≤ k → k ≤ 8 → (0 : Int) ≤ (f108 k).toInt ∧ (f108 k).toInt ≤ 8) ∧ (∀ k : Nat, 19 ≤ k → k ≤ 19 → (0 : Int) ≤ (f108 k).toInt ∧ (f108 k).toInt ≤ 8) ∧ True) := by rw [ef108]; exact ⟨ai_updO bf100.1 _ (Or.inr (ai_ngt_of zq153 (by decide) (by decide))), ai_updO bf100.2.1 _ (Or.inr (ai_ngt_of zq153 (by decide) (by decide))), trivial⟩
          have kf108_20 : f108 20 = x107 := by rw [ef108]; exact ai_k1 (by decide +kernel)
          have kf108_21 : f108 21 = x99 := by rw [ef108]; exact ai_k2 (by decide +kernel) kf100_21
          have fqf108 := fl_up_eq ef108
          have hF0 := hF0.trans (fl_lt_eq (show (fl_A f108) = fl_up (fl_A f100) (20) x107.toInt from fqf108))
          refine lv_aload_n hx hb dX8_minuteOn_109 rfl (lv_at hl 2 rfl) ?_
          refine lv_bipush (v := 20) hx hb dX8_minuteOn_110 zk_bipush_20 ?_
          refine va_iald hx hb hK hP 1 0 rfl rfl (by unfold vp_in; decide +kernel) dX8_minuteOn_112 ?_
          refine ax_ti x107 ((congrArg f108 (by decide +kernel : (20 : Int32).toNatClampNeg = 20)).trans kf108_20) ?_
          refine lv_aload_n hx hb dX8_minuteOn_113 rfl (lv_at hl 1 rfl) ?_
          refine va_get (D := (dC, dI)) (ci := 8) (v := .ref a0_15) (C := RX8) (T := TX8) (N := 40) hx hb hts zi_X8_minuteOn_8 hown hK hP 0 rfl rfl 15 (by decide) (hts (.fieldLink RX8 20 "WaxTurnsModel" "\x72" "[I") (zm_X8_minuteOn_r1 (List.mem_of_getElem? (i := 1) rfl))) (fun _ h9 => h9) rfl dX8_minuteOn_114 ?_
          refine lv_iconst (v := 1) hx hb dX8_minuteOn_117 zk_iconst_1 ?_
          refine va_iald hx hb hK hP 2 1 rfl rfl (by unfold vp_in; decide +kernel) dX8_minuteOn_118 ?_
          refine lv_topi (fun x118 ex118 => ?_)
          have bx118 : (1 : Int) ≤ x118.toInt ∧ x118.toInt ≤ 20 := by rw [ex118]; exact ai_rd bfa0_15.2.1 zq1 zq0 (by decide) (by decide) (by decide)
          have fqx118 := congrArg Int32.toInt ex118
          have hF0 := hF0.trans (fl_lt_eq (show x118.toInt = (fl_A fa0_15) (1) from fqx118))
          refine lv_icmp_ge (tgt := 123) hx hb dX8_minuteOn_119 (by decide) (fun c119 => ?_) (fun c119 => ?_)
          · have gc119 := ai_le c119
            have u119t_x118 : x118.toInt ≤ (20 : Int) := bx118.2
            have l119t_x107 : (1 : Int) ≤ x107.toInt := bx107.1
            have hF0 := hF0.trans (if_pos (show x118.toInt ≤ x107.toInt from gc119))
            refine lv_aload_n hx hb dX8_minuteOn_123 rfl (lv_at hl 2 rfl) ?_
            refine lv_bipush (v := 20) hx hb dX8_minuteOn_124 zk_bipush_20 ?_
            refine lv_iconst (v := 0) hx hb dX8_minuteOn_126 zk_iconst_0 ?_
            refine va_iast hx hb hK hP hD hS 1 0 rfl rfl (by unfold vp_in; decide +kernel) dX8_minuteOn_127 (fun H locs hP hD hS => ?_)
            obtain ⟨f127, ef127⟩ : ∃ g9 : Nat → Int32, g9 = upd f108 (20 : Int32).toNatClampNeg (0 : Int32) := ⟨_, rfl⟩
            refine zs_1 (y := (a1, .inl (ka1, 23, .inl (f127)))) hP hD (by rw [ef127]) (fun hP hD => ?_)
            have bf127 : ((∀ k : Nat, 0 ≤ k → k ≤ 8 → (0 : Int) ≤ (f127 k).toInt ∧ (f127 k).toInt ≤ 8) ∧ (∀ k : Nat, 19 ≤ k → k ≤ 19 → (0 : Int) ≤ (f127 k).toInt ∧ (f127 k).toInt ≤ 8) ∧ (∀ k : Nat, 20 ≤ k → k ≤ 20 → (0 : Int) ≤ (f127 k).toInt ∧ (f127 k).toInt ≤ 19)) := by rw [ef127]; exact ⟨ai_updO bf108.1 _ (Or.inr (ai_ngt_of zq153 (by decide) (by decide))), ai_updO bf108.2.1 _ (Or.inr (ai_ngt_of zq153 (by decide) (by decide))), ai_new (by decide +kernel) ⟨zq5, (Int.le_trans zq6 zq163)⟩⟩
            have kf127_20 : f127 20 = 0 := by rw [ef127]; exact ai_k1 (by decide +kernel)
            have kf127_21 : f127 21 = x99 := by rw [ef127]; exact ai_k2 (by decide +kernel) kf108_21
            have fqf127 := fl_up_eq ef127
            have hF0 := hF0.trans (fl_lt_eq (show (fl_A f127) = fl_up (fl_A f108) (20) 0 from fqf127))
            refine lv_aload_n hx hb dX8_minuteOn_128 rfl (lv_at hl 2 rfl) ?_
            refine lv_bipush (v := 19) hx hb dX8_minuteOn_129 zk_bipush_19 ?_
            refine lv_aload_n hx hb dX8_minuteOn_131 rfl (lv_at hl 1 rfl) ?_
            refine lv_iload_n hx hb dX8_minuteOn_132 rfl (lv_at hl 0 rfl) ?_
            refine zc_cutc (wc := [(a0, .inr (8, [a0g_0, a0g_1, a0g_2, a0g_3, a0g_4, a0g_5, a0g_6, a0g_7, a0g_8, a0g_9, a0g_10, a0g_11, a0g_12, a0g_13, a0g_14, Value.ref a0_15, a0g_16, a0g_17, a0g_18, a0g_19, a0g_20, a0g_21, a0g_22, Value.ref a0_23, Value.ref a0_24, Value.int a0_25, Value.int x3, Value.int (-1), Value.int 0, a0g_29, a0g_30, a0g_31, a0g_32, a0g_33, a0g_34, a0g_35, a0g_36, a0g_37, a0g_38, a0g_39])), (a0_15, .inl (ka0_15, 156, .inl (fa0_15)))]) hP hD hS hA [0, 2] (by decide +kernel) rfl (fun hPc hDc hFc hCc => ?_)
            have hKc := hK.sub (tys' := [(ka0_15, .int)]) [1] rfl
            refine va_calli (va_runV (As := [.int x3]) (rest := [.int 19, .ref a1]) ⟨hx, hb, hml, hown, hts⟩ (f_X8_nextOf l dC dI H.size a0 x3 a0g_0 a0g_1 a0g_2 a0g_3 a0g_4 a0g_5 a0g_6 a0g_7 a0g_8 a0g_9 a0g_10 a0g_11 a0g_12 a0g_13 a0g_14 a0g_16 a0g_17 a0g_18 a0g_19 a0g_20 a0g_21 a0g_22 (Value.ref a0_23) (Value.ref a0_24) (Value.int a0_25) (Value.int x3) (Value.int (-1)) (Value.int 0) a0g_29 a0g_30 a0g_31 a0g_32 a0g_33 a0g_34 a0g_35 a0g_36 a0g_37 a0g_38 a0g_39 a0_15 ka0_15 fa0_15 bx3.1 bx3.2 bfa0_15) (cwV 1 hts gX8_minuteOn_X8_nextOf rfl rfl rfl zd_X8_nextOf ⟨Nat.le_of_ble_eq_true rfl, Nat.le_of_ble_eq_true rfl⟩) ⟨ax_blind (fun _ _ _ _ _ => trivial), zr_8 hKc hPc (q0 := 0) rfl, ax_pre hPc hKc hDc (fun _ _ => trivial)⟩ rfl rfl hl.1 rfl (lv_room (Nat.le_of_ble_eq_true rfl)) dX8_minuteOn_133 ⟨Nat.le_of_ble_eq_true rfl, Nat.le_of_ble_eq_true rfl⟩) hS (fun q _ h => hFc q h) hFc (fun r133 u t H locs ht hvm hw hB hz1 hk1 hS1 => zo hB ht hS1 (fun hP1 hK1 hD1 hS => ?_))
            refine zc_backc (w := [(a0, .inr (8, [a0g_0, a0g_1, a0g_2, a0g_3, a0g_4, a0g_5, a0g_6, a0g_7, a0g_8, a0g_9, a0g_10, a0g_11, a0g_12, a0g_13, a0g_14, Value.ref a0_15, a0g_16, a0g_17, a0g_18, a0g_19, a0g_20, a0g_21, a0g_22, Value.ref a0_23, Value.ref a0_24, Value.int a0_25, Value.int x3, Value.int (-1), Value.int 0, a0g_29, a0g_30, a0g_31, a0g_32, a0g_33, a0g_34, a0g_35, a0g_36, a0g_37, a0g_38, a0g_39])), (a1, .inl (ka1, 23, .inl (f127))), (a0_15, .inl (ka0_15, 156, .inl (fa0_15))), (a0_24, .inl (ka0_24, 3, .inl (fa0_24))), (a0_23, .inl (ka0_23, 3, .inl (fa0_23)))]) hP hD hCc hk1 hFc hP1 hD1 [.inr 0, .inl 1, .inr 1, .inl 3, .inl 4] (by decide +kernel) rfl (fun hP hD => ?_)
            obtain ⟨hw, hfr133⟩ := hw
            have hc133 : Ff_X8_nextOf x3.toInt (fl_A fa0_15) = r133.toInt := hfr133.symm
            have hF0 := hF0.trans (fl_lt_eq hc133.symm)
            have hw : (0 : Int) ≤ r133.toInt ∧ r133.toInt ≤ (8 : Int) := hw
            obtain ⟨h133_0, h133_1⟩ := hw
            refine va_iast hx hb hK hP hD hS 1 0 rfl rfl (by unfold vp_in; decide +kernel) dX8_minuteOn_136 (fun H locs hP hD hS => ?_)
            obtain ⟨f136, ef136⟩ : ∃ g9 : Nat → Int32, g9 = upd f127 (19 : Int32).toNatClampNeg r133 := ⟨_, rfl⟩
            refine zs_1 (y := (a1, .inl (ka1, 23, .inl (f136)))) hP hD (by rw [ef136]) (fun hP hD => ?_)
            have bf136 : ((∀ k : Nat, 0 ≤ k → k ≤ 8 → (0 : Int) ≤ (f136 k).toInt ∧ (f136 k).toInt ≤ 8) ∧ (∀ k : Nat, 19 ≤ k → k ≤ 19 → (0 : Int) ≤ (f136 k).toInt ∧ (f136 k).toInt ≤ 8) ∧ (∀ k : Nat, 20 ≤ k → k ≤ 20 → (0 : Int) ≤ (f136 k).toInt ∧ (f136 k).toInt ≤ 19)) := by rw [ef136]; exact ⟨ai_updO bf127.1 _ (Or.inr (ai_ngt_of zq160 (by decide) (by decide))), ai_updS bf127.2.1 _ ⟨h133_0, h133_1⟩, ai_updO bf127.2.2 _ (Or.inl (ai_nlt_of zq160 zq161 (by decide) (by decide)))⟩
            have kf136_19 : f136 19 = r133 := by rw [ef136]; exact ai_k1 (by decide +kernel)
            have kf136_20 : f136 20 = 0 := by rw [ef136]; exact ai_k2 (by decide +kernel) kf127_20
            have kf136_21 : f136 21 = x99 := by rw [ef136]; exact ai_k2 (by decide +kernel) kf127_21
            have fqf136 := fl_up_eq ef136
            have hF0 := hF0.trans (fl_lt_eq (show (fl_A f136) = fl_up (fl_A f127) (19) r133.toInt from fqf136))
            have hFe : FX = (x3.toInt, (-1), 0, (fl_A f136)) := hF0
            exact W.vret hx hb hr (fun t ht hW => ⟨⟨(), rfl, trivial, x3, (-1), 0, f136, bf136, hFe, by rw [ht]; exact hP, va_K.moved hW.alike hK, hD⟩, hS.F ht⟩) hS.2.2 dX8_minuteOn_137
          · have gc119 := ai_nle c119
            have u119f_x107 : x107.toInt ≤ (19 : Int) := ai_lthi gc119 bx118.2
            have u119f_x105 : x105.toInt ≤ (18 : Int) := by have h1 := wx107; have h2 := u119f_x107; omega
            have l119f_x118 : (2 : Int) ≤ x118.toInt := ai_ltlo gc119 bx107.1
            have hF0 := hF0.trans (if_neg (show ¬ (x118.toInt ≤ x107.toInt) from Int.not_le.mpr gc119))
            have hFe : FX = (x3.toInt, (-1), 0, (fl_A f108)) := hF0
            exact W.vret hx hb hr (fun t ht hW => ⟨⟨(), rfl, trivial, x3, (-1), 0, f108, ⟨bf108.1, bf108.2.1, ai_one (by rw [kf108_20]; exact ⟨(Int.le_trans zq4 bx107.1), u119f_x107⟩)⟩, hFe, by rw [ht]; exact hP, va_K.moved hW.alike hK, hD⟩, hS.F ht⟩) hS.2.2 dX8_minuteOn_122
        · subst hw
          have hF0 := hF0.trans (if_neg (by decide))
          refine lv_if_eq (tgt := 87) hx hb dX8_minuteOn_80 (by decide) (fun _ => ?_) (fun c80 => absurd (by decide +kernel) c80)
          refine lv_aload_n hx hb dX8_minuteOn_87 rfl (lv_at hl 2 rfl) ?_
          refine lv_iload_n hx hb dX8_minuteOn_88 rfl (lv_at hl 0 rfl) ?_
          refine va_iald hx hb hK hP 1 0 rfl rfl (ai_in bx3.1 bx3.2 (by decide) (by decide)) dX8_minuteOn_89 ?_
          refine lv_topi (fun x89 ex89 => ?_)
          have bx89 : (0 : Int) ≤ x89.toInt ∧ x89.toInt ≤ 8 := by rw [ex89]; exact ai_rd bfa1.1 bx3.1 bx3.2 (by decide) (by decide) (by decide)
          have fqx89 := congrArg Int32.toInt ex89
          have hF0 := hF0.trans (fl_lt_eq (show x89.toInt = (fl_A fa1) (x3.toInt.toNat) from fqx89))
          refine va_put (D := (dC, dI)) (ci := 8) (v := .int x89) (ty := .int) (C := RX8) (T := TX8) (N := 40) hx hb hts zi_X8_minuteOn_8 tyX8 tyX8_ok nmX8 hown hK hP hD hS 0 rfl rfl 27 (by decide) (hts (.fieldLink RX8 261 "WaxTurnsModel" "livedAt" "I") (zm_X8_minuteOn_r1 (List.mem_of_getElem? (i := 3) rfl))) (fun _ h9 => h9) rfl (tyX8_ok 27 (by decide)) rfl rfl (Nat.le_of_ble_eq_true rfl) dX8_minuteOn_90 (fun H locs hP hD hS => ?_)
          refine zs_0 (y := (a0, .inr (8, [a0g_0, a0g_1, a0g_2, a0g_3, a0g_4, a0g_5, a0g_6, a0g_7, a0g_8, a0g_9, a0g_10, a0g_11, a0g_12, a0g_13, a0g_14, Value.ref a0_15, a0g_16, a0g_17, a0g_18, a0g_19, a0g_20, a0g_21, a0g_22, Value.ref a0_23, Value.ref a0_24, Value.int a0_25, Value.int x3, Value.int x89, Value.int 0, a0g_29, a0g_30, a0g_31, a0g_32, a0g_33, a0g_34, a0g_35, a0g_36, a0g_37, a0g_38, a0g_39]))) hP hD rfl (fun hP hD => ?_)
          refine lv_aload_n hx hb dX8_minuteOn_93 rfl (lv_at hl 2 rfl) ?_
          refine lv_bipush (v := 21) hx hb dX8_minuteOn_94 zk_bipush_21 ?_
          refine lv_dup2_11 hx hb dX8_minuteOn_96 rfl rfl ?_
          refine va_iald hx hb hK hP 1 0 rfl rfl (by unfold vp_in; decide +kernel) dX8_minuteOn_97 ?_
          refine lv_topi (fun x97 ex97 => ?_)
          have fqx97 := congrArg Int32.toInt ex97
          have hF0 := hF0.trans (fl_lt_eq (show x97.toInt = (fl_A fa1) (21) from fqx97))
          refine lv_iconst (v := 1) hx hb dX8_minuteOn_98 zk_iconst_1 ?_
          refine lv_iadd hx hb dX8_minuteOn_99 ?_
          refine lv_topi (fun x99 ex99 => ?_)
          have fqx99 := fl_iadd_eq ex99
          have hF0 := hF0.trans (fl_lt_eq (show x99.toInt = fl_iadd x97.toInt 1 from fqx99))
          refine va_iast hx hb hK hP hD hS 1 0 rfl rfl (by unfold vp_in; decide +kernel) dX8_minuteOn_100 (fun H locs hP hD hS => ?_)
          obtain ⟨f100, ef100⟩ : ∃ g9 : Nat → Int32, g9 = upd fa1 (21 : Int32).toNatClampNeg x99 := ⟨_, rfl⟩
          refine zs_1 (y := (a1, .inl (ka1, 23, .inl (f100)))) hP hD (by rw [ef100]) (fun hP hD => ?_)
          have bf100 : ((∀ k : Nat, 0 ≤ k → k ≤ 8 → (0 : Int) ≤ (f100 k).toInt ∧ (f100 k).toInt ≤ 8) ∧ (∀ k : Nat, 19 ≤ k → k ≤ 19 → (0 : Int) ≤ (f100 k).toInt ∧ (f100 k).toInt ≤ 8) ∧ (∀ k : Nat, 20 ≤ k → k ≤ 20 → (0 : Int) ≤ (f100 k).toInt ∧ (f100 k).toInt ≤ 19)) := by rw [ef100]; exact ⟨ai_updO bfa1.1 _ (Or.inr (ai_ngt_of zq162 (by decide) (by decide))), ai_updO bfa1.2.1 _ (Or.inr (ai_ngt_of zq162 (by decide) (by decide))), ai_updO bfa1.2.2 _ (Or.inr (ai_ngt_of zq162 (by decide) (by decide)))⟩
          have kf100_21 : f100 21 = x99 := by rw [ef100]; exact ai_k1 (by decide +kernel)
          have fqf100 := fl_up_eq ef100
          have hF0 := hF0.trans (fl_lt_eq (show (fl_A f100) = fl_up (fl_A fa1) (21) x99.toInt from fqf100))
          refine lv_aload_n hx hb dX8_minuteOn_101 rfl (lv_at hl 2 rfl) ?_
          refine lv_bipush (v := 20) hx hb dX8_minuteOn_102 zk_bipush_20 ?_
          refine lv_dup2_11 hx hb dX8_minuteOn_104 rfl rfl ?_
          refine va_iald hx hb hK hP 1 0 rfl rfl (by unfold vp_in; decide +kernel) dX8_minuteOn_105 ?_
          refine lv_topi (fun x105 ex105 => ?_)
          have bx105 : (0 : Int) ≤ x105.toInt ∧ x105.toInt ≤ 19 := by rw [ex105]; exact ai_rd bf100.2.2 zq153 zq154 (by decide) (by decide) (by decide)
          have fqx105 := congrArg Int32.toInt ex105
          have hF0 := hF0.trans (fl_lt_eq (show x105.toInt = (fl_A f100) (20) from fqx105))
          refine lv_iconst (v := 1) hx hb dX8_minuteOn_106 zk_iconst_1 ?_
          refine lv_iadd hx hb dX8_minuteOn_107 ?_
          refine lv_topi (fun x107 ex107 => ?_)
          have qx107 : x107.toInt = x105.toInt + (1 : Int32).toInt := ai_add ex107 ⟨bx105.1, bx105.2⟩ ⟨zq1, zq0⟩ (by decide) (by decide)
          have bx107 : (1 : Int) ≤ x107.toInt ∧ x107.toInt ≤ 20 := ⟨by rw [qx107]; exact Int.add_le_add bx105.1 zq1, by rw [qx107]; exact Int.add_le_add bx105.2 zq0⟩
          have wx107 : x107.toInt = x105.toInt + 1 := qx107
          have hF0 := hF0.trans (fl_lt_eq (show x107.toInt = x105.toInt + 1 from qx107))
          refine va_iast hx hb hK hP hD hS 1 0 rfl rfl (by unfold vp_in; decide +kernel) dX8_minuteOn_108 (fun H locs hP hD hS => ?_)
          obtain ⟨f108, ef108⟩ : ∃ g9 : Nat → Int32, g9 = upd f100 (20 : Int32).toNatClampNeg x107 := ⟨_, rfl⟩
          refine zs_1 (y := (a1, .inl (ka1, 23, .inl (f108)))) hP hD (by rw [ef108]) (fun hP hD => ?_)
          have bf108 : ((∀ k : Nat, 0 ≤ k → k ≤ 8 → (0 : Int) ≤ (f108 k).toInt ∧ (f108 k).toInt ≤ 8) ∧ (∀ k : Nat, 19 ≤ k → k ≤ 19 → (0 : Int) ≤ (f108 k).toInt ∧ (f108 k).toInt ≤ 8) ∧ True) := by rw [ef108]; exact ⟨ai_updO bf100.1 _ (Or.inr (ai_ngt_of zq153 (by decide) (by decide))), ai_updO bf100.2.1 _ (Or.inr (ai_ngt_of zq153 (by decide) (by decide))), trivial⟩
          have kf108_20 : f108 20 = x107 := by rw [ef108]; exact ai_k1 (by decide +kernel)
          have kf108_21 : f108 21 = x99 := by rw [ef108]; exact ai_k2 (by decide +kernel) kf100_21
          have fqf108 := fl_up_eq ef108
          have hF0 := hF0.trans (fl_lt_eq (show (fl_A f108) = fl_up (fl_A f100) (20) x107.toInt from fqf108))
          refine lv_aload_n hx hb dX8_minuteOn_109 rfl (lv_at hl 2 rfl) ?_
          refine lv_bipush (v := 20) hx hb dX8_minuteOn_110 zk_bipush_20 ?_
          refine va_iald hx hb hK hP 1 0 rfl rfl (by unfold vp_in; decide +kernel) dX8_minuteOn_112 ?_
          refine ax_ti x107 ((congrArg f108 (by decide +kernel : (20 : Int32).toNatClampNeg = 20)).trans kf108_20) ?_
          refine lv_aload_n hx hb dX8_minuteOn_113 rfl (lv_at hl 1 rfl) ?_
          refine va_get (D := (dC, dI)) (ci := 8) (v := .ref a0_15) (C := RX8) (T := TX8) (N := 40) hx hb hts zi_X8_minuteOn_8 hown hK hP 0 rfl rfl 15 (by decide) (hts (.fieldLink RX8 20 "WaxTurnsModel" "\x72" "[I") (zm_X8_minuteOn_r1 (List.mem_of_getElem? (i := 1) rfl))) (fun _ h9 => h9) rfl dX8_minuteOn_114 ?_
          refine lv_iconst (v := 1) hx hb dX8_minuteOn_117 zk_iconst_1 ?_
          refine va_iald hx hb hK hP 2 1 rfl rfl (by unfold vp_in; decide +kernel) dX8_minuteOn_118 ?_
          refine lv_topi (fun x118 ex118 => ?_)
          have bx118 : (1 : Int) ≤ x118.toInt ∧ x118.toInt ≤ 20 := by rw [ex118]; exact ai_rd bfa0_15.2.1 zq1 zq0 (by decide) (by decide) (by decide)
          have fqx118 := congrArg Int32.toInt ex118
          have hF0 := hF0.trans (fl_lt_eq (show x118.toInt = (fl_A fa0_15) (1) from fqx118))
          refine lv_icmp_ge (tgt := 123) hx hb dX8_minuteOn_119 (by decide) (fun c119 => ?_) (fun c119 => ?_)
          · have gc119 := ai_le c119
            have u119t_x118 : x118.toInt ≤ (20 : Int) := bx118.2
            have l119t_x107 : (1 : Int) ≤ x107.toInt := bx107.1
            have hF0 := hF0.trans (if_pos (show x118.toInt ≤ x107.toInt from gc119))
            refine lv_aload_n hx hb dX8_minuteOn_123 rfl (lv_at hl 2 rfl) ?_
            refine lv_bipush (v := 20) hx hb dX8_minuteOn_124 zk_bipush_20 ?_
            refine lv_iconst (v := 0) hx hb dX8_minuteOn_126 zk_iconst_0 ?_
            refine va_iast hx hb hK hP hD hS 1 0 rfl rfl (by unfold vp_in; decide +kernel) dX8_minuteOn_127 (fun H locs hP hD hS => ?_)
            obtain ⟨f127, ef127⟩ : ∃ g9 : Nat → Int32, g9 = upd f108 (20 : Int32).toNatClampNeg (0 : Int32) := ⟨_, rfl⟩
            refine zs_1 (y := (a1, .inl (ka1, 23, .inl (f127)))) hP hD (by rw [ef127]) (fun hP hD => ?_)
            have bf127 : ((∀ k : Nat, 0 ≤ k → k ≤ 8 → (0 : Int) ≤ (f127 k).toInt ∧ (f127 k).toInt ≤ 8) ∧ (∀ k : Nat, 19 ≤ k → k ≤ 19 → (0 : Int) ≤ (f127 k).toInt ∧ (f127 k).toInt ≤ 8) ∧ (∀ k : Nat, 20 ≤ k → k ≤ 20 → (0 : Int) ≤ (f127 k).toInt ∧ (f127 k).toInt ≤ 19)) := by rw [ef127]; exact ⟨ai_updO bf108.1 _ (Or.inr (ai_ngt_of zq153 (by decide) (by decide))), ai_updO bf108.2.1 _ (Or.inr (ai_ngt_of zq153 (by decide) (by decide))), ai_new (by decide +kernel) ⟨zq5, (Int.le_trans zq6 zq163)⟩⟩
            have kf127_20 : f127 20 = 0 := by rw [ef127]; exact ai_k1 (by decide +kernel)
            have kf127_21 : f127 21 = x99 := by rw [ef127]; exact ai_k2 (by decide +kernel) kf108_21
            have fqf127 := fl_up_eq ef127
            have hF0 := hF0.trans (fl_lt_eq (show (fl_A f127) = fl_up (fl_A f108) (20) 0 from fqf127))
            refine lv_aload_n hx hb dX8_minuteOn_128 rfl (lv_at hl 2 rfl) ?_
            refine lv_bipush (v := 19) hx hb dX8_minuteOn_129 zk_bipush_19 ?_
            refine lv_aload_n hx hb dX8_minuteOn_131 rfl (lv_at hl 1 rfl) ?_
            refine lv_iload_n hx hb dX8_minuteOn_132 rfl (lv_at hl 0 rfl) ?_
            refine zc_cutc (wc := [(a0, .inr (8, [a0g_0, a0g_1, a0g_2, a0g_3, a0g_4, a0g_5, a0g_6, a0g_7, a0g_8, a0g_9, a0g_10, a0g_11, a0g_12, a0g_13, a0g_14, Value.ref a0_15, a0g_16, a0g_17, a0g_18, a0g_19, a0g_20, a0g_21, a0g_22, Value.ref a0_23, Value.ref a0_24, Value.int a0_25, Value.int x3, Value.int x89, Value.int 0, a0g_29, a0g_30, a0g_31, a0g_32, a0g_33, a0g_34, a0g_35, a0g_36, a0g_37, a0g_38, a0g_39])), (a0_15, .inl (ka0_15, 156, .inl (fa0_15)))]) hP hD hS hA [0, 2] (by decide +kernel) rfl (fun hPc hDc hFc hCc => ?_)
            have hKc := hK.sub (tys' := [(ka0_15, .int)]) [1] rfl
            refine va_calli (va_runV (As := [.int x3]) (rest := [.int 19, .ref a1]) ⟨hx, hb, hml, hown, hts⟩ (f_X8_nextOf l dC dI H.size a0 x3 a0g_0 a0g_1 a0g_2 a0g_3 a0g_4 a0g_5 a0g_6 a0g_7 a0g_8 a0g_9 a0g_10 a0g_11 a0g_12 a0g_13 a0g_14 a0g_16 a0g_17 a0g_18 a0g_19 a0g_20 a0g_21 a0g_22 (Value.ref a0_23) (Value.ref a0_24) (Value.int a0_25) (Value.int x3) (Value.int x89) (Value.int 0) a0g_29 a0g_30 a0g_31 a0g_32 a0g_33 a0g_34 a0g_35 a0g_36 a0g_37 a0g_38 a0g_39 a0_15 ka0_15 fa0_15 bx3.1 bx3.2 bfa0_15) (cwV 1 hts gX8_minuteOn_X8_nextOf rfl rfl rfl zd_X8_nextOf ⟨Nat.le_of_ble_eq_true rfl, Nat.le_of_ble_eq_true rfl⟩) ⟨ax_blind (fun _ _ _ _ _ => trivial), zr_8 hKc hPc (q0 := 0) rfl, ax_pre hPc hKc hDc (fun _ _ => trivial)⟩ rfl rfl hl.1 rfl (lv_room (Nat.le_of_ble_eq_true rfl)) dX8_minuteOn_133 ⟨Nat.le_of_ble_eq_true rfl, Nat.le_of_ble_eq_true rfl⟩) hS (fun q _ h => hFc q h) hFc (fun r133 u t H locs ht hvm hw hB hz1 hk1 hS1 => zo hB ht hS1 (fun hP1 hK1 hD1 hS => ?_))
            refine zc_backc (w := [(a0, .inr (8, [a0g_0, a0g_1, a0g_2, a0g_3, a0g_4, a0g_5, a0g_6, a0g_7, a0g_8, a0g_9, a0g_10, a0g_11, a0g_12, a0g_13, a0g_14, Value.ref a0_15, a0g_16, a0g_17, a0g_18, a0g_19, a0g_20, a0g_21, a0g_22, Value.ref a0_23, Value.ref a0_24, Value.int a0_25, Value.int x3, Value.int x89, Value.int 0, a0g_29, a0g_30, a0g_31, a0g_32, a0g_33, a0g_34, a0g_35, a0g_36, a0g_37, a0g_38, a0g_39])), (a1, .inl (ka1, 23, .inl (f127))), (a0_15, .inl (ka0_15, 156, .inl (fa0_15))), (a0_24, .inl (ka0_24, 3, .inl (fa0_24))), (a0_23, .inl (ka0_23, 3, .inl (fa0_23)))]) hP hD hCc hk1 hFc hP1 hD1 [.inr 0, .inl 1, .inr 1, .inl 3, .inl 4] (by decide +kernel) rfl (fun hP hD => ?_)
            obtain ⟨hw, hfr133⟩ := hw
            have hc133 : Ff_X8_nextOf x3.toInt (fl_A fa0_15) = r133.toInt := hfr133.symm
            have hF0 := hF0.trans (fl_lt_eq hc133.symm)
            have hw : (0 : Int) ≤ r133.toInt ∧ r133.toInt ≤ (8 : Int) := hw
            obtain ⟨h133_0, h133_1⟩ := hw
            refine va_iast hx hb hK hP hD hS 1 0 rfl rfl (by unfold vp_in; decide +kernel) dX8_minuteOn_136 (fun H locs hP hD hS => ?_)
            obtain ⟨f136, ef136⟩ : ∃ g9 : Nat → Int32, g9 = upd f127 (19 : Int32).toNatClampNeg r133 := ⟨_, rfl⟩
            refine zs_1 (y := (a1, .inl (ka1, 23, .inl (f136)))) hP hD (by rw [ef136]) (fun hP hD => ?_)
            have bf136 : ((∀ k : Nat, 0 ≤ k → k ≤ 8 → (0 : Int) ≤ (f136 k).toInt ∧ (f136 k).toInt ≤ 8) ∧ (∀ k : Nat, 19 ≤ k → k ≤ 19 → (0 : Int) ≤ (f136 k).toInt ∧ (f136 k).toInt ≤ 8) ∧ (∀ k : Nat, 20 ≤ k → k ≤ 20 → (0 : Int) ≤ (f136 k).toInt ∧ (f136 k).toInt ≤ 19)) := by rw [ef136]; exact ⟨ai_updO bf127.1 _ (Or.inr (ai_ngt_of zq160 (by decide) (by decide))), ai_updS bf127.2.1 _ ⟨h133_0, h133_1⟩, ai_updO bf127.2.2 _ (Or.inl (ai_nlt_of zq160 zq161 (by decide) (by decide)))⟩
            have kf136_19 : f136 19 = r133 := by rw [ef136]; exact ai_k1 (by decide +kernel)
            have kf136_20 : f136 20 = 0 := by rw [ef136]; exact ai_k2 (by decide +kernel) kf127_20
            have kf136_21 : f136 21 = x99 := by rw [ef136]; exact ai_k2 (by decide +kernel) kf127_21
            have fqf136 := fl_up_eq ef136
            have hF0 := hF0.trans (fl_lt_eq (show (fl_A f136) = fl_up (fl_A f127) (19) r133.toInt from fqf136))
            have hFe : FX = (x3.toInt, x89.toInt, 0, (fl_A f136)) := hF0
            exact W.vret hx hb hr (fun t ht hW => ⟨⟨(), rfl, trivial, x3, x89, 0, f136, bf136, hFe, by rw [ht]; exact hP, va_K.moved hW.alike hK, hD⟩, hS.F ht⟩) hS.2.2 dX8_minuteOn_137
          · have gc119 := ai_nle c119
            have u119f_x107 : x107.toInt ≤ (19 : Int) := ai_lthi gc119 bx118.2
            have u119f_x105 : x105.toInt ≤ (18 : Int) := by have h1 := wx107; have h2 := u119f_x107; omega
            have l119f_x118 : (2 : Int) ≤ x118.toInt := ai_ltlo gc119 bx107.1
            have hF0 := hF0.trans (if_neg (show ¬ (x118.toInt ≤ x107.toInt) from Int.not_le.mpr gc119))
            have hFe : FX = (x3.toInt, x89.toInt, 0, (fl_A f108)) := hF0
            exact W.vret hx hb hr (fun t ht hW => ⟨⟨(), rfl, trivial, x3, x89, 0, f108, ⟨bf108.1, bf108.2.1, ai_one (by rw [kf108_20]; exact ⟨(Int.le_trans zq4 bx107.1), u119f_x107⟩)⟩, hFe, by rw [ht]; exact hP, va_K.moved hW.alike hK, hD⟩, hS.F ht⟩) hS.2.2 dX8_minuteOn_122
      · have gc57 := ai_eq c57
        have u57f_x31 : x31.toInt ≤ (2 : Int) := Int.le_trans (Int.le_of_eq gc57) zq13
        have l57f_x31 : (2 : Int) ≤ x31.toInt := Int.le_trans zq12 (Int.le_of_eq gc57.symm)
        have hF0 := hF0.trans (if_pos (show x31.toInt = 2 from gc57))
        refine lv_aload_n hx hb dX8_minuteOn_60 rfl (lv_at hl 1 rfl) ?_
        refine lv_aload_n hx hb dX8_minuteOn_61 rfl (lv_at hl 2 rfl) ?_
        refine lv_iload_n hx hb dX8_minuteOn_62 rfl (lv_at hl 0 rfl) ?_
        have hKc := hK.sub (tys' := [(ka1, .int), (ka0_15, .int), (ka0_24, .int), (ka0_23, .int)]) [0, 1, 2, 3] rfl
        refine va_callv (va_runV (As := [.ref a1, .int x3]) (rest := []) ⟨hx, hb, hml, hown, hts⟩ (f_X8_speakOn l dC dI H.size a0 a1 x3 a0g_0 a0g_1 a0g_2 a0g_3 a0g_4 a0g_5 a0g_6 a0g_7 a0g_8 a0g_9 a0g_10 a0g_11 a0g_12 a0g_13 a0g_14 a0g_16 a0g_17 a0g_18 a0g_19 a0g_20 a0g_21 a0g_22 (Value.int a0_26) (Value.int a0_27) a0g_29 a0g_30 a0g_31 a0g_32 a0g_33 a0g_34 a0g_35 a0g_36 a0g_37 a0g_38 a0g_39 a0_15 a0_23 a0_24 a0_25 0 ka1 fa1 ka0_15 fa0_15 ka0_24 fa0_24 ka0_23 fa0_23 bx3.1 bx3.2 bfa1 bfa0_15 bfa0_24 bfa0_23) (cwV 2 hts gX8_minuteOn_X8_speakOn rfl rfl rfl zd_X8_speakOn ⟨Nat.le_of_ble_eq_true rfl, Nat.le_of_ble_eq_true rfl⟩) ⟨ax_blind (fun _ _ _ _ _ => trivial), zr_8 hKc (zp_P5 hP) (q0 := 0) rfl, ax_pre (zp_P5 hP) hKc (zp_D5 hD) (fun _ _ => trivial)⟩ rfl rfl hl.1 rfl (lv_room (Nat.le_of_ble_eq_true rfl)) dX8_minuteOn_63 ⟨Nat.le_of_ble_eq_true rfl, Nat.le_of_ble_eq_true rfl⟩) hS (fun q _ h => zp_F5 hD hS hA q h) (zp_F5 hD hS hA) (fun u t H locs ht hvm hw => zx_2 (fun v63na0_28 v63nfa1 => zy_2 (fun bv63nfa1 hraw63_0 hB hz1 hk1 hS1 => zo5 hB ht hP hD hk1 (zp_F5 hD hS hA) hS1 (fun hP hK1 hD hS => ?_))))
        rw [show (0 : Int32).toInt = 0 from by decide] at hraw63_0
        have hc63 : Ff_X8_speakOn x3.toInt a0_25.toInt 0 (fl_A fa1) (fl_A fa0_15) (fl_A fa0_24) (fl_A fa0_23) = (v63na0_28.toInt, (fl_A v63nfa1)) := hraw63_0
        have hF0 := hF0.trans (fl_c2_eq hc63)
        refine lv_aload_n hx hb dX8_minuteOn_66 rfl (lv_at hl 1 rfl) ?_
        refine lv_iload_n hx hb dX8_minuteOn_67 rfl (lv_at hl 0 rfl) ?_
        refine va_put (D := (dC, dI)) (ci := 8) (v := .int x3) (ty := .int) (C := RX8) (T := TX8) (N := 40) hx hb hts zi_X8_minuteOn_8 tyX8 tyX8_ok nmX8 hown hK hP hD hS 0 rfl rfl 26 (by decide) (hts (.fieldLink RX8 258 "WaxTurnsModel" "lived" "I") (zm_X8_minuteOn_r1 (List.mem_of_getElem? (i := 2) rfl))) (fun _ h9 => h9) rfl (tyX8_ok 26 (by decide)) rfl rfl (Nat.le_of_ble_eq_true rfl) dX8_minuteOn_68 (fun H locs hP hD hS => ?_)
        refine zs_0 (y := (a0, .inr (8, [a0g_0, a0g_1, a0g_2, a0g_3, a0g_4, a0g_5, a0g_6, a0g_7, a0g_8, a0g_9, a0g_10, a0g_11, a0g_12, a0g_13, a0g_14, Value.ref a0_15, a0g_16, a0g_17, a0g_18, a0g_19, a0g_20, a0g_21, a0g_22, Value.ref a0_23, Value.ref a0_24, Value.int a0_25, Value.int x3, Value.int a0_27, Value.int v63na0_28, a0g_29, a0g_30, a0g_31, a0g_32, a0g_33, a0g_34, a0g_35, a0g_36, a0g_37, a0g_38, a0g_39]))) hP hD rfl (fun hP hD => ?_)
        refine lv_aload_n hx hb dX8_minuteOn_71 rfl (lv_at hl 1 rfl) ?_
        refine lv_aload_n hx hb dX8_minuteOn_72 rfl (lv_at hl 2 rfl) ?_
        refine lv_bipush (v := 18) hx hb dX8_minuteOn_73 zk_bipush_18 ?_
        refine va_iald hx hb hK hP 1 0 rfl rfl (by unfold vp_in; decide +kernel) dX8_minuteOn_75 ?_
        refine lv_topi (fun x75 ex75 => ?_)
        have fqx75 := congrArg Int32.toInt ex75
        have hF0 := hF0.trans (fl_lt_eq (show x75.toInt = (fl_A v63nfa1) (18) from fqx75))
        refine lv_iload_n hx hb dX8_minuteOn_76 rfl (lv_at hl 0 rfl) ?_
        refine va_calli (va_runS (As := [.int x75, .int x3]) (rest := [.ref a0]) ⟨hx, hb, hml, hown, hts⟩ (f_X8_hasBit l dC dI H.size x75 x3 ) (va_cwS 2 hts gX8_minuteOn_X8_hasBit rfl rfl rfl zd_X8_hasBit.2 ⟨Nat.le_of_ble_eq_true rfl, Nat.le_of_ble_eq_true rfl⟩) ⟨ax_blind (fun _ _ _ _ _ => trivial), ax_pre (zp_P0 hP) (zp_K hK) (zp_D0 hD) (fun _ _ => trivial)⟩ rfl rfl hl.1 rfl (lv_room (Nat.le_of_ble_eq_true rfl)) dX8_minuteOn_77 ⟨Nat.le_of_ble_eq_true rfl, Nat.le_of_ble_eq_true rfl⟩) hS (fun q _ h => zp_F0 hD hS hA q h) (zp_F0 hD hS hA) (fun r77 u t H locs ht hvm hw hB hz1 hk1 hS1 => zo0 hB ht hP hD hk1 (zp_F0 hD hS hA) hS1 (fun hP hK1 hD hS => ?_))
        obtain ⟨hw, hfr77⟩ := hw
        have hc77 : Ff_X8_hasBit x75.toInt x3.toInt = r77.toInt := hfr77.symm
        have hF0 := hF0.trans (fl_lt_eq hc77.symm)
        rcases hw with hw | hw
        · subst hw
          have hF0 := hF0.trans (if_pos (by decide))
          refine lv_if_eq (tgt := 87) hx hb dX8_minuteOn_80 (by decide) (fun c80 => absurd c80 (by decide +kernel)) (fun _ => ?_)
          refine lv_iconst (v := (-1)) hx hb dX8_minuteOn_83 zk_iconst_n1 ?_
          refine lv_goto (tgt := 90) hx hb dX8_minuteOn_84 (by decide) ?_
          refine va_put (D := (dC, dI)) (ci := 8) (v := .int (-1)) (ty := .int) (C := RX8) (T := TX8) (N := 40) hx hb hts zi_X8_minuteOn_8 tyX8 tyX8_ok nmX8 hown hK hP hD hS 0 rfl rfl 27 (by decide) (hts (.fieldLink RX8 261 "WaxTurnsModel" "livedAt" "I") (zm_X8_minuteOn_r1 (List.mem_of_getElem? (i := 3) rfl))) (fun _ h9 => h9) rfl (tyX8_ok 27 (by decide)) rfl rfl (Nat.le_of_ble_eq_true rfl) dX8_minuteOn_90 (fun H locs hP hD hS => ?_)
          refine zs_0 (y := (a0, .inr (8, [a0g_0, a0g_1, a0g_2, a0g_3, a0g_4, a0g_5, a0g_6, a0g_7, a0g_8, a0g_9, a0g_10, a0g_11, a0g_12, a0g_13, a0g_14, Value.ref a0_15, a0g_16, a0g_17, a0g_18, a0g_19, a0g_20, a0g_21, a0g_22, Value.ref a0_23, Value.ref a0_24, Value.int a0_25, Value.int x3, Value.int (-1), Value.int v63na0_28, a0g_29, a0g_30, a0g_31, a0g_32, a0g_33, a0g_34, a0g_35, a0g_36, a0g_37, a0g_38, a0g_39]))) hP hD rfl (fun hP hD => ?_)
          refine lv_aload_n hx hb dX8_minuteOn_93 rfl (lv_at hl 2 rfl) ?_
          refine lv_bipush (v := 21) hx hb dX8_minuteOn_94 zk_bipush_21 ?_
          refine lv_dup2_11 hx hb dX8_minuteOn_96 rfl rfl ?_
          refine va_iald hx hb hK hP 1 0 rfl rfl (by unfold vp_in; decide +kernel) dX8_minuteOn_97 ?_
          refine lv_topi (fun x97 ex97 => ?_)
          have fqx97 := congrArg Int32.toInt ex97
          have hF0 := hF0.trans (fl_lt_eq (show x97.toInt = (fl_A v63nfa1) (21) from fqx97))
          refine lv_iconst (v := 1) hx hb dX8_minuteOn_98 zk_iconst_1 ?_
          refine lv_iadd hx hb dX8_minuteOn_99 ?_
          refine lv_topi (fun x99 ex99 => ?_)
          have fqx99 := fl_iadd_eq ex99
          have hF0 := hF0.trans (fl_lt_eq (show x99.toInt = fl_iadd x97.toInt 1 from fqx99))
          refine va_iast hx hb hK hP hD hS 1 0 rfl rfl (by unfold vp_in; decide +kernel) dX8_minuteOn_100 (fun H locs hP hD hS => ?_)
          obtain ⟨f100, ef100⟩ : ∃ g9 : Nat → Int32, g9 = upd v63nfa1 (21 : Int32).toNatClampNeg x99 := ⟨_, rfl⟩
          refine zs_1 (y := (a1, .inl (ka1, 23, .inl (f100)))) hP hD (by rw [ef100]) (fun hP hD => ?_)
          have bf100 : ((∀ k : Nat, 0 ≤ k → k ≤ 8 → (0 : Int) ≤ (f100 k).toInt ∧ (f100 k).toInt ≤ 8) ∧ (∀ k : Nat, 19 ≤ k → k ≤ 19 → (0 : Int) ≤ (f100 k).toInt ∧ (f100 k).toInt ≤ 8) ∧ (∀ k : Nat, 20 ≤ k → k ≤ 20 → (0 : Int) ≤ (f100 k).toInt ∧ (f100 k).toInt ≤ 19)) := by rw [ef100]; exact ⟨ai_updO bv63nfa1.1 _ (Or.inr (ai_ngt_of zq162 (by decide) (by decide))), ai_updO bv63nfa1.2.1 _ (Or.inr (ai_ngt_of zq162 (by decide) (by decide))), ai_updO bv63nfa1.2.2 _ (Or.inr (ai_ngt_of zq162 (by decide) (by decide)))⟩
          have kf100_21 : f100 21 = x99 := by rw [ef100]; exact ai_k1 (by decide +kernel)
          have fqf100 := fl_up_eq ef100
          have hF0 := hF0.trans (fl_lt_eq (show (fl_A f100) = fl_up (fl_A v63nfa1) (21) x99.toInt from fqf100))
          refine lv_aload_n hx hb dX8_minuteOn_101 rfl (lv_at hl 2 rfl) ?_
          refine lv_bipush (v := 20) hx hb dX8_minuteOn_102 zk_bipush_20 ?_
          refine lv_dup2_11 hx hb dX8_minuteOn_104 rfl rfl ?_
          refine va_iald hx hb hK hP 1 0 rfl rfl (by unfold vp_in; decide +kernel) dX8_minuteOn_105 ?_
          refine lv_topi (fun x105 ex105 => ?_)
          have bx105 : (0 : Int) ≤ x105.toInt ∧ x105.toInt ≤ 19 := by rw [ex105]; exact ai_rd bf100.2.2 zq153 zq154 (by decide) (by decide) (by decide)
          have fqx105 := congrArg Int32.toInt ex105
          have hF0 := hF0.trans (fl_lt_eq (show x105.toInt = (fl_A f100) (20) from fqx105))
          refine lv_iconst (v := 1) hx hb dX8_minuteOn_106 zk_iconst_1 ?_
          refine lv_iadd hx hb dX8_minuteOn_107 ?_
          refine lv_topi (fun x107 ex107 => ?_)
          have qx107 : x107.toInt = x105.toInt + (1 : Int32).toInt := ai_add ex107 ⟨bx105.1, bx105.2⟩ ⟨zq1, zq0⟩ (by decide) (by decide)
          have bx107 : (1 : Int) ≤ x107.toInt ∧ x107.toInt ≤ 20 := ⟨by rw [qx107]; exact Int.add_le_add bx105.1 zq1, by rw [qx107]; exact Int.add_le_add bx105.2 zq0⟩
          have wx107 : x107.toInt = x105.toInt + 1 := qx107
          have hF0 := hF0.trans (fl_lt_eq (show x107.toInt = x105.toInt + 1 from qx107))
          refine va_iast hx hb hK hP hD hS 1 0 rfl rfl (by unfold vp_in; decide +kernel) dX8_minuteOn_108 (fun H locs hP hD hS => ?_)
          obtain ⟨f108, ef108⟩ : ∃ g9 : Nat → Int32, g9 = upd f100 (20 : Int32).toNatClampNeg x107 := ⟨_, rfl⟩
          refine zs_1 (y := (a1, .inl (ka1, 23, .inl (f108)))) hP hD (by rw [ef108]) (fun hP hD => ?_)
          have bf108 : ((∀ k : Nat, 0 ≤ k → k ≤ 8 → (0 : Int) ≤ (f108 k).toInt ∧ (f108 k).toInt ≤ 8) ∧ (∀ k : Nat, 19 ≤ k → k ≤ 19 → (0 : Int) ≤ (f108 k).toInt ∧ (f108 k).toInt ≤ 8) ∧ True) := by rw [ef108]; exact ⟨ai_updO bf100.1 _ (Or.inr (ai_ngt_of zq153 (by decide) (by decide))), ai_updO bf100.2.1 _ (Or.inr (ai_ngt_of zq153 (by decide) (by decide))), trivial⟩
          have kf108_20 : f108 20 = x107 := by rw [ef108]; exact ai_k1 (by decide +kernel)
          have kf108_21 : f108 21 = x99 := by rw [ef108]; exact ai_k2 (by decide +kernel) kf100_21
          have fqf108 := fl_up_eq ef108
          have hF0 := hF0.trans (fl_lt_eq (show (fl_A f108) = fl_up (fl_A f100) (20) x107.toInt from fqf108))
          refine lv_aload_n hx hb dX8_minuteOn_109 rfl (lv_at hl 2 rfl) ?_
          refine lv_bipush (v := 20) hx hb dX8_minuteOn_110 zk_bipush_20 ?_
          refine va_iald hx hb hK hP 1 0 rfl rfl (by unfold vp_in; decide +kernel) dX8_minuteOn_112 ?_
          refine ax_ti x107 ((congrArg f108 (by decide +kernel : (20 : Int32).toNatClampNeg = 20)).trans kf108_20) ?_
          refine lv_aload_n hx hb dX8_minuteOn_113 rfl (lv_at hl 1 rfl) ?_
          refine va_get (D := (dC, dI)) (ci := 8) (v := .ref a0_15) (C := RX8) (T := TX8) (N := 40) hx hb hts zi_X8_minuteOn_8 hown hK hP 0 rfl rfl 15 (by decide) (hts (.fieldLink RX8 20 "WaxTurnsModel" "\x72" "[I") (zm_X8_minuteOn_r1 (List.mem_of_getElem? (i := 1) rfl))) (fun _ h9 => h9) rfl dX8_minuteOn_114 ?_
          refine lv_iconst (v := 1) hx hb dX8_minuteOn_117 zk_iconst_1 ?_
          refine va_iald hx hb hK hP 2 1 rfl rfl (by unfold vp_in; decide +kernel) dX8_minuteOn_118 ?_
          refine lv_topi (fun x118 ex118 => ?_)
          have bx118 : (1 : Int) ≤ x118.toInt ∧ x118.toInt ≤ 20 := by rw [ex118]; exact ai_rd bfa0_15.2.1 zq1 zq0 (by decide) (by decide) (by decide)
          have fqx118 := congrArg Int32.toInt ex118
          have hF0 := hF0.trans (fl_lt_eq (show x118.toInt = (fl_A fa0_15) (1) from fqx118))
          refine lv_icmp_ge (tgt := 123) hx hb dX8_minuteOn_119 (by decide) (fun c119 => ?_) (fun c119 => ?_)
          · have gc119 := ai_le c119
            have u119t_x118 : x118.toInt ≤ (20 : Int) := bx118.2
            have l119t_x107 : (1 : Int) ≤ x107.toInt := bx107.1
            have hF0 := hF0.trans (if_pos (show x118.toInt ≤ x107.toInt from gc119))
            refine lv_aload_n hx hb dX8_minuteOn_123 rfl (lv_at hl 2 rfl) ?_
            refine lv_bipush (v := 20) hx hb dX8_minuteOn_124 zk_bipush_20 ?_
            refine lv_iconst (v := 0) hx hb dX8_minuteOn_126 zk_iconst_0 ?_
            refine va_iast hx hb hK hP hD hS 1 0 rfl rfl (by unfold vp_in; decide +kernel) dX8_minuteOn_127 (fun H locs hP hD hS => ?_)
            obtain ⟨f127, ef127⟩ : ∃ g9 : Nat → Int32, g9 = upd f108 (20 : Int32).toNatClampNeg (0 : Int32) := ⟨_, rfl⟩
            refine zs_1 (y := (a1, .inl (ka1, 23, .inl (f127)))) hP hD (by rw [ef127]) (fun hP hD => ?_)
            have bf127 : ((∀ k : Nat, 0 ≤ k → k ≤ 8 → (0 : Int) ≤ (f127 k).toInt ∧ (f127 k).toInt ≤ 8) ∧ (∀ k : Nat, 19 ≤ k → k ≤ 19 → (0 : Int) ≤ (f127 k).toInt ∧ (f127 k).toInt ≤ 8) ∧ (∀ k : Nat, 20 ≤ k → k ≤ 20 → (0 : Int) ≤ (f127 k).toInt ∧ (f127 k).toInt ≤ 19)) := by rw [ef127]; exact ⟨ai_updO bf108.1 _ (Or.inr (ai_ngt_of zq153 (by decide) (by decide))), ai_updO bf108.2.1 _ (Or.inr (ai_ngt_of zq153 (by decide) (by decide))), ai_new (by decide +kernel) ⟨zq5, (Int.le_trans zq6 zq163)⟩⟩
            have kf127_20 : f127 20 = 0 := by rw [ef127]; exact ai_k1 (by decide +kernel)
            have kf127_21 : f127 21 = x99 := by rw [ef127]; exact ai_k2 (by decide +kernel) kf108_21
            have fqf127 := fl_up_eq ef127
            have hF0 := hF0.trans (fl_lt_eq (show (fl_A f127) = fl_up (fl_A f108) (20) 0 from fqf127))
            refine lv_aload_n hx hb dX8_minuteOn_128 rfl (lv_at hl 2 rfl) ?_
            refine lv_bipush (v := 19) hx hb dX8_minuteOn_129 zk_bipush_19 ?_
            refine lv_aload_n hx hb dX8_minuteOn_131 rfl (lv_at hl 1 rfl) ?_
            refine lv_iload_n hx hb dX8_minuteOn_132 rfl (lv_at hl 0 rfl) ?_
            refine zc_cutc (wc := [(a0, .inr (8, [a0g_0, a0g_1, a0g_2, a0g_3, a0g_4, a0g_5, a0g_6, a0g_7, a0g_8, a0g_9, a0g_10, a0g_11, a0g_12, a0g_13, a0g_14, Value.ref a0_15, a0g_16, a0g_17, a0g_18, a0g_19, a0g_20, a0g_21, a0g_22, Value.ref a0_23, Value.ref a0_24, Value.int a0_25, Value.int x3, Value.int (-1), Value.int v63na0_28, a0g_29, a0g_30, a0g_31, a0g_32, a0g_33, a0g_34, a0g_35, a0g_36, a0g_37, a0g_38, a0g_39])), (a0_15, .inl (ka0_15, 156, .inl (fa0_15)))]) hP hD hS hA [0, 2] (by decide +kernel) rfl (fun hPc hDc hFc hCc => ?_)
            have hKc := hK.sub (tys' := [(ka0_15, .int)]) [1] rfl
            refine va_calli (va_runV (As := [.int x3]) (rest := [.int 19, .ref a1]) ⟨hx, hb, hml, hown, hts⟩ (f_X8_nextOf l dC dI H.size a0 x3 a0g_0 a0g_1 a0g_2 a0g_3 a0g_4 a0g_5 a0g_6 a0g_7 a0g_8 a0g_9 a0g_10 a0g_11 a0g_12 a0g_13 a0g_14 a0g_16 a0g_17 a0g_18 a0g_19 a0g_20 a0g_21 a0g_22 (Value.ref a0_23) (Value.ref a0_24) (Value.int a0_25) (Value.int x3) (Value.int (-1)) (Value.int v63na0_28) a0g_29 a0g_30 a0g_31 a0g_32 a0g_33 a0g_34 a0g_35 a0g_36 a0g_37 a0g_38 a0g_39 a0_15 ka0_15 fa0_15 bx3.1 bx3.2 bfa0_15) (cwV 1 hts gX8_minuteOn_X8_nextOf rfl rfl rfl zd_X8_nextOf ⟨Nat.le_of_ble_eq_true rfl, Nat.le_of_ble_eq_true rfl⟩) ⟨ax_blind (fun _ _ _ _ _ => trivial), zr_8 hKc hPc (q0 := 0) rfl, ax_pre hPc hKc hDc (fun _ _ => trivial)⟩ rfl rfl hl.1 rfl (lv_room (Nat.le_of_ble_eq_true rfl)) dX8_minuteOn_133 ⟨Nat.le_of_ble_eq_true rfl, Nat.le_of_ble_eq_true rfl⟩) hS (fun q _ h => hFc q h) hFc (fun r133 u t H locs ht hvm hw hB hz1 hk1 hS1 => zo hB ht hS1 (fun hP1 hK1 hD1 hS => ?_))
            refine zc_backc (w := [(a0, .inr (8, [a0g_0, a0g_1, a0g_2, a0g_3, a0g_4, a0g_5, a0g_6, a0g_7, a0g_8, a0g_9, a0g_10, a0g_11, a0g_12, a0g_13, a0g_14, Value.ref a0_15, a0g_16, a0g_17, a0g_18, a0g_19, a0g_20, a0g_21, a0g_22, Value.ref a0_23, Value.ref a0_24, Value.int a0_25, Value.int x3, Value.int (-1), Value.int v63na0_28, a0g_29, a0g_30, a0g_31, a0g_32, a0g_33, a0g_34, a0g_35, a0g_36, a0g_37, a0g_38, a0g_39])), (a1, .inl (ka1, 23, .inl (f127))), (a0_15, .inl (ka0_15, 156, .inl (fa0_15))), (a0_24, .inl (ka0_24, 3, .inl (fa0_24))), (a0_23, .inl (ka0_23, 3, .inl (fa0_23)))]) hP hD hCc hk1 hFc hP1 hD1 [.inr 0, .inl 1, .inr 1, .inl 3, .inl 4] (by decide +kernel) rfl (fun hP hD => ?_)
            obtain ⟨hw, hfr133⟩ := hw
            have hc133 : Ff_X8_nextOf x3.toInt (fl_A fa0_15) = r133.toInt := hfr133.symm
            have hF0 := hF0.trans (fl_lt_eq hc133.symm)
            have hw : (0 : Int) ≤ r133.toInt ∧ r133.toInt ≤ (8 : Int) := hw
            obtain ⟨h133_0, h133_1⟩ := hw
            refine va_iast hx hb hK hP hD hS 1 0 rfl rfl (by unfold vp_in; decide +kernel) dX8_minuteOn_136 (fun H locs hP hD hS => ?_)
            obtain ⟨f136, ef136⟩ : ∃ g9 : Nat → Int32, g9 = upd f127 (19 : Int32).toNatClampNeg r133 := ⟨_, rfl⟩
            refine zs_1 (y := (a1, .inl (ka1, 23, .inl (f136)))) hP hD (by rw [ef136]) (fun hP hD => ?_)
            have bf136 : ((∀ k : Nat, 0 ≤ k → k ≤ 8 → (0 : Int) ≤ (f136 k).toInt ∧ (f136 k).toInt ≤ 8) ∧ (∀ k : Nat, 19 ≤ k → k ≤ 19 → (0 : Int) ≤ (f136 k).toInt ∧ (f136 k).toInt ≤ 8) ∧ (∀ k : Nat, 20 ≤ k → k ≤ 20 → (0 : Int) ≤ (f136 k).toInt ∧ (f136 k).toInt ≤ 19)) := by rw [ef136]; exact ⟨ai_updO bf127.1 _ (Or.inr (ai_ngt_of zq160 (by decide) (by decide))), ai_updS bf127.2.1 _ ⟨h133_0, h133_1⟩, ai_updO bf127.2.2 _ (Or.inl (ai_nlt_of zq160 zq161 (by decide) (by decide)))⟩
            have kf136_19 : f136 19 = r133 := by rw [ef136]; exact ai_k1 (by decide +kernel)
            have kf136_20 : f136 20 = 0 := by rw [ef136]; exact ai_k2 (by decide +kernel) kf127_20
            have kf136_21 : f136 21 = x99 := by rw [ef136]; exact ai_k2 (by decide +kernel) kf127_21
            have fqf136 := fl_up_eq ef136
            have hF0 := hF0.trans (fl_lt_eq (show (fl_A f136) = fl_up (fl_A f127) (19) r133.toInt from fqf136))
            have hFe : FX = (x3.toInt, (-1), v63na0_28.toInt, (fl_A f136)) := hF0
            exact W.vret hx hb hr (fun t ht hW => ⟨⟨(), rfl, trivial, x3, (-1), v63na0_28, f136, bf136, hFe, by rw [ht]; exact hP, va_K.moved hW.alike hK, hD⟩, hS.F ht⟩) hS.2.2 dX8_minuteOn_137
          · have gc119 := ai_nle c119
            have u119f_x107 : x107.toInt ≤ (19 : Int) := ai_lthi gc119 bx118.2
            have u119f_x105 : x105.toInt ≤ (18 : Int) := by have h1 := wx107; have h2 := u119f_x107; omega
            have l119f_x118 : (2 : Int) ≤ x118.toInt := ai_ltlo gc119 bx107.1
            have hF0 := hF0.trans (if_neg (show ¬ (x118.toInt ≤ x107.toInt) from Int.not_le.mpr gc119))
            have hFe : FX = (x3.toInt, (-1), v63na0_28.toInt, (fl_A f108)) := hF0
            exact W.vret hx hb hr (fun t ht hW => ⟨⟨(), rfl, trivial, x3, (-1), v63na0_28, f108, ⟨bf108.1, bf108.2.1, ai_one (by rw [kf108_20]; exact ⟨(Int.le_trans zq4 bx107.1), u119f_x107⟩)⟩, hFe, by rw [ht]; exact hP, va_K.moved hW.alike hK, hD⟩, hS.F ht⟩) hS.2.2 dX8_minuteOn_122
        · subst hw
          have hF0 := hF0.trans (if_neg (by decide))
          refine lv_if_eq (tgt := 87) hx hb dX8_minuteOn_80 (by decide) (fun _ => ?_) (fun c80 => absurd (by decide +kernel) c80)
          refine lv_aload_n hx hb dX8_minuteOn_87 rfl (lv_at hl 2 rfl) ?_
          refine lv_iload_n hx hb dX8_minuteOn_88 rfl (lv_at hl 0 rfl) ?_
          refine va_iald hx hb hK hP 1 0 rfl rfl (ai_in bx3.1 bx3.2 (by decide) (by decide)) dX8_minuteOn_89 ?_
          refine lv_topi (fun x89 ex89 => ?_)
          have bx89 : (0 : Int) ≤ x89.toInt ∧ x89.toInt ≤ 8 := by rw [ex89]; exact ai_rd bv63nfa1.1 bx3.1 bx3.2 (by decide) (by decide) (by decide)
          have fqx89 := congrArg Int32.toInt ex89
          have hF0 := hF0.trans (fl_lt_eq (show x89.toInt = (fl_A v63nfa1) (x3.toInt.toNat) from fqx89))
          refine va_put (D := (dC, dI)) (ci := 8) (v := .int x89) (ty := .int) (C := RX8) (T := TX8) (N := 40) hx hb hts zi_X8_minuteOn_8 tyX8 tyX8_ok nmX8 hown hK hP hD hS 0 rfl rfl 27 (by decide) (hts (.fieldLink RX8 261 "WaxTurnsModel" "livedAt" "I") (zm_X8_minuteOn_r1 (List.mem_of_getElem? (i := 3) rfl))) (fun _ h9 => h9) rfl (tyX8_ok 27 (by decide)) rfl rfl (Nat.le_of_ble_eq_true rfl) dX8_minuteOn_90 (fun H locs hP hD hS => ?_)
          refine zs_0 (y := (a0, .inr (8, [a0g_0, a0g_1, a0g_2, a0g_3, a0g_4, a0g_5, a0g_6, a0g_7, a0g_8, a0g_9, a0g_10, a0g_11, a0g_12, a0g_13, a0g_14, Value.ref a0_15, a0g_16, a0g_17, a0g_18, a0g_19, a0g_20, a0g_21, a0g_22, Value.ref a0_23, Value.ref a0_24, Value.int a0_25, Value.int x3, Value.int x89, Value.int v63na0_28, a0g_29, a0g_30, a0g_31, a0g_32, a0g_33, a0g_34, a0g_35, a0g_36, a0g_37, a0g_38, a0g_39]))) hP hD rfl (fun hP hD => ?_)
          refine lv_aload_n hx hb dX8_minuteOn_93 rfl (lv_at hl 2 rfl) ?_
          refine lv_bipush (v := 21) hx hb dX8_minuteOn_94 zk_bipush_21 ?_
          refine lv_dup2_11 hx hb dX8_minuteOn_96 rfl rfl ?_
          refine va_iald hx hb hK hP 1 0 rfl rfl (by unfold vp_in; decide +kernel) dX8_minuteOn_97 ?_
          refine lv_topi (fun x97 ex97 => ?_)
          have fqx97 := congrArg Int32.toInt ex97
          have hF0 := hF0.trans (fl_lt_eq (show x97.toInt = (fl_A v63nfa1) (21) from fqx97))
          refine lv_iconst (v := 1) hx hb dX8_minuteOn_98 zk_iconst_1 ?_
          refine lv_iadd hx hb dX8_minuteOn_99 ?_
          refine lv_topi (fun x99 ex99 => ?_)
          have fqx99 := fl_iadd_eq ex99
          have hF0 := hF0.trans (fl_lt_eq (show x99.toInt = fl_iadd x97.toInt 1 from fqx99))
          refine va_iast hx hb hK hP hD hS 1 0 rfl rfl (by unfold vp_in; decide +kernel) dX8_minuteOn_100 (fun H locs hP hD hS => ?_)
          obtain ⟨f100, ef100⟩ : ∃ g9 : Nat → Int32, g9 = upd v63nfa1 (21 : Int32).toNatClampNeg x99 := ⟨_, rfl⟩
          refine zs_1 (y := (a1, .inl (ka1, 23, .inl (f100)))) hP hD (by rw [ef100]) (fun hP hD => ?_)
          have bf100 : ((∀ k : Nat, 0 ≤ k → k ≤ 8 → (0 : Int) ≤ (f100 k).toInt ∧ (f100 k).toInt ≤ 8) ∧ (∀ k : Nat, 19 ≤ k → k ≤ 19 → (0 : Int) ≤ (f100 k).toInt ∧ (f100 k).toInt ≤ 8) ∧ (∀ k : Nat, 20 ≤ k → k ≤ 20 → (0 : Int) ≤ (f100 k).toInt ∧ (f100 k).toInt ≤ 19)) := by rw [ef100]; exact ⟨ai_updO bv63nfa1.1 _ (Or.inr (ai_ngt_of zq162 (by decide) (by decide))), ai_updO bv63nfa1.2.1 _ (Or.inr (ai_ngt_of zq162 (by decide) (by decide))), ai_updO bv63nfa1.2.2 _ (Or.inr (ai_ngt_of zq162 (by decide) (by decide)))⟩
          have kf100_21 : f100 21 = x99 := by rw [ef100]; exact ai_k1 (by decide +kernel)
          have fqf100 := fl_up_eq ef100
          have hF0 := hF0.trans (fl_lt_eq (show (fl_A f100) = fl_up (fl_A v63nfa1) (21) x99.toInt from fqf100))
          refine lv_aload_n hx hb dX8_minuteOn_101 rfl (lv_at hl 2 rfl) ?_
          refine lv_bipush (v := 20) hx hb dX8_minuteOn_102 zk_bipush_20 ?_
          refine lv_dup2_11 hx hb dX8_minuteOn_104 rfl rfl ?_
          refine va_iald hx hb hK hP 1 0 rfl rfl (by unfold vp_in; decide +kernel) dX8_minuteOn_105 ?_
          refine lv_topi (fun x105 ex105 => ?_)
          have bx105 : (0 : Int) ≤ x105.toInt ∧ x105.toInt ≤ 19 := by rw [ex105]; exact ai_rd bf100.2.2 zq153 zq154 (by decide) (by decide) (by decide)
          have fqx105 := congrArg Int32.toInt ex105
          have hF0 := hF0.trans (fl_lt_eq (show x105.toInt = (fl_A f100) (20) from fqx105))
          refine lv_iconst (v := 1) hx hb dX8_minuteOn_106 zk_iconst_1 ?_
          refine lv_iadd hx hb dX8_minuteOn_107 ?_
          refine lv_topi (fun x107 ex107 => ?_)
          have qx107 : x107.toInt = x105.toInt + (1 : Int32).toInt := ai_add ex107 ⟨bx105.1, bx105.2⟩ ⟨zq1, zq0⟩ (by decide) (by decide)
          have bx107 : (1 : Int) ≤ x107.toInt ∧ x107.toInt ≤ 20 := ⟨by rw [qx107]; exact Int.add_le_add bx105.1 zq1, by rw [qx107]; exact Int.add_le_add bx105.2 zq0⟩
          have wx107 : x107.toInt = x105.toInt + 1 := qx107
          have hF0 := hF0.trans (fl_lt_eq (show x107.toInt = x105.toInt + 1 from qx107))
          refine va_iast hx hb hK hP hD hS 1 0 rfl rfl (by unfold vp_in; decide +kernel) dX8_minuteOn_108 (fun H locs hP hD hS => ?_)
          obtain ⟨f108, ef108⟩ : ∃ g9 : Nat → Int32, g9 = upd f100 (20 : Int32).toNatClampNeg x107 := ⟨_, rfl⟩
          refine zs_1 (y := (a1, .inl (ka1, 23, .inl (f108)))) hP hD (by rw [ef108]) (fun hP hD => ?_)
          have bf108 : ((∀ k : Nat, 0 ≤ k → k ≤ 8 → (0 : Int) ≤ (f108 k).toInt ∧ (f108 k).toInt ≤ 8) ∧ (∀ k : Nat, 19 ≤ k → k ≤ 19 → (0 : Int) ≤ (f108 k).toInt ∧ (f108 k).toInt ≤ 8) ∧ True) := by rw [ef108]; exact ⟨ai_updO bf100.1 _ (Or.inr (ai_ngt_of zq153 (by decide) (by decide))), ai_updO bf100.2.1 _ (Or.inr (ai_ngt_of zq153 (by decide) (by decide))), trivial⟩
          have kf108_20 : f108 20 = x107 := by rw [ef108]; exact ai_k1 (by decide +kernel)
          have kf108_21 : f108 21 = x99 := by rw [ef108]; exact ai_k2 (by decide +kernel) kf100_21
          have fqf108 := fl_up_eq ef108
          have hF0 := hF0.trans (fl_lt_eq (show (fl_A f108) = fl_up (fl_A f100) (20) x107.toInt from fqf108))
          refine lv_aload_n hx hb dX8_minuteOn_109 rfl (lv_at hl 2 rfl) ?_
          refine lv_bipush (v := 20) hx hb dX8_minuteOn_110 zk_bipush_20 ?_
          refine va_iald hx hb hK hP 1 0 rfl rfl (by unfold vp_in; decide +kernel) dX8_minuteOn_112 ?_
          refine ax_ti x107 ((congrArg f108 (by decide +kernel : (20 : Int32).toNatClampNeg = 20)).trans kf108_20) ?_
          refine lv_aload_n hx hb dX8_minuteOn_113 rfl (lv_at hl 1 rfl) ?_
          refine va_get (D := (dC, dI)) (ci := 8) (v := .ref a0_15) (C := RX8) (T := TX8) (N := 40) hx hb hts zi_X8_minuteOn_8 hown hK hP 0 rfl rfl 15 (by decide) (hts (.fieldLink RX8 20 "WaxTurnsModel" "\x72" "[I") (zm_X8_minuteOn_r1 (List.mem_of_getElem? (i := 1) rfl))) (fun _ h9 => h9) rfl dX8_minuteOn_114 ?_
          refine lv_iconst (v := 1) hx hb dX8_minuteOn_117 zk_iconst_1 ?_
          refine va_iald hx hb hK hP 2 1 rfl rfl (by unfold vp_in; decide +kernel) dX8_minuteOn_118 ?_
          refine lv_topi (fun x118 ex118 => ?_)
          have bx118 : (1 : Int) ≤ x118.toInt ∧ x118.toInt ≤ 20 := by rw [ex118]; exact ai_rd bfa0_15.2.1 zq1 zq0 (by decide) (by decide) (by decide)
          have fqx118 := congrArg Int32.toInt ex118
          have hF0 := hF0.trans (fl_lt_eq (show x118.toInt = (fl_A fa0_15) (1) from fqx118))
          refine lv_icmp_ge (tgt := 123) hx hb dX8_minuteOn_119 (by decide) (fun c119 => ?_) (fun c119 => ?_)
          · have gc119 := ai_le c119
            have u119t_x118 : x118.toInt ≤ (20 : Int) := bx118.2
            have l119t_x107 : (1 : Int) ≤ x107.toInt := bx107.1
            have hF0 := hF0.trans (if_pos (show x118.toInt ≤ x107.toInt from gc119))
            refine lv_aload_n hx hb dX8_minuteOn_123 rfl (lv_at hl 2 rfl) ?_
            refine lv_bipush (v := 20) hx hb dX8_minuteOn_124 zk_bipush_20 ?_
            refine lv_iconst (v := 0) hx hb dX8_minuteOn_126 zk_iconst_0 ?_
            refine va_iast hx hb hK hP hD hS 1 0 rfl rfl (by unfold vp_in; decide +kernel) dX8_minuteOn_127 (fun H locs hP hD hS => ?_)
            obtain ⟨f127, ef127⟩ : ∃ g9 : Nat → Int32, g9 = upd f108 (20 : Int32).toNatClampNeg (0 : Int32) := ⟨_, rfl⟩
            refine zs_1 (y := (a1, .inl (ka1, 23, .inl (f127)))) hP hD (by rw [ef127]) (fun hP hD => ?_)
            have bf127 : ((∀ k : Nat, 0 ≤ k → k ≤ 8 → (0 : Int) ≤ (f127 k).toInt ∧ (f127 k).toInt ≤ 8) ∧ (∀ k : Nat, 19 ≤ k → k ≤ 19 → (0 : Int) ≤ (f127 k).toInt ∧ (f127 k).toInt ≤ 8) ∧ (∀ k : Nat, 20 ≤ k → k ≤ 20 → (0 : Int) ≤ (f127 k).toInt ∧ (f127 k).toInt ≤ 19)) := by rw [ef127]; exact ⟨ai_updO bf108.1 _ (Or.inr (ai_ngt_of zq153 (by decide) (by decide))), ai_updO bf108.2.1 _ (Or.inr (ai_ngt_of zq153 (by decide) (by decide))), ai_new (by decide +kernel) ⟨zq5, (Int.le_trans zq6 zq163)⟩⟩
            have kf127_20 : f127 20 = 0 := by rw [ef127]; exact ai_k1 (by decide +kernel)
            have kf127_21 : f127 21 = x99 := by rw [ef127]; exact ai_k2 (by decide +kernel) kf108_21
            have fqf127 := fl_up_eq ef127
            have hF0 := hF0.trans (fl_lt_eq (show (fl_A f127) = fl_up (fl_A f108) (20) 0 from fqf127))
            refine lv_aload_n hx hb dX8_minuteOn_128 rfl (lv_at hl 2 rfl) ?_
            refine lv_bipush (v := 19) hx hb dX8_minuteOn_129 zk_bipush_19 ?_
            refine lv_aload_n hx hb dX8_minuteOn_131 rfl (lv_at hl 1 rfl) ?_
            refine lv_iload_n hx hb dX8_minuteOn_132 rfl (lv_at hl 0 rfl) ?_
            refine zc_cutc (wc := [(a0, .inr (8, [a0g_0, a0g_1, a0g_2, a0g_3, a0g_4, a0g_5, a0g_6, a0g_7, a0g_8, a0g_9, a0g_10, a0g_11, a0g_12, a0g_13, a0g_14, Value.ref a0_15, a0g_16, a0g_17, a0g_18, a0g_19, a0g_20, a0g_21, a0g_22, Value.ref a0_23, Value.ref a0_24, Value.int a0_25, Value.int x3, Value.int x89, Value.int v63na0_28, a0g_29, a0g_30, a0g_31, a0g_32, a0g_33, a0g_34, a0g_35, a0g_36, a0g_37, a0g_38, a0g_39])), (a0_15, .inl (ka0_15, 156, .inl (fa0_15)))]) hP hD hS hA [0, 2] (by decide +kernel) rfl (fun hPc hDc hFc hCc => ?_)
            have hKc := hK.sub (tys' := [(ka0_15, .int)]) [1] rfl
            refine va_calli (va_runV (As := [.int x3]) (rest := [.int 19, .ref a1]) ⟨hx, hb, hml, hown, hts⟩ (f_X8_nextOf l dC dI H.size a0 x3 a0g_0 a0g_1 a0g_2 a0g_3 a0g_4 a0g_5 a0g_6 a0g_7 a0g_8 a0g_9 a0g_10 a0g_11 a0g_12 a0g_13 a0g_14 a0g_16 a0g_17 a0g_18 a0g_19 a0g_20 a0g_21 a0g_22 (Value.ref a0_23) (Value.ref a0_24) (Value.int a0_25) (Value.int x3) (Value.int x89) (Value.int v63na0_28) a0g_29 a0g_30 a0g_31 a0g_32 a0g_33 a0g_34 a0g_35 a0g_36 a0g_37 a0g_38 a0g_39 a0_15 ka0_15 fa0_15 bx3.1 bx3.2 bfa0_15) (cwV 1 hts gX8_minuteOn_X8_nextOf rfl rfl rfl zd_X8_nextOf ⟨Nat.le_of_ble_eq_true rfl, Nat.le_of_ble_eq_true rfl⟩) ⟨ax_blind (fun _ _ _ _ _ => trivial), zr_8 hKc hPc (q0 := 0) rfl, ax_pre hPc hKc hDc (fun _ _ => trivial)⟩ rfl rfl hl.1 rfl (lv_room (Nat.le_of_ble_eq_true rfl)) dX8_minuteOn_133 ⟨Nat.le_of_ble_eq_true rfl, Nat.le_of_ble_eq_true rfl⟩) hS (fun q _ h => hFc q h) hFc (fun r133 u t H locs ht hvm hw hB hz1 hk1 hS1 => zo hB ht hS1 (fun hP1 hK1 hD1 hS => ?_))
            refine zc_backc (w := [(a0, .inr (8, [a0g_0, a0g_1, a0g_2, a0g_3, a0g_4, a0g_5, a0g_6, a0g_7, a0g_8, a0g_9, a0g_10, a0g_11, a0g_12, a0g_13, a0g_14, Value.ref a0_15, a0g_16, a0g_17, a0g_18, a0g_19, a0g_20, a0g_21, a0g_22, Value.ref a0_23, Value.ref a0_24, Value.int a0_25, Value.int x3, Value.int x89, Value.int v63na0_28, a0g_29, a0g_30, a0g_31, a0g_32, a0g_33, a0g_34, a0g_35, a0g_36, a0g_37, a0g_38, a0g_39])), (a1, .inl (ka1, 23, .inl (f127))), (a0_15, .inl (ka0_15, 156, .inl (fa0_15))), (a0_24, .inl (ka0_24, 3, .inl (fa0_24))), (a0_23, .inl (ka0_23, 3, .inl (fa0_23)))]) hP hD hCc hk1 hFc hP1 hD1 [.inr 0, .inl 1, .inr 1, .inl 3, .inl 4] (by decide +kernel) rfl (fun hP hD => ?_)
            obtain ⟨hw, hfr133⟩ := hw
            have hc133 : Ff_X8_nextOf x3.toInt (fl_A fa0_15) = r133.toInt := hfr133.symm
            have hF0 := hF0.trans (fl_lt_eq hc133.symm)
            have hw : (0 : Int) ≤ r133.toInt ∧ r133.toInt ≤ (8 : Int) := hw
            obtain ⟨h133_0, h133_1⟩ := hw
            refine va_iast hx hb hK hP hD hS 1 0 rfl rfl (by unfold vp_in; decide +kernel) dX8_minuteOn_136 (fun H locs hP hD hS => ?_)
            obtain ⟨f136, ef136⟩ : ∃ g9 : Nat → Int32, g9 = upd f127 (19 : Int32).toNatClampNeg r133 := ⟨_, rfl⟩
            refine zs_1 (y := (a1, .inl (ka1, 23, .inl (f136)))) hP hD (by rw [ef136]) (fun hP hD => ?_)
            have bf136 : ((∀ k : Nat, 0 ≤ k → k ≤ 8 → (0 : Int) ≤ (f136 k).toInt ∧ (f136 k).toInt ≤ 8) ∧ (∀ k : Nat, 19 ≤ k → k ≤ 19 → (0 : Int) ≤ (f136 k).toInt ∧ (f136 k).toInt ≤ 8) ∧ (∀ k : Nat, 20 ≤ k → k ≤ 20 → (0 : Int) ≤ (f136 k).toInt ∧ (f136 k).toInt ≤ 19)) := by rw [ef136]; exact ⟨ai_updO bf127.1 _ (Or.inr (ai_ngt_of zq160 (by decide) (by decide))), ai_updS bf127.2.1 _ ⟨h133_0, h133_1⟩, ai_updO bf127.2.2 _ (Or.inl (ai_nlt_of zq160 zq161 (by decide) (by decide)))⟩
            have kf136_19 : f136 19 = r133 := by rw [ef136]; exact ai_k1 (by decide +kernel)
            have kf136_20 : f136 20 = 0 := by rw [ef136]; exact ai_k2 (by decide +kernel) kf127_20
            have kf136_21 : f136 21 = x99 := by rw [ef136]; exact ai_k2 (by decide +kernel) kf127_21
            have fqf136 := fl_up_eq ef136
            have hF0 := hF0.trans (fl_lt_eq (show (fl_A f136) = fl_up (fl_A f127) (19) r133.toInt from fqf136))
            have hFe : FX = (x3.toInt, x89.toInt, v63na0_28.toInt, (fl_A f136)) := hF0
            exact W.vret hx hb hr (fun t ht hW => ⟨⟨(), rfl, trivial, x3, x89, v63na0_28, f136, bf136, hFe, by rw [ht]; exact hP, va_K.moved hW.alike hK, hD⟩, hS.F ht⟩) hS.2.2 dX8_minuteOn_137
          · have gc119 := ai_nle c119
            have u119f_x107 : x107.toInt ≤ (19 : Int) := ai_lthi gc119 bx118.2
            have u119f_x105 : x105.toInt ≤ (18 : Int) := by have h1 := wx107; have h2 := u119f_x107; omega
            have l119f_x118 : (2 : Int) ≤ x118.toInt := ai_ltlo gc119 bx107.1
            have hF0 := hF0.trans (if_neg (show ¬ (x118.toInt ≤ x107.toInt) from Int.not_le.mpr gc119))
            have hFe : FX = (x3.toInt, x89.toInt, v63na0_28.toInt, (fl_A f108)) := hF0
            exact W.vret hx hb hr (fun t ht hW => ⟨⟨(), rfl, trivial, x3, x89, v63na0_28, f108, ⟨bf108.1, bf108.2.1, ai_one (by rw [kf108_20]; exact ⟨(Int.le_trans zq4 bx107.1), u119f_x107⟩)⟩, hFe, by rw [ht]; exact hP, va_K.moved hW.alike hK, hD⟩, hS.F ht⟩) hS.2.2 dX8_minuteOn_122
    · have gc33 := ai_eq c33
      have u33f_x31 : x31.toInt ≤ (1 : Int) := Int.le_trans (Int.le_of_eq gc33) zq0
      have l33f_x31 : (1 : Int) ≤ x31.toInt := Int.le_trans zq1 (Int.le_of_eq gc33.symm)
      have hF0 := hF0.trans (if_pos (show x31.toInt = 1 from gc33))
      refine lv_aload_n hx hb dX8_minuteOn_36 rfl (lv_at hl 1 rfl) ?_
      refine lv_aload_n hx hb dX8_minuteOn_37 rfl (lv_at hl 2 rfl) ?_
      refine lv_iload_n hx hb dX8_minuteOn_38 rfl (lv_at hl 0 rfl) ?_
      have hKc := hK.sub (tys' := [(ka1, .int), (ka0_15, .int), (ka0_24, .int), (ka0_23, .int)]) [0, 1, 2, 3] rfl
      refine va_callv (va_runV (As := [.ref a1, .int x3]) (rest := []) ⟨hx, hb, hml, hown, hts⟩ (f_X8_walkOn l dC dI H.size a0 a1 x3 a0g_0 a0g_1 a0g_2 a0g_3 a0g_4 a0g_5 a0g_6 a0g_7 a0g_8 a0g_9 a0g_10 a0g_11 a0g_12 a0g_13 a0g_14 a0g_16 a0g_17 a0g_18 a0g_19 a0g_20 a0g_21 a0g_22 (Value.int a0_26) (Value.int a0_27) (Value.int 0) a0g_29 a0g_30 a0g_31 a0g_32 a0g_33 a0g_34 a0g_35 a0g_36 a0g_37 a0g_38 a0g_39 a0_15 a0_23 a0_24 a0_25 ka1 fa1 ka0_15 fa0_15 ka0_24 fa0_24 ka0_23 fa0_23 bx3.1 bx3.2 bfa1 bfa0_15 bfa0_24 bfa0_23 (fun i hi => hkm x3 x30 i bx3.1 bx3.2 (by omega) (by omega) (by rw [← ex31]; exact (ai_eq c33)))) (cwV 2 hts gX8_minuteOn_X8_walkOn rfl rfl rfl zd_X8_walkOn ⟨Nat.le_of_ble_eq_true rfl, Nat.le_of_ble_eq_true rfl⟩) ⟨ax_blind (fun _ _ _ _ _ => trivial), zr_8 hKc (zp_P5 hP) (q0 := 0) rfl, ax_pre (zp_P5 hP) hKc (zp_D5 hD) (fun _ _ => trivial)⟩ rfl rfl hl.1 rfl (lv_room (Nat.le_of_ble_eq_true rfl)) dX8_minuteOn_39 ⟨Nat.le_of_ble_eq_true rfl, Nat.le_of_ble_eq_true rfl⟩) hS (fun q _ h => zp_F5 hD hS hA q h) (zp_F5 hD hS hA) (fun u t H locs ht hvm hw => zx_1 (fun v39nfa1 => zy_2 (fun bv39nfa1 hraw39_0 hB hz1 hk1 hS1 => zo5 hB ht hP hD hk1 (zp_F5 hD hS hA) hS1 (fun hP hK1 hD hS => ?_))))
      have hc39 : Ff_X8_walkOn x3.toInt a0_25.toInt (fl_A fa1) (fl_A fa0_15) (fl_A fa0_24) (fl_A fa0_23) = (fl_A v39nfa1) := hraw39_0
      have hF0 := hF0.trans (fl_lt_eq hc39.symm)
      refine lv_goto (tgt := 66) hx hb dX8_minuteOn_42 (by decide) ?_
      refine lv_aload_n hx hb dX8_minuteOn_66 rfl (lv_at hl 1 rfl) ?_
      refine lv_iload_n hx hb dX8_minuteOn_67 rfl (lv_at hl 0 rfl) ?_
      refine va_put (D := (dC, dI)) (ci := 8) (v := .int x3) (ty := .int) (C := RX8) (T := TX8) (N := 40) hx hb hts zi_X8_minuteOn_8 tyX8 tyX8_ok nmX8 hown hK hP hD hS 0 rfl rfl 26 (by decide) (hts (.fieldLink RX8 258 "WaxTurnsModel" "lived" "I") (zm_X8_minuteOn_r1 (List.mem_of_getElem? (i := 2) rfl))) (fun _ h9 => h9) rfl (tyX8_ok 26 (by decide)) rfl rfl (Nat.le_of_ble_eq_true rfl) dX8_minuteOn_68 (fun H locs hP hD hS => ?_)
      refine zs_0 (y := (a0, .inr (8, [a0g_0, a0g_1, a0g_2, a0g_3, a0g_4, a0g_5, a0g_6, a0g_7, a0g_8, a0g_9, a0g_10, a0g_11, a0g_12, a0g_13, a0g_14, Value.ref a0_15, a0g_16, a0g_17, a0g_18, a0g_19, a0g_20, a0g_21, a0g_22, Value.ref a0_23, Value.ref a0_24, Value.int a0_25, Value.int x3, Value.int a0_27, Value.int 0, a0g_29, a0g_30, a0g_31, a0g_32, a0g_33, a0g_34, a0g_35, a0g_36, a0g_37, a0g_38, a0g_39]))) hP hD rfl (fun hP hD => ?_)
      refine lv_aload_n hx hb dX8_minuteOn_71 rfl (lv_at hl 1 rfl) ?_
      refine lv_aload_n hx hb dX8_minuteOn_72 rfl (lv_at hl 2 rfl) ?_
      refine lv_bipush (v := 18) hx hb dX8_minuteOn_73 zk_bipush_18 ?_
      refine va_iald hx hb hK hP 1 0 rfl rfl (by unfold vp_in; decide +kernel) dX8_minuteOn_75 ?_
      refine lv_topi (fun x75 ex75 => ?_)
      have fqx75 := congrArg Int32.toInt ex75
      have hF0 := hF0.trans (fl_lt_eq (show x75.toInt = (fl_A v39nfa1) (18) from fqx75))
      refine lv_iload_n hx hb dX8_minuteOn_76 rfl (lv_at hl 0 rfl) ?_
      refine va_calli (va_runS (As := [.int x75, .int x3]) (rest := [.ref a0]) ⟨hx, hb, hml, hown, hts⟩ (f_X8_hasBit l dC dI H.size x75 x3 ) (va_cwS 2 hts gX8_minuteOn_X8_hasBit rfl rfl rfl zd_X8_hasBit.2 ⟨Nat.le_of_ble_eq_true rfl, Nat.le_of_ble_eq_true rfl⟩) ⟨ax_blind (fun _ _ _ _ _ => trivial), ax_pre (zp_P0 hP) (zp_K hK) (zp_D0 hD) (fun _ _ => trivial)⟩ rfl rfl hl.1 rfl (lv_room (Nat.le_of_ble_eq_true rfl)) dX8_minuteOn_77 ⟨Nat.le_of_ble_eq_true rfl, Nat.le_of_ble_eq_true rfl⟩) hS (fun q _ h => zp_F0 hD hS hA q h) (zp_F0 hD hS hA) (fun r77 u t H locs ht hvm hw hB hz1 hk1 hS1 => zo0 hB ht hP hD hk1 (zp_F0 hD hS hA) hS1 (fun hP hK1 hD hS => ?_))
      obtain ⟨hw, hfr77⟩ := hw
      have hc77 : Ff_X8_hasBit x75.toInt x3.toInt = r77.toInt := hfr77.symm
      have hF0 := hF0.trans (fl_lt_eq hc77.symm)
      rcases hw with hw | hw
      · subst hw
        have hF0 := hF0.trans (if_pos (by decide))
        refine lv_if_eq (tgt := 87) hx hb dX8_minuteOn_80 (by decide) (fun c80 => absurd c80 (by decide +kernel)) (fun _ => ?_)
        refine lv_iconst (v := (-1)) hx hb dX8_minuteOn_83 zk_iconst_n1 ?_
        refine lv_goto (tgt := 90) hx hb dX8_minuteOn_84 (by decide) ?_
        refine va_put (D := (dC, dI)) (ci := 8) (v := .int (-1)) (ty := .int) (C := RX8) (T := TX8) (N := 40) hx hb hts zi_X8_minuteOn_8 tyX8 tyX8_ok nmX8 hown hK hP hD hS 0 rfl rfl 27 (by decide) (hts (.fieldLink RX8 261 "WaxTurnsModel" "livedAt" "I") (zm_X8_minuteOn_r1 (List.mem_of_getElem? (i := 3) rfl))) (fun _ h9 => h9) rfl (tyX8_ok 27 (by decide)) rfl rfl (Nat.le_of_ble_eq_true rfl) dX8_minuteOn_90 (fun H locs hP hD hS => ?_)
        refine zs_0 (y := (a0, .inr (8, [a0g_0, a0g_1, a0g_2, a0g_3, a0g_4, a0g_5, a0g_6, a0g_7, a0g_8, a0g_9, a0g_10, a0g_11, a0g_12, a0g_13, a0g_14, Value.ref a0_15, a0g_16, a0g_17, a0g_18, a0g_19, a0g_20, a0g_21, a0g_22, Value.ref a0_23, Value.ref a0_24, Value.int a0_25, Value.int x3, Value.int (-1), Value.int 0, a0g_29, a0g_30, a0g_31, a0g_32, a0g_33, a0g_34, a0g_35, a0g_36, a0g_37, a0g_38, a0g_39]))) hP hD rfl (fun hP hD => ?_)
        refine lv_aload_n hx hb dX8_minuteOn_93 rfl (lv_at hl 2 rfl) ?_
        refine lv_bipush (v := 21) hx hb dX8_minuteOn_94 zk_bipush_21 ?_
        refine lv_dup2_11 hx hb dX8_minuteOn_96 rfl rfl ?_
        refine va_iald hx hb hK hP 1 0 rfl rfl (by unfold vp_in; decide +kernel) dX8_minuteOn_97 ?_
        refine lv_topi (fun x97 ex97 => ?_)
        have fqx97 := congrArg Int32.toInt ex97
        have hF0 := hF0.trans (fl_lt_eq (show x97.toInt = (fl_A v39nfa1) (21) from fqx97))
        refine lv_iconst (v := 1) hx hb dX8_minuteOn_98 zk_iconst_1 ?_
        refine lv_iadd hx hb dX8_minuteOn_99 ?_
        refine lv_topi (fun x99 ex99 => ?_)
        have fqx99 := fl_iadd_eq ex99
        have hF0 := hF0.trans (fl_lt_eq (show x99.toInt = fl_iadd x97.toInt 1 from fqx99))
        refine va_iast hx hb hK hP hD hS 1 0 rfl rfl (by unfold vp_in; decide +kernel) dX8_minuteOn_100 (fun H locs hP hD hS => ?_)
        obtain ⟨f100, ef100⟩ : ∃ g9 : Nat → Int32, g9 = upd v39nfa1 (21 : Int32).toNatClampNeg x99 := ⟨_, rfl⟩
        refine zs_1 (y := (a1, .inl (ka1, 23, .inl (f100)))) hP hD (by rw [ef100]) (fun hP hD => ?_)
        have bf100 : ((∀ k : Nat, 0 ≤ k → k ≤ 8 → (0 : Int) ≤ (f100 k).toInt ∧ (f100 k).toInt ≤ 8) ∧ (∀ k : Nat, 19 ≤ k → k ≤ 19 → (0 : Int) ≤ (f100 k).toInt ∧ (f100 k).toInt ≤ 8) ∧ (∀ k : Nat, 20 ≤ k → k ≤ 20 → (0 : Int) ≤ (f100 k).toInt ∧ (f100 k).toInt ≤ 19)) := by rw [ef100]; exact ⟨ai_updO bv39nfa1.1 _ (Or.inr (ai_ngt_of zq162 (by decide) (by decide))), ai_updO bv39nfa1.2.1 _ (Or.inr (ai_ngt_of zq162 (by decide) (by decide))), ai_updO bv39nfa1.2.2 _ (Or.inr (ai_ngt_of zq162 (by decide) (by decide)))⟩
        have kf100_21 : f100 21 = x99 := by rw [ef100]; exact ai_k1 (by decide +kernel)
        have fqf100 := fl_up_eq ef100
        have hF0 := hF0.trans (fl_lt_eq (show (fl_A f100) = fl_up (fl_A v39nfa1) (21) x99.toInt from fqf100))
        refine lv_aload_n hx hb dX8_minuteOn_101 rfl (lv_at hl 2 rfl) ?_
        refine lv_bipush (v := 20) hx hb dX8_minuteOn_102 zk_bipush_20 ?_
        refine lv_dup2_11 hx hb dX8_minuteOn_104 rfl rfl ?_
        refine va_iald hx hb hK hP 1 0 rfl rfl (by unfold vp_in; decide +kernel) dX8_minuteOn_105 ?_
        refine lv_topi (fun x105 ex105 => ?_)
        have bx105 : (0 : Int) ≤ x105.toInt ∧ x105.toInt ≤ 19 := by rw [ex105]; exact ai_rd bf100.2.2 zq153 zq154 (by decide) (by decide) (by decide)
        have fqx105 := congrArg Int32.toInt ex105
        have hF0 := hF0.trans (fl_lt_eq (show x105.toInt = (fl_A f100) (20) from fqx105))
        refine lv_iconst (v := 1) hx hb dX8_minuteOn_106 zk_iconst_1 ?_
        refine lv_iadd hx hb dX8_minuteOn_107 ?_
        refine lv_topi (fun x107 ex107 => ?_)
        have qx107 : x107.toInt = x105.toInt + (1 : Int32).toInt := ai_add ex107 ⟨bx105.1, bx105.2⟩ ⟨zq1, zq0⟩ (by decide) (by decide)
        have bx107 : (1 : Int) ≤ x107.toInt ∧ x107.toInt ≤ 20 := ⟨by rw [qx107]; exact Int.add_le_add bx105.1 zq1, by rw [qx107]; exact Int.add_le_add bx105.2 zq0⟩
        have wx107 : x107.toInt = x105.toInt + 1 := qx107
        have hF0 := hF0.trans (fl_lt_eq (show x107.toInt = x105.toInt + 1 from qx107))
        refine va_iast hx hb hK hP hD hS 1 0 rfl rfl (by unfold vp_in; decide +kernel) dX8_minuteOn_108 (fun H locs hP hD hS => ?_)
        obtain ⟨f108, ef108⟩ : ∃ g9 : Nat → Int32, g9 = upd f100 (20 : Int32).toNatClampNeg x107 := ⟨_, rfl⟩
        refine zs_1 (y := (a1, .inl (ka1, 23, .inl (f108)))) hP hD (by rw [ef108]) (fun hP hD => ?_)
        have bf108 : ((∀ k : Nat, 0 ≤ k → k ≤ 8 → (0 : Int) ≤ (f108 k).toInt ∧ (f108 k).toInt ≤ 8) ∧ (∀ k : Nat, 19 ≤ k → k ≤ 19 → (0 : Int) ≤ (f108 k).toInt ∧ (f108 k).toInt ≤ 8) ∧ True) := by rw [ef108]; exact ⟨ai_updO bf100.1 _ (Or.inr (ai_ngt_of zq153 (by decide) (by decide))), ai_updO bf100.2.1 _ (Or.inr (ai_ngt_of zq153 (by decide) (by decide))), trivial⟩
        have kf108_20 : f108 20 = x107 := by rw [ef108]; exact ai_k1 (by decide +kernel)
        have kf108_21 : f108 21 = x99 := by rw [ef108]; exact ai_k2 (by decide +kernel) kf100_21
        have fqf108 := fl_up_eq ef108
        have hF0 := hF0.trans (fl_lt_eq (show (fl_A f108) = fl_up (fl_A f100) (20) x107.toInt from fqf108))
        refine lv_aload_n hx hb dX8_minuteOn_109 rfl (lv_at hl 2 rfl) ?_
        refine lv_bipush (v := 20) hx hb dX8_minuteOn_110 zk_bipush_20 ?_
        refine va_iald hx hb hK hP 1 0 rfl rfl (by unfold vp_in; decide +kernel) dX8_minuteOn_112 ?_
        refine ax_ti x107 ((congrArg f108 (by decide +kernel : (20 : Int32).toNatClampNeg = 20)).trans kf108_20) ?_
        refine lv_aload_n hx hb dX8_minuteOn_113 rfl (lv_at hl 1 rfl) ?_
        refine va_get (D := (dC, dI)) (ci := 8) (v := .ref a0_15) (C := RX8) (T := TX8) (N := 40) hx hb hts zi_X8_minuteOn_8 hown hK hP 0 rfl rfl 15 (by decide) (hts (.fieldLink RX8 20 "WaxTurnsModel" "\x72" "[I") (zm_X8_minuteOn_r1 (List.mem_of_getElem? (i := 1) rfl))) (fun _ h9 => h9) rfl dX8_minuteOn_114 ?_
        refine lv_iconst (v := 1) hx hb dX8_minuteOn_117 zk_iconst_1 ?_
        refine va_iald hx hb hK hP 2 1 rfl rfl (by unfold vp_in; decide +kernel) dX8_minuteOn_118 ?_
        refine lv_topi (fun x118 ex118 => ?_)
        have bx118 : (1 : Int) ≤ x118.toInt ∧ x118.toInt ≤ 20 := by rw [ex118]; exact ai_rd bfa0_15.2.1 zq1 zq0 (by decide) (by decide) (by decide)
        have fqx118 := congrArg Int32.toInt ex118
        have hF0 := hF0.trans (fl_lt_eq (show x118.toInt = (fl_A fa0_15) (1) from fqx118))
        refine lv_icmp_ge (tgt := 123) hx hb dX8_minuteOn_119 (by decide) (fun c119 => ?_) (fun c119 => ?_)
        · have gc119 := ai_le c119
          have u119t_x118 : x118.toInt ≤ (20 : Int) := bx118.2
          have l119t_x107 : (1 : Int) ≤ x107.toInt := bx107.1
          have hF0 := hF0.trans (if_pos (show x118.toInt ≤ x107.toInt from gc119))
          refine lv_aload_n hx hb dX8_minuteOn_123 rfl (lv_at hl 2 rfl) ?_
          refine lv_bipush (v := 20) hx hb dX8_minuteOn_124 zk_bipush_20 ?_
          refine lv_iconst (v := 0) hx hb dX8_minuteOn_126 zk_iconst_0 ?_
          refine va_iast hx hb hK hP hD hS 1 0 rfl rfl (by unfold vp_in; decide +kernel) dX8_minuteOn_127 (fun H locs hP hD hS => ?_)
          obtain ⟨f127, ef127⟩ : ∃ g9 : Nat → Int32, g9 = upd f108 (20 : Int32).toNatClampNeg (0 : Int32) := ⟨_, rfl⟩
          refine zs_1 (y := (a1, .inl (ka1, 23, .inl (f127)))) hP hD (by rw [ef127]) (fun hP hD => ?_)
          have bf127 : ((∀ k : Nat, 0 ≤ k → k ≤ 8 → (0 : Int) ≤ (f127 k).toInt ∧ (f127 k).toInt ≤ 8) ∧ (∀ k : Nat, 19 ≤ k → k ≤ 19 → (0 : Int) ≤ (f127 k).toInt ∧ (f127 k).toInt ≤ 8) ∧ (∀ k : Nat, 20 ≤ k → k ≤ 20 → (0 : Int) ≤ (f127 k).toInt ∧ (f127 k).toInt ≤ 19)) := by rw [ef127]; exact ⟨ai_updO bf108.1 _ (Or.inr (ai_ngt_of zq153 (by decide) (by decide))), ai_updO bf108.2.1 _ (Or.inr (ai_ngt_of zq153 (by decide) (by decide))), ai_new (by decide +kernel) ⟨zq5, (Int.le_trans zq6 zq163)⟩⟩
          have kf127_20 : f127 20 = 0 := by rw [ef127]; exact ai_k1 (by decide +kernel)
          have kf127_21 : f127 21 = x99 := by rw [ef127]; exact ai_k2 (by decide +kernel) kf108_21
          have fqf127 := fl_up_eq ef127
          have hF0 := hF0.trans (fl_lt_eq (show (fl_A f127) = fl_up (fl_A f108) (20) 0 from fqf127))
          refine lv_aload_n hx hb dX8_minuteOn_128 rfl (lv_at hl 2 rfl) ?_
          refine lv_bipush (v := 19) hx hb dX8_minuteOn_129 zk_bipush_19 ?_
          refine lv_aload_n hx hb dX8_minuteOn_131 rfl (lv_at hl 1 rfl) ?_
          refine lv_iload_n hx hb dX8_minuteOn_132 rfl (lv_at hl 0 rfl) ?_
          refine zc_cutc (wc := [(a0, .inr (8, [a0g_0, a0g_1, a0g_2, a0g_3, a0g_4, a0g_5, a0g_6, a0g_7, a0g_8, a0g_9, a0g_10, a0g_11, a0g_12, a0g_13, a0g_14, Value.ref a0_15, a0g_16, a0g_17, a0g_18, a0g_19, a0g_20, a0g_21, a0g_22, Value.ref a0_23, Value.ref a0_24, Value.int a0_25, Value.int x3, Value.int (-1), Value.int 0, a0g_29, a0g_30, a0g_31, a0g_32, a0g_33, a0g_34, a0g_35, a0g_36, a0g_37, a0g_38, a0g_39])), (a0_15, .inl (ka0_15, 156, .inl (fa0_15)))]) hP hD hS hA [0, 2] (by decide +kernel) rfl (fun hPc hDc hFc hCc => ?_)
          have hKc := hK.sub (tys' := [(ka0_15, .int)]) [1] rfl
          refine va_calli (va_runV (As := [.int x3]) (rest := [.int 19, .ref a1]) ⟨hx, hb, hml, hown, hts⟩ (f_X8_nextOf l dC dI H.size a0 x3 a0g_0 a0g_1 a0g_2 a0g_3 a0g_4 a0g_5 a0g_6 a0g_7 a0g_8 a0g_9 a0g_10 a0g_11 a0g_12 a0g_13 a0g_14 a0g_16 a0g_17 a0g_18 a0g_19 a0g_20 a0g_21 a0g_22 (Value.ref a0_23) (Value.ref a0_24) (Value.int a0_25) (Value.int x3) (Value.int (-1)) (Value.int 0) a0g_29 a0g_30 a0g_31 a0g_32 a0g_33 a0g_34 a0g_35 a0g_36 a0g_37 a0g_38 a0g_39 a0_15 ka0_15 fa0_15 bx3.1 bx3.2 bfa0_15) (cwV 1 hts gX8_minuteOn_X8_nextOf rfl rfl rfl zd_X8_nextOf ⟨Nat.le_of_ble_eq_true rfl, Nat.le_of_ble_eq_true rfl⟩) ⟨ax_blind (fun _ _ _ _ _ => trivial), zr_8 hKc hPc (q0 := 0) rfl, ax_pre hPc hKc hDc (fun _ _ => trivial)⟩ rfl rfl hl.1 rfl (lv_room (Nat.le_of_ble_eq_true rfl)) dX8_minuteOn_133 ⟨Nat.le_of_ble_eq_true rfl, Nat.le_of_ble_eq_true rfl⟩) hS (fun q _ h => hFc q h) hFc (fun r133 u t H locs ht hvm hw hB hz1 hk1 hS1 => zo hB ht hS1 (fun hP1 hK1 hD1 hS => ?_))
          refine zc_backc (w := [(a0, .inr (8, [a0g_0, a0g_1, a0g_2, a0g_3, a0g_4, a0g_5, a0g_6, a0g_7, a0g_8, a0g_9, a0g_10, a0g_11, a0g_12, a0g_13, a0g_14, Value.ref a0_15, a0g_16, a0g_17, a0g_18, a0g_19, a0g_20, a0g_21, a0g_22, Value.ref a0_23, Value.ref a0_24, Value.int a0_25, Value.int x3, Value.int (-1), Value.int 0, a0g_29, a0g_30, a0g_31, a0g_32, a0g_33, a0g_34, a0g_35, a0g_36, a0g_37, a0g_38, a0g_39])), (a1, .inl (ka1, 23, .inl (f127))), (a0_15, .inl (ka0_15, 156, .inl (fa0_15))), (a0_24, .inl (ka0_24, 3, .inl (fa0_24))), (a0_23, .inl (ka0_23, 3, .inl (fa0_23)))]) hP hD hCc hk1 hFc hP1 hD1 [.inr 0, .inl 1, .inr 1, .inl 3, .inl 4] (by decide +kernel) rfl (fun hP hD => ?_)
          obtain ⟨hw, hfr133⟩ := hw
          have hc133 : Ff_X8_nextOf x3.toInt (fl_A fa0_15) = r133.toInt := hfr133.symm
          have hF0 := hF0.trans (fl_lt_eq hc133.symm)
          have hw : (0 : Int) ≤ r133.toInt ∧ r133.toInt ≤ (8 : Int) := hw
          obtain ⟨h133_0, h133_1⟩ := hw
          refine va_iast hx hb hK hP hD hS 1 0 rfl rfl (by unfold vp_in; decide +kernel) dX8_minuteOn_136 (fun H locs hP hD hS => ?_)
          obtain ⟨f136, ef136⟩ : ∃ g9 : Nat → Int32, g9 = upd f127 (19 : Int32).toNatClampNeg r133 := ⟨_, rfl⟩
          refine zs_1 (y := (a1, .inl (ka1, 23, .inl (f136)))) hP hD (by rw [ef136]) (fun hP hD => ?_)
          have bf136 : ((∀ k : Nat, 0 ≤ k → k ≤ 8 → (0 : Int) ≤ (f136 k).toInt ∧ (f136 k).toInt ≤ 8) ∧ (∀ k : Nat, 19 ≤ k → k ≤ 19 → (0 : Int) ≤ (f136 k).toInt ∧ (f136 k).toInt ≤ 8) ∧ (∀ k : Nat, 20 ≤ k → k ≤ 20 → (0 : Int) ≤ (f136 k).toInt ∧ (f136 k).toInt ≤ 19)) := by rw [ef136]; exact ⟨ai_updO bf127.1 _ (Or.inr (ai_ngt_of zq160 (by decide) (by decide))), ai_updS bf127.2.1 _ ⟨h133_0, h133_1⟩, ai_updO bf127.2.2 _ (Or.inl (ai_nlt_of zq160 zq161 (by decide) (by decide)))⟩
          have kf136_19 : f136 19 = r133 := by rw [ef136]; exact ai_k1 (by decide +kernel)
          have kf136_20 : f136 20 = 0 := by rw [ef136]; exact ai_k2 (by decide +kernel) kf127_20
          have kf136_21 : f136 21 = x99 := by rw [ef136]; exact ai_k2 (by decide +kernel) kf127_21
          have fqf136 := fl_up_eq ef136
          have hF0 := hF0.trans (fl_lt_eq (show (fl_A f136) = fl_up (fl_A f127) (19) r133.toInt from fqf136))
          have hFe : FX = (x3.toInt, (-1), 0, (fl_A f136)) := hF0
          exact W.vret hx hb hr (fun t ht hW => ⟨⟨(), rfl, trivial, x3, (-1), 0, f136, bf136, hFe, by rw [ht]; exact hP, va_K.moved hW.alike hK, hD⟩, hS.F ht⟩) hS.2.2 dX8_minuteOn_137
        · have gc119 := ai_nle c119
          have u119f_x107 : x107.toInt ≤ (19 : Int) := ai_lthi gc119 bx118.2
          have u119f_x105 : x105.toInt ≤ (18 : Int) := by have h1 := wx107; have h2 := u119f_x107; omega
          have l119f_x118 : (2 : Int) ≤ x118.toInt := ai_ltlo gc119 bx107.1
          have hF0 := hF0.trans (if_neg (show ¬ (x118.toInt ≤ x107.toInt) from Int.not_le.mpr gc119))
          have hFe : FX = (x3.toInt, (-1), 0, (fl_A f108)) := hF0
          exact W.vret hx hb hr (fun t ht hW => ⟨⟨(), rfl, trivial, x3, (-1), 0, f108, ⟨bf108.1, bf108.2.1, ai_one (by rw [kf108_20]; exact ⟨(Int.le_trans zq4 bx107.1), u119f_x107⟩)⟩, hFe, by rw [ht]; exact hP, va_K.moved hW.alike hK, hD⟩, hS.F ht⟩) hS.2.2 dX8_minuteOn_122
      · subst hw
        have hF0 := hF0.trans (if_neg (by decide))
        refine lv_if_eq (tgt := 87) hx hb dX8_minuteOn_80 (by decide) (fun _ => ?_) (fun c80 => absurd (by decide +kernel) c80)
        refine lv_aload_n hx hb dX8_minuteOn_87 rfl (lv_at hl 2 rfl) ?_
        refine lv_iload_n hx hb dX8_minuteOn_88 rfl (lv_at hl 0 rfl) ?_
        refine va_iald hx hb hK hP 1 0 rfl rfl (ai_in bx3.1 bx3.2 (by decide) (by decide)) dX8_minuteOn_89 ?_
        refine lv_topi (fun x89 ex89 => ?_)
        have bx89 : (0 : Int) ≤ x89.toInt ∧ x89.toInt ≤ 8 := by rw [ex89]; exact ai_rd bv39nfa1.1 bx3.1 bx3.2 (by decide) (by decide) (by decide)
        have fqx89 := congrArg Int32.toInt ex89
        have hF0 := hF0.trans (fl_lt_eq (show x89.toInt = (fl_A v39nfa1) (x3.toInt.toNat) from fqx89))
        refine va_put (D := (dC, dI)) (ci := 8) (v := .int x89) (ty := .int) (C := RX8) (T := TX8) (N := 40) hx hb hts zi_X8_minuteOn_8 tyX8 tyX8_ok nmX8 hown hK hP hD hS 0 rfl rfl 27 (by decide) (hts (.fieldLink RX8 261 "WaxTurnsModel" "livedAt" "I") (zm_X8_minuteOn_r1 (List.mem_of_getElem? (i := 3) rfl))) (fun _ h9 => h9) rfl (tyX8_ok 27 (by decide)) rfl rfl (Nat.le_of_ble_eq_true rfl) dX8_minuteOn_90 (fun H locs hP hD hS => ?_)
        refine zs_0 (y := (a0, .inr (8, [a0g_0, a0g_1, a0g_2, a0g_3, a0g_4, a0g_5, a0g_6, a0g_7, a0g_8, a0g_9, a0g_10, a0g_11, a0g_12, a0g_13, a0g_14, Value.ref a0_15, a0g_16, a0g_17, a0g_18, a0g_19, a0g_20, a0g_21, a0g_22, Value.ref a0_23, Value.ref a0_24, Value.int a0_25, Value.int x3, Value.int x89, Value.int 0, a0g_29, a0g_30, a0g_31, a0g_32, a0g_33, a0g_34, a0g_35, a0g_36, a0g_37, a0g_38, a0g_39]))) hP hD rfl (fun hP hD => ?_)
        refine lv_aload_n hx hb dX8_minuteOn_93 rfl (lv_at hl 2 rfl) ?_
        refine lv_bipush (v := 21) hx hb dX8_minuteOn_94 zk_bipush_21 ?_
        refine lv_dup2_11 hx hb dX8_minuteOn_96 rfl rfl ?_
        refine va_iald hx hb hK hP 1 0 rfl rfl (by unfold vp_in; decide +kernel) dX8_minuteOn_97 ?_
        refine lv_topi (fun x97 ex97 => ?_)
        have fqx97 := congrArg Int32.toInt ex97
        have hF0 := hF0.trans (fl_lt_eq (show x97.toInt = (fl_A v39nfa1) (21) from fqx97))
        refine lv_iconst (v := 1) hx hb dX8_minuteOn_98 zk_iconst_1 ?_
        refine lv_iadd hx hb dX8_minuteOn_99 ?_
        refine lv_topi (fun x99 ex99 => ?_)
        have fqx99 := fl_iadd_eq ex99
        have hF0 := hF0.trans (fl_lt_eq (show x99.toInt = fl_iadd x97.toInt 1 from fqx99))
        refine va_iast hx hb hK hP hD hS 1 0 rfl rfl (by unfold vp_in; decide +kernel) dX8_minuteOn_100 (fun H locs hP hD hS => ?_)
        obtain ⟨f100, ef100⟩ : ∃ g9 : Nat → Int32, g9 = upd v39nfa1 (21 : Int32).toNatClampNeg x99 := ⟨_, rfl⟩
        refine zs_1 (y := (a1, .inl (ka1, 23, .inl (f100)))) hP hD (by rw [ef100]) (fun hP hD => ?_)
        have bf100 : ((∀ k : Nat, 0 ≤ k → k ≤ 8 → (0 : Int) ≤ (f100 k).toInt ∧ (f100 k).toInt ≤ 8) ∧ (∀ k : Nat, 19 ≤ k → k ≤ 19 → (0 : Int) ≤ (f100 k).toInt ∧ (f100 k).toInt ≤ 8) ∧ (∀ k : Nat, 20 ≤ k → k ≤ 20 → (0 : Int) ≤ (f100 k).toInt ∧ (f100 k).toInt ≤ 19)) := by rw [ef100]; exact ⟨ai_updO bv39nfa1.1 _ (Or.inr (ai_ngt_of zq162 (by decide) (by decide))), ai_updO bv39nfa1.2.1 _ (Or.inr (ai_ngt_of zq162 (by decide) (by decide))), ai_updO bv39nfa1.2.2 _ (Or.inr (ai_ngt_of zq162 (by decide) (by decide)))⟩
        have kf100_21 : f100 21 = x99 := by rw [ef100]; exact ai_k1 (by decide +kernel)
        have fqf100 := fl_up_eq ef100
        have hF0 := hF0.trans (fl_lt_eq (show (fl_A f100) = fl_up (fl_A v39nfa1) (21) x99.toInt from fqf100))
        refine lv_aload_n hx hb dX8_minuteOn_101 rfl (lv_at hl 2 rfl) ?_
        refine lv_bipush (v := 20) hx hb dX8_minuteOn_102 zk_bipush_20 ?_
        refine lv_dup2_11 hx hb dX8_minuteOn_104 rfl rfl ?_
        refine va_iald hx hb hK hP 1 0 rfl rfl (by unfold vp_in; decide +kernel) dX8_minuteOn_105 ?_
        refine lv_topi (fun x105 ex105 => ?_)
        have bx105 : (0 : Int) ≤ x105.toInt ∧ x105.toInt ≤ 19 := by rw [ex105]; exact ai_rd bf100.2.2 zq153 zq154 (by decide) (by decide) (by decide)
        have fqx105 := congrArg Int32.toInt ex105
        have hF0 := hF0.trans (fl_lt_eq (show x105.toInt = (fl_A f100) (20) from fqx105))
        refine lv_iconst (v := 1) hx hb dX8_minuteOn_106 zk_iconst_1 ?_
        refine lv_iadd hx hb dX8_minuteOn_107 ?_
        refine lv_topi (fun x107 ex107 => ?_)
        have qx107 : x107.toInt = x105.toInt + (1 : Int32).toInt := ai_add ex107 ⟨bx105.1, bx105.2⟩ ⟨zq1, zq0⟩ (by decide) (by decide)
        have bx107 : (1 : Int) ≤ x107.toInt ∧ x107.toInt ≤ 20 := ⟨by rw [qx107]; exact Int.add_le_add bx105.1 zq1, by rw [qx107]; exact Int.add_le_add bx105.2 zq0⟩
        have wx107 : x107.toInt = x105.toInt + 1 := qx107
        have hF0 := hF0.trans (fl_lt_eq (show x107.toInt = x105.toInt + 1 from qx107))
        refine va_iast hx hb hK hP hD hS 1 0 rfl rfl (by unfold vp_in; decide +kernel) dX8_minuteOn_108 (fun H locs hP hD hS => ?_)
        obtain ⟨f108, ef108⟩ : ∃ g9 : Nat → Int32, g9 = upd f100 (20 : Int32).toNatClampNeg x107 := ⟨_, rfl⟩
        refine zs_1 (y := (a1, .inl (ka1, 23, .inl (f108)))) hP hD (by rw [ef108]) (fun hP hD => ?_)
        have bf108 : ((∀ k : Nat, 0 ≤ k → k ≤ 8 → (0 : Int) ≤ (f108 k).toInt ∧ (f108 k).toInt ≤ 8) ∧ (∀ k : Nat, 19 ≤ k → k ≤ 19 → (0 : Int) ≤ (f108 k).toInt ∧ (f108 k).toInt ≤ 8) ∧ True) := by rw [ef108]; exact ⟨ai_updO bf100.1 _ (Or.inr (ai_ngt_of zq153 (by decide) (by decide))), ai_updO bf100.2.1 _ (Or.inr (ai_ngt_of zq153 (by decide) (by decide))), trivial⟩
        have kf108_20 : f108 20 = x107 := by rw [ef108]; exact ai_k1 (by decide +kernel)
        have kf108_21 : f108 21 = x99 := by rw [ef108]; exact ai_k2 (by decide +kernel) kf100_21
        have fqf108 := fl_up_eq ef108
        have hF0 := hF0.trans (fl_lt_eq (show (fl_A f108) = fl_up (fl_A f100) (20) x107.toInt from fqf108))
        refine lv_aload_n hx hb dX8_minuteOn_109 rfl (lv_at hl 2 rfl) ?_
        refine lv_bipush (v := 20) hx hb dX8_minuteOn_110 zk_bipush_20 ?_
        refine va_iald hx hb hK hP 1 0 rfl rfl (by unfold vp_in; decide +kernel) dX8_minuteOn_112 ?_
        refine ax_ti x107 ((congrArg f108 (by decide +kernel : (20 : Int32).toNatClampNeg = 20)).trans kf108_20) ?_
        refine lv_aload_n hx hb dX8_minuteOn_113 rfl (lv_at hl 1 rfl) ?_
        refine va_get (D := (dC, dI)) (ci := 8) (v := .ref a0_15) (C := RX8) (T := TX8) (N := 40) hx hb hts zi_X8_minuteOn_8 hown hK hP 0 rfl rfl 15 (by decide) (hts (.fieldLink RX8 20 "WaxTurnsModel" "\x72" "[I") (zm_X8_minuteOn_r1 (List.mem_of_getElem? (i := 1) rfl))) (fun _ h9 => h9) rfl dX8_minuteOn_114 ?_
        refine lv_iconst (v := 1) hx hb dX8_minuteOn_117 zk_iconst_1 ?_
        refine va_iald hx hb hK hP 2 1 rfl rfl (by unfold vp_in; decide +kernel) dX8_minuteOn_118 ?_
        refine lv_topi (fun x118 ex118 => ?_)
        have bx118 : (1 : Int) ≤ x118.toInt ∧ x118.toInt ≤ 20 := by rw [ex118]; exact ai_rd bfa0_15.2.1 zq1 zq0 (by decide) (by decide) (by decide)
        have fqx118 := congrArg Int32.toInt ex118
        have hF0 := hF0.trans (fl_lt_eq (show x118.toInt = (fl_A fa0_15) (1) from fqx118))
        refine lv_icmp_ge (tgt := 123) hx hb dX8_minuteOn_119 (by decide) (fun c119 => ?_) (fun c119 => ?_)
        · have gc119 := ai_le c119
          have u119t_x118 : x118.toInt ≤ (20 : Int) := bx118.2
          have l119t_x107 : (1 : Int) ≤ x107.toInt := bx107.1
          have hF0 := hF0.trans (if_pos (show x118.toInt ≤ x107.toInt from gc119))
          refine lv_aload_n hx hb dX8_minuteOn_123 rfl (lv_at hl 2 rfl) ?_
          refine lv_bipush (v := 20) hx hb dX8_minuteOn_124 zk_bipush_20 ?_
          refine lv_iconst (v := 0) hx hb dX8_minuteOn_126 zk_iconst_0 ?_
          refine va_iast hx hb hK hP hD hS 1 0 rfl rfl (by unfold vp_in; decide +kernel) dX8_minuteOn_127 (fun H locs hP hD hS => ?_)
          obtain ⟨f127, ef127⟩ : ∃ g9 : Nat → Int32, g9 = upd f108 (20 : Int32).toNatClampNeg (0 : Int32) := ⟨_, rfl⟩
          refine zs_1 (y := (a1, .inl (ka1, 23, .inl (f127)))) hP hD (by rw [ef127]) (fun hP hD => ?_)
          have bf127 : ((∀ k : Nat, 0 ≤ k → k ≤ 8 → (0 : Int) ≤ (f127 k).toInt ∧ (f127 k).toInt ≤ 8) ∧ (∀ k : Nat, 19 ≤ k → k ≤ 19 → (0 : Int) ≤ (f127 k).toInt ∧ (f127 k).toInt ≤ 8) ∧ (∀ k : Nat, 20 ≤ k → k ≤ 20 → (0 : Int) ≤ (f127 k).toInt ∧ (f127 k).toInt ≤ 19)) := by rw [ef127]; exact ⟨ai_updO bf108.1 _ (Or.inr (ai_ngt_of zq153 (by decide) (by decide))), ai_updO bf108.2.1 _ (Or.inr (ai_ngt_of zq153 (by decide) (by decide))), ai_new (by decide +kernel) ⟨zq5, (Int.le_trans zq6 zq163)⟩⟩
          have kf127_20 : f127 20 = 0 := by rw [ef127]; exact ai_k1 (by decide +kernel)
          have kf127_21 : f127 21 = x99 := by rw [ef127]; exact ai_k2 (by decide +kernel) kf108_21
          have fqf127 := fl_up_eq ef127
          have hF0 := hF0.trans (fl_lt_eq (show (fl_A f127) = fl_up (fl_A f108) (20) 0 from fqf127))
          refine lv_aload_n hx hb dX8_minuteOn_128 rfl (lv_at hl 2 rfl) ?_
          refine lv_bipush (v := 19) hx hb dX8_minuteOn_129 zk_bipush_19 ?_
          refine lv_aload_n hx hb dX8_minuteOn_131 rfl (lv_at hl 1 rfl) ?_
          refine lv_iload_n hx hb dX8_minuteOn_132 rfl (lv_at hl 0 rfl) ?_
          refine zc_cutc (wc := [(a0, .inr (8, [a0g_0, a0g_1, a0g_2, a0g_3, a0g_4, a0g_5, a0g_6, a0g_7, a0g_8, a0g_9, a0g_10, a0g_11, a0g_12, a0g_13, a0g_14, Value.ref a0_15, a0g_16, a0g_17, a0g_18, a0g_19, a0g_20, a0g_21, a0g_22, Value.ref a0_23, Value.ref a0_24, Value.int a0_25, Value.int x3, Value.int x89, Value.int 0, a0g_29, a0g_30, a0g_31, a0g_32, a0g_33, a0g_34, a0g_35, a0g_36, a0g_37, a0g_38, a0g_39])), (a0_15, .inl (ka0_15, 156, .inl (fa0_15)))]) hP hD hS hA [0, 2] (by decide +kernel) rfl (fun hPc hDc hFc hCc => ?_)
          have hKc := hK.sub (tys' := [(ka0_15, .int)]) [1] rfl
          refine va_calli (va_runV (As := [.int x3]) (rest := [.int 19, .ref a1]) ⟨hx, hb, hml, hown, hts⟩ (f_X8_nextOf l dC dI H.size a0 x3 a0g_0 a0g_1 a0g_2 a0g_3 a0g_4 a0g_5 a0g_6 a0g_7 a0g_8 a0g_9 a0g_10 a0g_11 a0g_12 a0g_13 a0g_14 a0g_16 a0g_17 a0g_18 a0g_19 a0g_20 a0g_21 a0g_22 (Value.ref a0_23) (Value.ref a0_24) (Value.int a0_25) (Value.int x3) (Value.int x89) (Value.int 0) a0g_29 a0g_30 a0g_31 a0g_32 a0g_33 a0g_34 a0g_35 a0g_36 a0g_37 a0g_38 a0g_39 a0_15 ka0_15 fa0_15 bx3.1 bx3.2 bfa0_15) (cwV 1 hts gX8_minuteOn_X8_nextOf rfl rfl rfl zd_X8_nextOf ⟨Nat.le_of_ble_eq_true rfl, Nat.le_of_ble_eq_true rfl⟩) ⟨ax_blind (fun _ _ _ _ _ => trivial), zr_8 hKc hPc (q0 := 0) rfl, ax_pre hPc hKc hDc (fun _ _ => trivial)⟩ rfl rfl hl.1 rfl (lv_room (Nat.le_of_ble_eq_true rfl)) dX8_minuteOn_133 ⟨Nat.le_of_ble_eq_true rfl, Nat.le_of_ble_eq_true rfl⟩) hS (fun q _ h => hFc q h) hFc (fun r133 u t H locs ht hvm hw hB hz1 hk1 hS1 => zo hB ht hS1 (fun hP1 hK1 hD1 hS => ?_))
          refine zc_backc (w := [(a0, .inr (8, [a0g_0, a0g_1, a0g_2, a0g_3, a0g_4, a0g_5, a0g_6, a0g_7, a0g_8, a0g_9, a0g_10, a0g_11, a0g_12, a0g_13, a0g_14, Value.ref a0_15, a0g_16, a0g_17, a0g_18, a0g_19, a0g_20, a0g_21, a0g_22, Value.ref a0_23, Value.ref a0_24, Value.int a0_25, Value.int x3, Value.int x89, Value.int 0, a0g_29, a0g_30, a0g_31, a0g_32, a0g_33, a0g_34, a0g_35, a0g_36, a0g_37, a0g_38, a0g_39])), (a1, .inl (ka1, 23, .inl (f127))), (a0_15, .inl (ka0_15, 156, .inl (fa0_15))), (a0_24, .inl (ka0_24, 3, .inl (fa0_24))), (a0_23, .inl (ka0_23, 3, .inl (fa0_23)))]) hP hD hCc hk1 hFc hP1 hD1 [.inr 0, .inl 1, .inr 1, .inl 3, .inl 4] (by decide +kernel) rfl (fun hP hD => ?_)
          obtain ⟨hw, hfr133⟩ := hw
          have hc133 : Ff_X8_nextOf x3.toInt (fl_A fa0_15) = r133.toInt := hfr133.symm
          have hF0 := hF0.trans (fl_lt_eq hc133.symm)
          have hw : (0 : Int) ≤ r133.toInt ∧ r133.toInt ≤ (8 : Int) := hw
          obtain ⟨h133_0, h133_1⟩ := hw
          refine va_iast hx hb hK hP hD hS 1 0 rfl rfl (by unfold vp_in; decide +kernel) dX8_minuteOn_136 (fun H locs hP hD hS => ?_)
          obtain ⟨f136, ef136⟩ : ∃ g9 : Nat → Int32, g9 = upd f127 (19 : Int32).toNatClampNeg r133 := ⟨_, rfl⟩
          refine zs_1 (y := (a1, .inl (ka1, 23, .inl (f136)))) hP hD (by rw [ef136]) (fun hP hD => ?_)
          have bf136 : ((∀ k : Nat, 0 ≤ k → k ≤ 8 → (0 : Int) ≤ (f136 k).toInt ∧ (f136 k).toInt ≤ 8) ∧ (∀ k : Nat, 19 ≤ k → k ≤ 19 → (0 : Int) ≤ (f136 k).toInt ∧ (f136 k).toInt ≤ 8) ∧ (∀ k : Nat, 20 ≤ k → k ≤ 20 → (0 : Int) ≤ (f136 k).toInt ∧ (f136 k).toInt ≤ 19)) := by rw [ef136]; exact ⟨ai_updO bf127.1 _ (Or.inr (ai_ngt_of zq160 (by decide) (by decide))), ai_updS bf127.2.1 _ ⟨h133_0, h133_1⟩, ai_updO bf127.2.2 _ (Or.inl (ai_nlt_of zq160 zq161 (by decide) (by decide)))⟩
          have kf136_19 : f136 19 = r133 := by rw [ef136]; exact ai_k1 (by decide +kernel)
          have kf136_20 : f136 20 = 0 := by rw [ef136]; exact ai_k2 (by decide +kernel) kf127_20
          have kf136_21 : f136 21 = x99 := by rw [ef136]; exact ai_k2 (by decide +kernel) kf127_21
          have fqf136 := fl_up_eq ef136
          have hF0 := hF0.trans (fl_lt_eq (show (fl_A f136) = fl_up (fl_A f127) (19) r133.toInt from fqf136))
          have hFe : FX = (x3.toInt, x89.toInt, 0, (fl_A f136)) := hF0
          exact W.vret hx hb hr (fun t ht hW => ⟨⟨(), rfl, trivial, x3, x89, 0, f136, bf136, hFe, by rw [ht]; exact hP, va_K.moved hW.alike hK, hD⟩, hS.F ht⟩) hS.2.2 dX8_minuteOn_137
        · have gc119 := ai_nle c119
          have u119f_x107 : x107.toInt ≤ (19 : Int) := ai_lthi gc119 bx118.2
          have u119f_x105 : x105.toInt ≤ (18 : Int) := by have h1 := wx107; have h2 := u119f_x107; omega
          have l119f_x118 : (2 : Int) ≤ x118.toInt := ai_ltlo gc119 bx107.1
          have hF0 := hF0.trans (if_neg (show ¬ (x118.toInt ≤ x107.toInt) from Int.not_le.mpr gc119))
          have hFe : FX = (x3.toInt, x89.toInt, 0, (fl_A f108)) := hF0
          exact W.vret hx hb hr (fun t ht hW => ⟨⟨(), rfl, trivial, x3, x89, 0, f108, ⟨bf108.1, bf108.2.1, ai_one (by rw [kf108_20]; exact ⟨(Int.le_trans zq4 bx107.1), u119f_x107⟩)⟩, hFe, by rw [ht]; exact hP, va_K.moved hW.alike hK, hD⟩, hS.F ht⟩) hS.2.2 dX8_minuteOn_122
end P314_03_f
section P314_04_f
set_option maxHeartbeats 4000000 in
set_option maxRecDepth 100000 in
theorem f_X5_copyFrom (l : Launch) (dC : Nat → ClassId) (dI : Nat → Nat → Nat) (sz : Nat) (a0 : Nat) (a1 : Nat) (a0_0 : Int32) (a0_1 : Int32) (a0_2 : Int32) (a0_3 : Int32) (a0_4 : Int32) (a0_5 : Nat) (a0_6 : Nat) (a1_0 : Int32) (a1_1 : Int32) (a1_2 : Int32) (a1_3 : Int32) (a1_4 : Int32) (a1_5 : Nat) (a1_6 : Nat) (ka1_5 : ClassId) (fa1_5 : Nat → Int32) (ka0_5 : ClassId) (fa0_5 : Nat → Int32) (ka1_6 : ClassId) (fa1_6 : Nat → Int32) (ka0_6 : ClassId) (fa0_6 : Nat → Int32) (ba0_1_l : (0 : Int) ≤ a0_1.toInt) (ba0_1_u : a0_1.toInt ≤ (8 : Int)) (ba1_1_l : (0 : Int) ≤ a1_1.toInt) (ba1_1_u : a1_1.toInt ≤ (8 : Int)) : zm l yX5_copyFrom wsX5_copyFrom ({ frames := 0, cells := 0, slots := 0, locals := 0 }) [.ref a0, .ref a1] dC dI sz [(a0, .inr (5, [.int a0_0, .int a0_1, .int a0_2, .int a0_3, .int a0_4, .ref a0_5, .ref a0_6])), (a1, .inr (5, [.int a1_0, .int a1_1, .int a1_2, .int a1_3, .int a1_4, .ref a1_5, .ref a1_6])), (a1_5, .inl (ka1_5, 9, .inl (fa1_5))), (a0_5, .inl (ka0_5, 9, .inl (fa0_5))), (a1_6, .inl (ka1_6, 9, .inl (fa1_6))), (a0_6, .inl (ka0_6, 9, .inl (fa0_6)))] [(ka1_5, .int), (ka0_5, .int), (ka1_6, .int), (ka0_6, .int)] (fun A _ => True) (fun A => va_Qv (fun (_ : Unit) => True) (fun (_ : Unit) (t : State) => ∃ na0_0 : Int32, ∃ na0_1 : Int32, ∃ na0_2 : Int32, ∃ na0_3 : Int32, ∃ na0_4 : Int32, ∃ nfa0_5 : Nat → Int32, ∃ nfa0_6 : Nat → Int32, ((0 : Int) ≤ na0_1.toInt ∧ na0_1.toInt ≤ 8) ∧ (Ff_X5_copyFrom a1_0.toInt a1_1.toInt a1_2.toInt a1_3.toInt a1_4.toInt (fl_A fa1_5) (fl_A fa0_5) (fl_A fa1_6) (fl_A fa0_6) = (na0_0.toInt, na0_1.toInt, na0_2.toInt, na0_3.toInt, na0_4.toInt, (fl_A nfa0_5), (fl_A nfa0_6))) ∧ ax_B dC dI A [(a0, .inr (5, [.int na0_0, .int na0_1, .int na0_2, .int na0_3, .int na0_4, .ref a0_5, .ref a0_6])), (a1, .inr (5, [.int a1_0, .int a1_1, .int a1_2, .int a1_3, .int a1_4, .ref a1_5, .ref a1_6])), (a1_5, .inl (ka1_5, 9, .inl (fa1_5))), (a0_5, .inl (ka0_5, 9, .inl (nfa0_5))), (a1_6, .inl (ka1_6, 9, .inl (fa1_6))), (a0_6, .inl (ka0_6, 9, .inl (nfa0_6)))] [(ka1_5, .int), (ka0_5, .int), (ka1_6, .int), (ka0_6, .int)] t) A) := by
  refine zh (cc := cX5_copyFrom) (maxL := 3) (ret := none) zn_RX5 rfl (Nat.le_of_ble_eq_true rfl) (fun p e s m below meth c A ls hx hb hml hr hts (hown : s.vm.findClass RX5 = some m.cls) hlocks hA hS hP hK hD hE (hl : lv_has ls 3 [(0, .ref a0), (1, .ref a1)]) => ?_)
  generalize hFX : Ff_X5_copyFrom a1_0.toInt a1_1.toInt a1_2.toInt a1_3.toInt a1_4.toInt (fl_A fa1_5) (fl_A fa0_5) (fl_A fa1_6) (fl_A fa0_6) = FX at ⊢
  have hF0 := hFX.symm.trans (Ff_X5_copyFrom.eq_1 a1_0.toInt a1_1.toInt a1_2.toInt a1_3.toInt a1_4.toInt (fl_A fa1_5) (fl_A fa0_5) (fl_A fa1_6) (fl_A fa0_6))
  refine ai_open (fun K hK0 => ?_)
  refine (hK0 _ _ _).mpr ?_
  refine lv_aload_n hx hb dX5_copyFrom_0 rfl (lv_at hl 0 rfl) ?_
  refine lv_aload_n hx hb dX5_copyFrom_1 rfl (lv_at hl 1 rfl) ?_
  refine va_get (D := (dC, dI)) (ci := 5) (v := .int a1_0) (C := RX5) (T := TX5) (N := 7) hx hb hts zi_X5_copyFrom_5 hown hK hP 1 rfl rfl 0 (by decide) (hts (.fieldLink RX5 18 "WaxTurns$Scene" "minute" "I") (List.mem_cons_of_mem _ (List.mem_append_left _ (List.mem_of_getElem? (i := 0) rfl)))) (fun _ h9 => h9) rfl dX5_copyFrom_2 ?_
  refine va_put (D := (dC, dI)) (ci := 5) (v := .int a1_0) (ty := .int) (C := RX5) (T := TX5) (N := 7) hx hb hts zi_X5_copyFrom_5 tyX5 tyX5_ok nmX5 hown hK hP hD hS 0 rfl rfl 0 (by decide) (hts (.fieldLink RX5 18 "WaxTurns$Scene" "minute" "I") (List.mem_cons_of_mem _ (List.mem_append_left _ (List.mem_of_getElem? (i := 0) rfl)))) (fun _ h9 => h9) rfl (tyX5_ok 0 (by decide)) rfl rfl (Nat.le_of_ble_eq_true rfl) dX5_copyFrom_5 (fun H locs hP hD hS => ?_)
  refine zs_0 (y := (a0, .inr (5, [.int a1_0, .int a0_1, .int a0_2, .int a0_3, .int a0_4, .ref a0_5, .ref a0_6]))) hP hD rfl (fun hP hD => ?_)
  refine lv_aload_n hx hb dX5_copyFrom_8 rfl (lv_at hl 0 rfl) ?_
  refine lv_aload_n hx hb dX5_copyFrom_9 rfl (lv_at hl 1 rfl) ?_
  refine va_get (D := (dC, dI)) (ci := 5) (v := .int a1_1) (C := RX5) (T := TX5) (N := 7) hx hb hts zi_X5_copyFrom_5 hown hK hP 1 rfl rfl 1 (by decide) (hts (.fieldLink RX5 32 "WaxTurns$Scene" "turn" "I") (List.mem_cons_of_mem _ (List.mem_append_left _ (List.mem_of_getElem? (i := 1) rfl)))) (fun _ h9 => h9) rfl dX5_copyFrom_10 ?_
  refine va_put (D := (dC, dI)) (ci := 5) (v := .int a1_1) (ty := .int) (C := RX5) (T := TX5) (N := 7) hx hb hts zi_X5_copyFrom_5 tyX5 tyX5_ok nmX5 hown hK hP hD hS 0 rfl rfl 1 (by decide) (hts (.fieldLink RX5 32 "WaxTurns$Scene" "turn" "I") (List.mem_cons_of_mem _ (List.mem_append_left _ (List.mem_of_getElem? (i := 1) rfl)))) (fun _ h9 => h9) rfl (tyX5_ok 1 (by decide)) rfl rfl (Nat.le_of_ble_eq_true rfl) dX5_copyFrom_13 (fun H locs hP hD hS => ?_)
  refine zs_0 (y := (a0, .inr (5, [.int a1_0, .int a1_1, .int a0_2, .int a0_3, .int a0_4, .ref a0_5, .ref a0_6]))) hP hD rfl (fun hP hD => ?_)
  refine lv_aload_n hx hb dX5_copyFrom_16 rfl (lv_at hl 0 rfl) ?_
  refine lv_aload_n hx hb dX5_copyFrom_17 rfl (lv_at hl 1 rfl) ?_
  refine va_get (D := (dC, dI)) (ci := 5) (v := .int a1_2) (C := RX5) (T := TX5) (N := 7) hx hb hts zi_X5_copyFrom_5 hown hK hP 1 rfl rfl 2 (by decide) (hts (.fieldLink RX5 35 "WaxTurns$Scene" "spent" "I") (List.mem_cons_of_mem _ (List.mem_append_left _ (List.mem_of_getElem? (i := 2) rfl)))) (fun _ h9 => h9) rfl dX5_copyFrom_18 ?_
  refine va_put (D := (dC, dI)) (ci := 5) (v := .int a1_2) (ty := .int) (C := RX5) (T := TX5) (N := 7) hx hb hts zi_X5_copyFrom_5 tyX5 tyX5_ok nmX5 hown hK hP hD hS 0 rfl rfl 2 (by decide) (hts (.fieldLink RX5 35 "WaxTurns$Scene" "spent" "I") (List.mem_cons_of_mem _ (List.mem_append_left _ (List.mem_of_getElem? (i := 2) rfl)))) (fun _ h9 => h9) rfl (tyX5_ok 2 (by decide)) rfl rfl (Nat.le_of_ble_eq_true rfl) dX5_copyFrom_21 (fun H locs hP hD hS => ?_)
  refine zs_0 (y := (a0, .inr (5, [.int a1_0, .int a1_1, .int a1_2, .int a0_3, .int a0_4, .ref a0_5, .ref a0_6]))) hP hD rfl (fun hP hD => ?_)
  refine lv_aload_n hx hb dX5_copyFrom_24 rfl (lv_at hl 0 rfl) ?_
  refine lv_aload_n hx hb dX5_copyFrom_25 rfl (lv_at hl 1 rfl) ?_
  refine va_get (D := (dC, dI)) (ci := 5) (v := .int a1_3) (C := RX5) (T := TX5) (N := 7) hx hb hts zi_X5_copyFrom_5 hown hK hP 1 rfl rfl 3 (by decide) (hts (.fieldLink RX5 22 "WaxTurns$Scene" "goneBits" "I") (List.mem_cons_of_mem _ (List.mem_append_left _ (List.mem_of_getElem? (i := 3) rfl)))) (fun _ h9 => h9) rfl dX5_copyFrom_26 ?_
  refine va_put (D := (dC, dI)) (ci := 5) (v := .int a1_3) (ty := .int) (C := RX5) (T := TX5) (N := 7) hx hb hts zi_X5_copyFrom_5 tyX5 tyX5_ok nmX5 hown hK hP hD hS 0 rfl rfl 3 (by decide) (hts (.fieldLink RX5 22 "WaxTurns$Scene" "goneBits" "I") (List.mem_cons_of_mem _ (List.mem_append_left _ (List.mem_of_getElem? (i := 3) rfl)))) (fun _ h9 => h9) rfl (tyX5_ok 3 (by decide)) rfl rfl (Nat.le_of_ble_eq_true rfl) dX5_copyFrom_29 (fun H locs hP hD hS => ?_)
  refine zs_0 (y := (a0, .inr (5, [.int a1_0, .int a1_1, .int a1_2, .int a1_3, .int a0_4, .ref a0_5, .ref a0_6]))) hP hD rfl (fun hP hD => ?_)
  refine lv_aload_n hx hb dX5_copyFrom_32 rfl (lv_at hl 0 rfl) ?_
  refine lv_aload_n hx hb dX5_copyFrom_33 rfl (lv_at hl 1 rfl) ?_
  refine va_get (D := (dC, dI)) (ci := 5) (v := .int a1_4) (C := RX5) (T := TX5) (N := 7) hx hb hts zi_X5_copyFrom_5 hown hK hP 1 rfl rfl 4 (by decide) (hts (.fieldLink RX5 25 "WaxTurns$Scene" "catchCount" "I") (List.mem_cons_of_mem _ (List.mem_append_left _ (List.mem_of_getElem? (i := 4) rfl)))) (fun _ h9 => h9) rfl dX5_copyFrom_34 ?_
  refine va_put (D := (dC, dI)) (ci := 5) (v := .int a1_4) (ty := .int) (C := RX5) (T := TX5) (N := 7) hx hb hts zi_X5_copyFrom_5 tyX5 tyX5_ok nmX5 hown hK hP hD hS 0 rfl rfl 4 (by decide) (hts (.fieldLink RX5 25 "WaxTurns$Scene" "catchCount" "I") (List.mem_cons_of_mem _ (List.mem_append_left _ (List.mem_of_getElem? (i := 4) rfl)))) (fun _ h9 => h9) rfl (tyX5_ok 4 (by decide)) rfl rfl (Nat.le_of_ble_eq_true rfl) dX5_copyFrom_37 (fun H locs hP hD hS => ?_)
  refine zs_0 (y := (a0, .inr (5, [.int a1_0, .int a1_1, .int a1_2, .int a1_3, .int a1_4, .ref a0_5, .ref a0_6]))) hP hD rfl (fun hP hD => ?_)
  refine lv_iconst (v := 0) hx hb dX5_copyFrom_40 zk_iconst_0 ?_
  refine lv_istore_n (lv' := [(2, .int 0), (0, .ref a0), (1, .ref a1)]) hx hb dX5_copyFrom_41 rfl hl (by decide) rfl (fun ls hl => ?_)
  have J42 : ∀ (n : Nat) (j42l2 : Int32) (j42a0_5_a : Nat → Int32) (j42a0_6_a : Nat → Int32) (H : Heap) (locs : List Loc) (ls : Array Slot), (10 : Int) - j42l2.toInt ≤ (n : Int) → (0 : Int) ≤ j42l2.toInt → j42l2.toInt ≤ (9 : Int) → (FX = fl_wh (fun t9 => Sf_X5_copyFrom_42_1 a1_0.toInt a1_1.toInt a1_2.toInt a1_3.toInt a1_4.toInt (fl_A fa1_5) (fl_A fa1_6) t9.1 t9.2.1 t9.2.2) (0, 0, 0, 0, 0, (fun _ => 0), (fun _ => 0)) n (j42l2.toInt, (fl_A j42a0_5_a), (fl_A j42a0_6_a))) → va_P (dC, dI) vwCl [(a0, .inr (5, [.int a1_0, .int a1_1, .int a1_2, .int a1_3, .int a1_4, .ref a0_5, .ref a0_6])), (a1, .inr (5, [.int a1_0, .int a1_1, .int a1_2, .int a1_3, .int a1_4, .ref a1_5, .ref a1_6])), (a1_5, .inl (ka1_5, 9, .inl (fa1_5))), (a0_5, .inl (ka0_5, 9, .inl (j42a0_5_a))), (a1_6, .inl (ka1_6, 9, .inl (fa1_6))), (a0_6, .inl (ka0_6, 9, .inl (j42a0_6_a)))] H → va_D A [(a0, .inr (5, [.int a1_0, .int a1_1, .int a1_2, .int a1_3, .int a1_4, .ref a0_5, .ref a0_6])), (a1, .inr (5, [.int a1_0, .int a1_1, .int a1_2, .int a1_3, .int a1_4, .ref a1_5, .ref a1_6])), (a1_5, .inl (ka1_5, 9, .inl (fa1_5))), (a0_5, .inl (ka0_5, 9, .inl (j42a0_5_a))), (a1_6, .inl (ka1_6, 9, .inl (fa1_6))), (a0_6, .inl (ka0_6, 9, .inl (j42a0_6_a)))] → va_S A s.heap H locs → lv_has ls 3 [(0, .ref a0), (1, .ref a1), (2, .int j42l2)] → K H locs (F0 m 42 ls []) := by
    intro n
    induction n with
    | zero =>
      intro j42l2 j42a0_5_a j42a0_6_a H locs ls hm bj42l2_l bj42l2_u hF0 hP hD hS hl
      first | exact zg_0 hm bj42l2_u (by decide) | (have h8 := ai_min j42l2; have h9 := ai_max j42l2; exact absurd hm (by omega))
    | succ n ih42 =>
      intro j42l2 j42a0_5_a j42a0_6_a H locs ls hm bj42l2_l bj42l2_u hF0 hP hD hS hl
      refine (hK0 _ _ _).mpr ?_
      have hm42 := hm
      obtain ⟨SX42, hSX42⟩ : ∃ q9, Sf_X5_copyFrom_42_1 a1_0.toInt a1_1.toInt a1_2.toInt a1_3.toInt a1_4.toInt (fl_A fa1_5) (fl_A fa1_6) j42l2.toInt (fl_A j42a0_5_a) (fl_A j42a0_6_a) = q9 := ⟨_, rfl⟩
      have hF1 := hSX42.symm.trans (Sf_X5_copyFrom_42_1.eq_1 a1_0.toInt a1_1.toInt a1_2.toInt a1_3.toInt a1_4.toInt (fl_A fa1_5) (fl_A fa1_6) j42l2.toInt (fl_A j42a0_5_a) (fl_A j42a0_6_a))
      refine lv_iload_n hx hb dX5_copyFrom_42 rfl (lv_at hl 2 rfl) ?_
      refine lv_bipush (v := 9) hx hb dX5_copyFrom_43 zk_bipush_9 ?_
      refine lv_icmp_ge (tgt := 78) hx hb dX5_copyFrom_45 (by decide) (fun c45 => ?_) (fun c45 => ?_)
      · have gc45 := ai_le c45
        have l45t_j42l2 : (9 : Int) ≤ j42l2.toInt := Int.le_trans zq2 gc45
        have hF1 := hF1.trans (if_pos (show 9 ≤ j42l2.toInt from gc45))
        have hF0 := hF0.trans (fl_wh_r (hSX42.trans hF1))
        have hFe : FX = (a1_0.toInt, a1_1.toInt, a1_2.toInt, a1_3.toInt, a1_4.toInt, (fl_A j42a0_5_a), (fl_A j42a0_6_a)) := hF0
        exact W.vret hx hb hr (fun t ht hW => ⟨⟨(), rfl, trivial, a1_0, a1_1, a1_2, a1_3, a1_4, j42a0_5_a, j42a0_6_a, ⟨ba1_1_l, ba1_1_u⟩, hFe, by rw [ht]; exact hP, va_K.moved hW.alike hK, hD⟩, hS.F ht⟩) hS.2.2 dX5_copyFrom_78
      · have gc45 := ai_nle c45
        have u45f_j42l2 : j42l2.toInt ≤ (8 : Int) := ai_lthi gc45 zq3
        have hF1 := hF1.trans (if_neg (show ¬ (9 ≤ j42l2.toInt) from Int.not_le.mpr gc45))
        refine lv_aload_n hx hb dX5_copyFrom_48 rfl (lv_at hl 0 rfl) ?_
        refine va_get (D := (dC, dI)) (ci := 5) (v := .ref a0_5) (C := RX5) (T := TX5) (N := 7) hx hb hts zi_X5_copyFrom_5 hown hK hP 0 rfl rfl 5 (by decide) (hts (.fieldLink RX5 9 "WaxTurns$Scene" "places" "[I") (List.mem_cons_of_mem _ (List.mem_append_left _ (List.mem_of_getElem? (i := 5) rfl)))) (fun _ h9 => h9) rfl dX5_copyFrom_49 ?_
        refine lv_iload_n hx hb dX5_copyFrom_52 rfl (lv_at hl 2 rfl) ?_
        refine lv_aload_n hx hb dX5_copyFrom_53 rfl (lv_at hl 1 rfl) ?_
        refine va_get (D := (dC, dI)) (ci := 5) (v := .ref a1_5) (C := RX5) (T := TX5) (N := 7) hx hb hts zi_X5_copyFrom_5 hown hK hP 1 rfl rfl 5 (by decide) (hts (.fieldLink RX5 9 "WaxTurns$Scene" "places" "[I") (List.mem_cons_of_mem _ (List.mem_append_left _ (List.mem_of_getElem? (i := 5) rfl)))) (fun _ h9 => h9) rfl dX5_copyFrom_54 ?_
        refine lv_iload_n hx hb dX5_copyFrom_57 rfl (lv_at hl 2 rfl) ?_
        refine va_iald hx hb hK hP 2 0 rfl rfl (ai_in bj42l2_l u45f_j42l2 (by decide) (by decide)) dX5_copyFrom_58 ?_
        refine lv_topi (fun x58 ex58 => ?_)
        have fqx58 := congrArg Int32.toInt ex58
        have hF1 := hF1.trans (fl_lt_eq (show x58.toInt = (fl_A fa1_5) (j42l2.toInt.toNat) from fqx58))
        refine va_iast hx hb hK hP hD hS 3 1 rfl rfl (ai_in bj42l2_l u45f_j42l2 (by decide) (by decide)) dX5_copyFrom_59 (fun H locs hP hD hS => ?_)
        obtain ⟨f59, ef59⟩ : ∃ g9 : Nat → Int32, g9 = upd j42a0_5_a (j42l2 : Int32).toNatClampNeg x58 := ⟨_, rfl⟩
        refine zs_3 (y := (a0_5, .inl (ka0_5, 9, .inl (f59)))) hP hD (by rw [ef59]) (fun hP hD => ?_)
        have fqf59 := fl_up_eq ef59
        have hF1 := hF1.trans (fl_lt_eq (show (fl_A f59) = fl_up (fl_A j42a0_5_a) (j42l2.toInt.toNat) x58.toInt from fqf59))
        refine lv_aload_n hx hb dX5_copyFrom_60 rfl (lv_at hl 0 rfl) ?_
        refine va_get (D := (dC, dI)) (ci := 5) (v := .ref a0_6) (C := RX5) (T := TX5) (N := 7) hx hb hts zi_X5_copyFrom_5 hown hK hP 0 rfl rfl 6 (by decide) (hts (.fieldLink RX5 15 "WaxTurns$Scene" "heardBits" "[I") (List.mem_cons_of_mem _ (List.mem_append_left _ (List.mem_of_getElem? (i := 6) rfl)))) (fun _ h9 => h9) rfl dX5_copyFrom_61 ?_
        refine lv_iload_n hx hb dX5_copyFrom_64 rfl (lv_at hl 2 rfl) ?_
        refine lv_aload_n hx hb dX5_copyFrom_65 rfl (lv_at hl 1 rfl) ?_
        refine va_get (D := (dC, dI)) (ci := 5) (v := .ref a1_6) (C := RX5) (T := TX5) (N := 7) hx hb hts zi_X5_copyFrom_5 hown hK hP 1 rfl rfl 6 (by decide) (hts (.fieldLink RX5 15 "WaxTurns$Scene" "heardBits" "[I") (List.mem_cons_of_mem _ (List.mem_append_left _ (List.mem_of_getElem? (i := 6) rfl)))) (fun _ h9 => h9) rfl dX5_copyFrom_66 ?_
        refine lv_iload_n hx hb dX5_copyFrom_69 rfl (lv_at hl 2 rfl) ?_
        refine va_iald hx hb hK hP 4 2 rfl rfl (ai_in bj42l2_l u45f_j42l2 (by decide) (by decide)) dX5_copyFrom_70 ?_
        refine lv_topi (fun x70 ex70 => ?_)
        have fqx70 := congrArg Int32.toInt ex70
        have hF1 := hF1.trans (fl_lt_eq (show x70.toInt = (fl_A fa1_6) (j42l2.toInt.toNat) from fqx70))
        refine va_iast hx hb hK hP hD hS 5 3 rfl rfl (ai_in bj42l2_l u45f_j42l2 (by decide) (by decide)) dX5_copyFrom_71 (fun H locs hP hD hS => ?_)
        obtain ⟨f71, ef71⟩ : ∃ g9 : Nat → Int32, g9 = upd j42a0_6_a (j42l2 : Int32).toNatClampNeg x70 := ⟨_, rfl⟩
        refine zs_5 (y := (a0_6, .inl (ka0_6, 9, .inl (f71)))) hP hD (by rw [ef71]) (fun hP hD => ?_)
        have fqf71 := fl_up_eq ef71
        have hF1 := hF1.trans (fl_lt_eq (show (fl_A f71) = fl_up (fl_A j42a0_6_a) (j42l2.toInt.toNat) x70.toInt from fqf71))
        obtain ⟨x72, ex72⟩ : ∃ y : Int32, y = j42l2 + Int32.ofInt 1 := ⟨_, rfl⟩
        have qx72 : x72.toInt = j42l2.toInt + 1 := ai_inc ex72 (by decide) (by decide) u45f_j42l2 (by decide)
        have bx72 : (1 : Int) ≤ x72.toInt ∧ x72.toInt ≤ 9 := ⟨by rw [qx72]; exact Int.add_le_add bj42l2_l (Int.le_refl _), by rw [qx72]; exact Int.add_le_add u45f_j42l2 (Int.le_refl _)⟩
        refine lv_iinc (v := x72) (lv' := [(2, .int x72), (0, .ref a0), (1, .ref a1)]) hx hb dX5_copyFrom_72 hl (k := 2) rfl ex72.symm (by decide) rfl (fun ls hl => ?_)
        have hF1 := hF1.trans (fl_lt_eq (show x72.toInt = j42l2.toInt + 1 from qx72))
        refine lv_goto (tgt := 42) hx hb dX5_copyFrom_75 (by decide) ?_
        exact (hK0 _ _ _).mp (ih42 x72 f59 f71 _ _ _ (by first | exact zg_s hm42 qx72 | (have h0 := qx72; omega)) (Int.le_trans zq4 bx72.1) bx72.2 (hF0.trans (fl_wh_l (hSX42.trans hF1))) hP hD hS (lv_sub hl [1, 2, 0] rfl))
  exact (hK0 _ _ _).mp (J42 10 0 fa0_5 fa0_6 _ _ _ (by first | decide +kernel | (have h1 : (0 : Int) ≤ (0 : Int32).toInt := zq5; have h2 : (0 : Int32).toInt ≤ (0 : Int) := zq6; omega)) zq5 (Int.le_trans zq6 zq7) (by rw [show (0 : Int32).toInt = 0 from by decide]; exact hF0) hP hD hS (lv_sub hl [1, 2, 0] rfl))

set_option maxHeartbeats 4000000 in
set_option maxRecDepth 100000 in
theorem f_X1_keep (l : Launch) (dC : Nat → ClassId) (dI : Nat → Nat → Nat) (sz : Nat) (a0 : Nat) (a1 : Nat) (a0_0 : Int32) (a0g_1 a0g_4 : Value) (a0_2 : Int32) (a0_3 : Nat) (ka0_3 : ClassId) (a0_3e0 : Nat) (a0_3e1 : Nat) (a0_3e2 : Nat) (a0_3e3 : Nat) (a0_3e4 : Nat) (a0_3e5 : Nat) (a0_3e6 : Nat) (a0_3e7 : Nat) (a0_3e8 : Nat) (a0_3e9 : Nat) (a0_3e10 : Nat) (a0_3e11 : Nat) (a0_3e12 : Nat) (a0_3e13 : Nat) (a0_3e14 : Nat) (a0_3e15 : Nat) (a0_3e0_0 : Int32) (a0_3e0_1 : Int32) (a0_3e0_2 : Int32) (a0_3e0_3 : Int32) (a0_3e0_4 : Int32) (a0_3e0_5 : Nat) (a0_3e0_6 : Nat) (a1_0 : Int32) (a1_1 : Int32) (a1_2 : Int32) (a1_3 : Int32) (a1_4 : Int32) (a1_5 : Nat) (a1_6 : Nat) (ka1_5 : ClassId) (fa1_5 : Nat → Int32) (ka0_3e0_5 : ClassId) (fa0_3e0_5 : Nat → Int32) (ka1_6 : ClassId) (fa1_6 : Nat → Int32) (ka0_3e0_6 : ClassId) (fa0_3e0_6 : Nat → Int32) (a0_3e1_0 : Int32) (a0_3e1_1 : Int32) (a0_3e1_2 : Int32) (a0_3e1_3 : Int32) (a0_3e1_4 : Int32) (a0_3e1_5 : Nat) (a0_3e1_6 : Nat) (ka0_3e1_5 : ClassId) (fa0_3e1_5 : Nat → Int32) (ka0_3e1_6 : ClassId) (fa0_3e1_6 : Nat → Int32) (a0_3e2_0 : Int32) (a0_3e2_1 : Int32) (a0_3e2_2 : Int32) (a0_3e2_3 : Int32) (a0_3e2_4 : Int32) (a0_3e2_5 : Nat) (a0_3e2_6 : Nat) (ka0_3e2_5 : ClassId) (fa0_3e2_5 : Nat → Int32) (ka0_3e2_6 : ClassId) (fa0_3e2_6 : Nat → Int32) (a0_3e3_0 : Int32) (a0_3e3_1 : Int32) (a0_3e3_2 : Int32) (a0_3e3_3 : Int32) (a0_3e3_4 : Int32) (a0_3e3_5 : Nat) (a0_3e3_6 : Nat) (ka0_3e3_5 : ClassId) (fa0_3e3_5 : Nat → Int32) (ka0_3e3_6 : ClassId) (fa0_3e3_6 : Nat → Int32) (a0_3e4_0 : Int32) (a0_3e4_1 : Int32) (a0_3e4_2 : Int32) (a0_3e4_3 : Int32) (a0_3e4_4 : Int32) (a0_3e4_5 : Nat) (a0_3e4_6 : Nat) (ka0_3e4_5 : ClassId) (fa0_3e4_5 : Nat → Int32) (ka0_3e4_6 : ClassId) (fa0_3e4_6 : Nat → Int32) (a0_3e5_0 : Int32) (a0_3e5_1 : Int32) (a0_3e5_2 : Int32) (a0_3e5_3 : Int32) (a0_3e5_4 : Int32) (a0_3e5_5 : Nat) (a0_3e5_6 : Nat) (ka0_3e5_5 : ClassId) (fa0_3e5_5 : Nat → Int32) (ka0_3e5_6 : ClassId) (fa0_3e5_6 : Nat → Int32) (a0_3e6_0 : Int32) (a0_3e6_1 : Int32) (a0_3e6_2 : Int32) (a0_3e6_3 : Int32) (a0_3e6_4 : Int32) (a0_3e6_5 : Nat) (a0_3e6_6 : Nat) (ka0_3e6_5 : ClassId) (fa0_3e6_5 : Nat → Int32) (ka0_3e6_6 : ClassId) (fa0_3e6_6 : Nat → Int32) (a0_3e7_0 : Int32) (a0_3e7_1 : Int32) (a0_3e7_2 : Int32) (a0_3e7_3 : Int32) (a0_3e7_4 : Int32) (a0_3e7_5 : Nat) (a0_3e7_6 : Nat) (ka0_3e7_5 : ClassId) (fa0_3e7_5 : Nat → Int32) (ka0_3e7_6 : ClassId) (fa0_3e7_6 : Nat → Int32) (a0_3e8_0 : Int32) (a0_3e8_1 : Int32) (a0_3e8_2 : Int32) (a0_3e8_3 : Int32) (a0_3e8_4 : Int32) (a0_3e8_5 : Nat) (a0_3e8_6 : Nat) (ka0_3e8_5 : ClassId) (fa0_3e8_5 : Nat → Int32) (ka0_3e8_6 : ClassId) (fa0_3e8_6 : Nat → Int32) (a0_3e9_0 : Int32) (a0_3e9_1 : Int32) (a0_3e9_2 : Int32) (a0_3e9_3 : Int32) (a0_3e9_4 : Int32) (a0_3e9_5 : Nat) (a0_3e9_6 : Nat) (ka0_3e9_5 : ClassId) (fa0_3e9_5 : Nat → Int32) (ka0_3e9_6 : ClassId) (fa0_3e9_6 : Nat → Int32) (a0_3e10_0 : Int32) (a0_3e10_1 : Int32) (a0_3e10_2 : Int32) (a0_3e10_3 : Int32) (a0_3e10_4 : Int32) (a0_3e10_5 : Nat) (a0_3e10_6 : Nat) (ka0_3e10_5 : ClassId) (fa0_3e10_5 : Nat → Int32) (ka0_3e10_6 : ClassId) (fa0_3e10_6 : Nat → Int32) (a0_3e11_0 : Int32) (a0_3e11_1 : Int32) (a0_3e11_2 : Int32) (a0_3e11_3 : Int32) (a0_3e11_4 : Int32) (a0_3e11_5 : Nat) (a0_3e11_6 : Nat) (ka0_3e11_5 : ClassId) (fa0_3e11_5 : Nat → Int32) (ka0_3e11_6 : ClassId) (fa0_3e11_6 : Nat → Int32) (a0_3e12_0 : Int32) (a0_3e12_1 : Int32) (a0_3e12_2 : Int32) (a0_3e12_3 : Int32) (a0_3e12_4 : Int32) (a0_3e12_5 : Nat) (a0_3e12_6 : Nat) (ka0_3e12_5 : ClassId) (fa0_3e12_5 : Nat → Int32) (ka0_3e12_6 : ClassId) (fa0_3e12_6 : Nat → Int32) (a0_3e13_0 : Int32) (a0_3e13_1 : Int32) (a0_3e13_2 : Int32) (a0_3e13_3 : Int32) (a0_3e13_4 : Int32) (a0_3e13_5 : Nat) (a0_3e13_6 : Nat) (ka0_3e13_5 : ClassId) (fa0_3e13_5 : Nat → Int32) (ka0_3e13_6 : ClassId) (fa0_3e13_6 : Nat → Int32) (a0_3e14_0 : Int32) (a0_3e14_1 : Int32) (a0_3e14_2 : Int32) (a0_3e14_3 : Int32) (a0_3e14_4 : Int32) (a0_3e14_5 : Nat) (a0_3e14_6 : Nat) (ka0_3e14_5 : ClassId) (fa0_3e14_5 : Nat → Int32) (ka0_3e14_6 : ClassId) (fa0_3e14_6 : Nat → Int32) (a0_3e15_0 : Int32) (a0_3e15_1 : Int32) (a0_3e15_2 : Int32) (a0_3e15_3 : Int32) (a0_3e15_4 : Int32) (a0_3e15_5 : Nat) (a0_3e15_6 : Nat) (ka0_3e15_5 : ClassId) (fa0_3e15_5 : Nat → Int32) (ka0_3e15_6 : ClassId) (fa0_3e15_6 : Nat → Int32) (ba0_0_l : (0 : Int) ≤ a0_0.toInt) (ba0_0_u : a0_0.toInt ≤ (16 : Int)) (ba0_2_l : (0 : Int) ≤ a0_2.toInt) (ba0_2_u : a0_2.toInt ≤ (15 : Int)) (ba0_3e0_1_l : (0 : Int) ≤ a0_3e0_1.toInt) (ba0_3e0_1_u : a0_3e0_1.toInt ≤ (8 : Int)) (ba1_1_l : (0 : Int) ≤ a1_1.toInt) (ba1_1_u : a1_1.toInt ≤ (8 : Int)) (ba0_3e1_1_l : (0 : Int) ≤ a0_3e1_1.toInt) (ba0_3e1_1_u : a0_3e1_1.toInt ≤ (8 : Int)) (ba0_3e2_1_l : (0 : Int) ≤ a0_3e2_1.toInt) (ba0_3e2_1_u : a0_3e2_1.toInt ≤ (8 : Int)) (ba0_3e3_1_l : (0 : Int) ≤ a0_3e3_1.toInt) (ba0_3e3_1_u : a0_3e3_1.toInt ≤ (8 : Int)) (ba0_3e4_1_l : (0 : Int) ≤ a0_3e4_1.toInt) (ba0_3e4_1_u : a0_3e4_1.toInt ≤ (8 : Int)) (ba0_3e5_1_l : (0 : Int) ≤ a0_3e5_1.toInt) (ba0_3e5_1_u : a0_3e5_1.toInt ≤ (8 : Int)) (ba0_3e6_1_l : (0 : Int) ≤ a0_3e6_1.toInt) (ba0_3e6_1_u : a0_3e6_1.toInt ≤ (8 : Int)) (ba0_3e7_1_l : (0 : Int) ≤ a0_3e7_1.toInt) (ba0_3e7_1_u : a0_3e7_1.toInt ≤ (8 : Int)) (ba0_3e8_1_l : (0 : Int) ≤ a0_3e8_1.toInt) (ba0_3e8_1_u : a0_3e8_1.toInt ≤ (8 : Int)) (ba0_3e9_1_l : (0 : Int) ≤ a0_3e9_1.toInt) (ba0_3e9_1_u : a0_3e9_1.toInt ≤ (8 : Int)) (ba0_3e10_1_l : (0 : Int) ≤ a0_3e10_1.toInt) (ba0_3e10_1_u : a0_3e10_1.toInt ≤ (8 : Int)) (ba0_3e11_1_l : (0 : Int) ≤ a0_3e11_1.toInt) (ba0_3e11_1_u : a0_3e11_1.toInt ≤ (8 : Int)) (ba0_3e12_1_l : (0 : Int) ≤ a0_3e12_1.toInt) (ba0_3e12_1_u : a0_3e12_1.toInt ≤ (8 : Int)) (ba0_3e13_1_l : (0 : Int) ≤ a0_3e13_1.toInt) (ba0_3e13_1_u : a0_3e13_1.toInt ≤ (8 : Int)) (ba0_3e14_1_l : (0 : Int) ≤ a0_3e14_1.toInt) (ba0_3e14_1_u : a0_3e14_1.toInt ≤ (8 : Int)) (ba0_3e15_1_l : (0 : Int) ≤ a0_3e15_1.toInt) (ba0_3e15_1_u : a0_3e15_1.toInt ≤ (8 : Int)) : zm l yX1_keep wsX1_keep ({ frames := 1, cells := 0, slots := 0, locals := 24 }) [.ref a0, .ref a1] dC dI sz [(a0, .inr (1, [.int a0_0, a0g_1, .int a0_2, .ref a0_3, a0g_4])), (a0_3, .inl (ka0_3, 16, .inr (.inr (.inr (.inr (fun i9 => ([some a0_3e0, some a0_3e1, some a0_3e2, some a0_3e3, some a0_3e4, some a0_3e5, some a0_3e6, some a0_3e7, some a0_3e8, some a0_3e9, some a0_3e10, some a0_3e11, some a0_3e12, some a0_3e13, some a0_3e14, some a0_3e15] : List (Option Nat)).getD i9 none)))))), (a0_3e0, .inr (5, [.int a0_3e0_0, .int a0_3e0_1, .int a0_3e0_2, .int a0_3e0_3, .int a0_3e0_4, .ref a0_3e0_5, .ref a0_3e0_6])), (a1, .inr (5, [.int a1_0, .int a1_1, .int a1_2, .int a1_3, .int a1_4, .ref a1_5, .ref a1_6])), (a1_5, .inl (ka1_5, 9, .inl (fa1_5))), (a0_3e0_5, .inl (ka0_3e0_5, 9, .inl (fa0_3e0_5))), (a1_6, .inl (ka1_6, 9, .inl (fa1_6))), (a0_3e0_6, .inl (ka0_3e0_6, 9, .inl (fa0_3e0_6))), (a0_3e1, .inr (5, [.int a0_3e1_0, .int a0_3e1_1, .int a0_3e1_2, .int a0_3e1_3, .int a0_3e1_4, .ref a0_3e1_5, .ref a0_3e1_6])), (a0_3e1_5, .inl (ka0_3e1_5, 9, .inl (fa0_3e1_5))), (a0_3e1_6, .inl (ka0_3e1_6, 9, .inl (fa0_3e1_6))), (a0_3e2, .inr (5, [.int a0_3e2_0, .int a0_3e2_1, .int a0_3e2_2, .int a0_3e2_3, .int a0_3e2_4, .ref a0_3e2_5, .ref a0_3e2_6])), (a0_3e2_5, .inl (ka0_3e2_5, 9, .inl (fa0_3e2_5))), (a0_3e2_6, .inl (ka0_3e2_6, 9, .inl (fa0_3e2_6))), (a0_3e3, .inr (5, [.int a0_3e3_0, .int a0_3e3_1, .int a0_3e3_2, .int a0_3e3_3, .int a0_3e3_4, .ref a0_3e3_5, .ref a0_3e3_6])), (a0_3e3_5, .inl (ka0_3e3_5, 9, .inl (fa0_3e3_5))), (a0_3e3_6, .inl (ka0_3e3_6, 9, .inl (fa0_3e3_6))), (a0_3e4, .inr (5, [.int a0_3e4_0, .int a0_3e4_1, .int a0_3e4_2, .int a0_3e4_3, .int a0_3e4_4, .ref a0_3e4_5, .ref a0_3e4_6])), (a0_3e4_5, .inl (ka0_3e4_5, 9, .inl (fa0_3e4_5))), (a0_3e4_6, .inl (ka0_3e4_6, 9, .inl (fa0_3e4_6))), (a0_3e5, .inr (5, [.int a0_3e5_0, .int a0_3e5_1, .int a0_3e5_2, .int a0_3e5_3, .int a0_3e5_4, .ref a0_3e5_5, .ref a0_3e5_6])), (a0_3e5_5, .inl (ka0_3e5_5, 9, .inl (fa0_3e5_5))), (a0_3e5_6, .inl (ka0_3e5_6, 9, .inl (fa0_3e5_6))), (a0_3e6, .inr (5, [.int a0_3e6_0, .int a0_3e6_1, .int a0_3e6_2, .int a0_3e6_3, .int a0_3e6_4, .ref a0_3e6_5, .ref a0_3e6_6])), (a0_3e6_5, .inl (ka0_3e6_5, 9, .inl (fa0_3e6_5))), (a0_3e6_6, .inl (ka0_3e6_6, 9, .inl (fa0_3e6_6))), (a0_3e7, .inr (5, [.int a0_3e7_0, .int a0_3e7_1, .int a0_3e7_2, .int a0_3e7_3, .int a0_3e7_4, .ref a0_3e7_5, .ref a0_3e7_6])), (a0_3e7_5, .inl (ka0_3e7_5, 9, .inl (fa0_3e7_5))), (a0_3e7_6, .inl (ka0_3e7_6, 9, .inl (fa0_3e7_6))), (a0_3e8, .inr (5, [.int a0_3e8_0, .int a0_3e8_1, .int a0_3e8_2, .int a0_3e8_3, .int a0_3e8_4, .ref a0_3e8_5, .ref a0_3e8_6])), (a0_3e8_5, .inl (ka0_3e8_5, 9, .inl (fa0_3e8_5))), (a0_3e8_6, .inl (ka0_3e8_6, 9, .inl (fa0_3e8_6))), (a0_3e9, .inr (5, [.int a0_3e9_0, .int a0_3e9_1, .int a0_3e9_2, .int a0_3e9_3, .int a0_3e9_4, .ref a0_3e9_5, .ref a0_3e9_6])), (a0_3e9_5, .inl (ka0_3e9_5, 9, .inl (fa0_3e9_5))), (a0_3e9_6, .inl (ka0_3e9_6, 9, .inl (fa0_3e9_6))), (a0_3e10, .inr (5, [.int a0_3e10_0, .int a0_3e10_1, .int a0_3e10_2, .int a0_3e10_3, .int a0_3e10_4, .ref a0_3e10_5, .ref a0_3e10_6])), (a0_3e10_5, .inl (ka0_3e10_5, 9, .inl (fa0_3e10_5))), (a0_3e10_6, .inl (ka0_3e10_6, 9, .inl (fa0_3e10_6))), (a0_3e11, .inr (5, [.int a0_3e11_0, .int a0_3e11_1, .int a0_3e11_2, .int a0_3e11_3, .int a0_3e11_4, .ref a0_3e11_5, .ref a0_3e11_6])), (a0_3e11_5, .inl (ka0_3e11_5, 9, .inl (fa0_3e11_5))), (a0_3e11_6, .inl (ka0_3e11_6, 9, .inl (fa0_3e11_6))), (a0_3e12, .inr (5, [.int a0_3e12_0, .int a0_3e12_1, .int a0_3e12_2, .int a0_3e12_3, .int a0_3e12_4, .ref a0_3e12_5, .ref a0_3e12_6])), (a0_3e12_5, .inl (ka0_3e12_5, 9, .inl (fa0_3e12_5))), (a0_3e12_6, .inl (ka0_3e12_6, 9, .inl (fa0_3e12_6))), (a0_3e13, .inr (5, [.int a0_3e13_0, .int a0_3e13_1, .int a0_3e13_2, .int a0_3e13_3, .int a0_3e13_4, .ref a0_3e13_5, .ref a0_3e13_6])), (a0_3e13_5, .inl (ka0_3e13_5, 9, .inl (fa0_3e13_5))), (a0_3e13_6, .inl (ka0_3e13_6, 9, .inl (fa0_3e13_6))), (a0_3e14, .inr (5, [.int a0_3e14_0, .int a0_3e14_1, .int a0_3e14_2, .int a0_3e14_3, .int a0_3e14_4, .ref a0_3e14_5, .ref a0_3e14_6])), (a0_3e14_5, .inl (ka0_3e14_5, 9, .inl (fa0_3e14_5))), (a0_3e14_6, .inl (ka0_3e14_6, 9, .inl (fa0_3e14_6))), (a0_3e15, .inr (5, [.int a0_3e15_0, .int a0_3e15_1, .int a0_3e15_2, .int a0_3e15_3, .int a0_3e15_4, .ref a0_3e15_5, .ref a0_3e15_6])), (a0_3e15_5, .inl (ka0_3e15_5, 9, .inl (fa0_3e15_5))), (a0_3e15_6, .inl (ka0_3e15_6, 9, .inl (fa0_3e15_6)))] [(ka0_3, (.object RX5)), (ka1_5, .int), (ka0_3e0_5, .int), (ka1_6, .int), (ka0_3e0_6, .int), (ka0_3e1_5, .int), (ka0_3e1_6, .int), (ka0_3e2_5, .int), (ka0_3e2_6, .int), (ka0_3e3_5, .int), (ka0_3e3_6, .int), (ka0_3e4_5, .int), (ka0_3e4_6, .int), (ka0_3e5_5, .int), (ka0_3e5_6, .int), (ka0_3e6_5, .int), (ka0_3e6_6, .int), (ka0_3e7_5, .int), (ka0_3e7_6, .int), (ka0_3e8_5, .int), (ka0_3e8_6, .int), (ka0_3e9_5, .int), (ka0_3e9_6, .int), (ka0_3e10_5, .int), (ka0_3e10_6, .int), (ka0_3e11_5, .int), (ka0_3e11_6, .int), (ka0_3e12_5, .int), (ka0_3e12_6, .int), (ka0_3e13_5, .int), (ka0_3e13_6, .int), (ka0_3e14_5, .int), (ka0_3e14_6, .int), (ka0_3e15_5, .int), (ka0_3e15_6, .int)] (fun A _ => True) (fun A => va_Qv (fun (_ : Unit) => True) (fun (_ : Unit) (t : State) => ∃ zni : Nat → Int32, ∃ znf : Nat → Nat → Int32, ((0 : Int) ≤ (zni 0).toInt ∧ (zni 0).toInt ≤ 16) ∧ ((0 : Int) ≤ (zni 1).toInt ∧ (zni 1).toInt ≤ 15) ∧ ((0 : Int) ≤ (zni 3).toInt ∧ (zni 3).toInt ≤ 8) ∧ ((0 : Int) ≤ (zni 8).toInt ∧ (zni 8).toInt ≤ 8) ∧ ((0 : Int) ≤ (zni 13).toInt ∧ (zni 13).toInt ≤ 8) ∧ ((0 : Int) ≤ (zni 18).toInt ∧ (zni 18).toInt ≤ 8) ∧ ((0 : Int) ≤ (zni 23).toInt ∧ (zni 23).toInt ≤ 8) ∧ ((0 : Int) ≤ (zni 28).toInt ∧ (zni 28).toInt ≤ 8) ∧ ((0 : Int) ≤ (zni 33).toInt ∧ (zni 33).toInt ≤ 8) ∧ ((0 : Int) ≤ (zni 38).toInt ∧ (zni 38).toInt ≤ 8) ∧ ((0 : Int) ≤ (zni 43).toInt ∧ (zni 43).toInt ≤ 8) ∧ ((0 : Int) ≤ (zni 48).toInt ∧ (zni 48).toInt ≤ 8) ∧ ((0 : Int) ≤ (zni 53).toInt ∧ (zni 53).toInt ≤ 8) ∧ ((0 : Int) ≤ (zni 58).toInt ∧ (zni 58).toInt ≤ 8) ∧ ((0 : Int) ≤ (zni 63).toInt ∧ (zni 63).toInt ≤ 8) ∧ ((0 : Int) ≤ (zni 68).toInt ∧ (zni 68).toInt ≤ 8) ∧ ((0 : Int) ≤ (zni 73).toInt ∧ (zni 73).toInt ≤ 8) ∧ ((0 : Int) ≤ (zni 78).toInt ∧ (zni 78).toInt ≤ 8) ∧ (Ff_X1_keep a0_0.toInt a0_2.toInt (fl_nI [a0_3e0_0.toInt, a0_3e0_1.toInt, a0_3e0_2.toInt, a0_3e0_3.toInt, a0_3e0_4.toInt, a0_3e1_0.toInt, a0_3e1_1.toInt, a0_3e1_2.toInt, a0_3e1_3.toInt, a0_3e1_4.toInt, a0_3e2_0.toInt, a0_3e2_1.toInt, a0_3e2_2.toInt, a0_3e2_3.toInt, a0_3e2_4.toInt, a0_3e3_0.toInt, a0_3e3_1.toInt, a0_3e3_2.toInt, a0_3e3_3.toInt, a0_3e3_4.toInt, a0_3e4_0.toInt, a0_3e4_1.toInt, a0_3e4_2.toInt, a0_3e4_3.toInt, a0_3e4_4.toInt, a0_3e5_0.toInt, a0_3e5_1.toInt, a0_3e5_2.toInt, a0_3e5_3.toInt, a0_3e5_4.toInt, a0_3e6_0.toInt, a0_3e6_1.toInt, a0_3e6_2.toInt, a0_3e6_3.toInt, a0_3e6_4.toInt, a0_3e7_0.toInt, a0_3e7_1.toInt, a0_3e7_2.toInt, a0_3e7_3.toInt, a0_3e7_4.toInt, a0_3e8_0.toInt, a0_3e8_1.toInt, a0_3e8_2.toInt, a0_3e8_3.toInt, a0_3e8_4.toInt, a0_3e9_0.toInt, a0_3e9_1.toInt, a0_3e9_2.toInt, a0_3e9_3.toInt, a0_3e9_4.toInt, a0_3e10_0.toInt, a0_3e10_1.toInt, a0_3e10_2.toInt, a0_3e10_3.toInt, a0_3e10_4.toInt, a0_3e11_0.toInt, a0_3e11_1.toInt, a0_3e11_2.toInt, a0_3e11_3.toInt, a0_3e11_4.toInt, a0_3e12_0.toInt, a0_3e12_1.toInt, a0_3e12_2.toInt, a0_3e12_3.toInt, a0_3e12_4.toInt, a0_3e13_0.toInt, a0_3e13_1.toInt, a0_3e13_2.toInt, a0_3e13_3.toInt, a0_3e13_4.toInt, a0_3e14_0.toInt, a0_3e14_1.toInt, a0_3e14_2.toInt, a0_3e14_3.toInt, a0_3e14_4.toInt, a0_3e15_0.toInt, a0_3e15_1.toInt, a0_3e15_2.toInt, a0_3e15_3.toInt, a0_3e15_4.toInt]) a1_0.toInt a1_1.toInt a1_2.toInt a1_3.toInt a1_4.toInt (fl_A fa1_5) (fl_nF [(fl_A fa0_3e0_5), (fl_A fa0_3e0_6), (fl_A fa0_3e1_5), (fl_A fa0_3e1_6), (fl_A fa0_3e2_5), (fl_A fa0_3e2_6), (fl_A fa0_3e3_5), (fl_A fa0_3e3_6), (fl_A fa0_3e4_5), (fl_A fa0_3e4_6), (fl_A fa0_3e5_5), (fl_A fa0_3e5_6), (fl_A fa0_3e6_5), (fl_A fa0_3e6_6), (fl_A fa0_3e7_5), (fl_A fa0_3e7_6), (fl_A fa0_3e8_5), (fl_A fa0_3e8_6), (fl_A fa0_3e9_5), (fl_A fa0_3e9_6), (fl_A fa0_3e10_5), (fl_A fa0_3e10_6), (fl_A fa0_3e11_5), (fl_A fa0_3e11_6), (fl_A fa0_3e12_5), (fl_A fa0_3e12_6), (fl_A fa0_3e13_5), (fl_A fa0_3e13_6), (fl_A fa0_3e14_5), (fl_A fa0_3e14_6), (fl_A fa0_3e15_5), (fl_A fa0_3e15_6)]) (fl_A fa1_6) = ((zni 0).toInt, (zni 1).toInt, (fl_nI [(zni 2).toInt, (zni 3).toInt, (zni 4).toInt, (zni 5).toInt, (zni 6).toInt, (zni 7).toInt, (zni 8).toInt, (zni 9).toInt, (zni 10).toInt, (zni 11).toInt, (zni 12).toInt, (zni 13).toInt, (zni 14).toInt, (zni 15).toInt, (zni 16).toInt, (zni 17).toInt, (zni 18).toInt, (zni 19).toInt, (zni 20).toInt, (zni 21).toInt, (zni 22).toInt, (zni 23).toInt, (zni 24).toInt, (zni 25).toInt, (zni 26).toInt, (zni 27).toInt, (zni 28).toInt, (zni 29).toInt, (zni 30).toInt, (zni 31).toInt, (zni 32).toInt, (zni 33).toInt, (zni 34).toInt, (zni 35).toInt, (zni 36).toInt, (zni 37).toInt, (zni 38).toInt, (zni 39).toInt, (zni 40).toInt, (zni 41).toInt, (zni 42).toInt, (zni 43).toInt, (zni 44).toInt, (zni 45).toInt, (zni 46).toInt, (zni 47).toInt, (zni 48).toInt, (zni 49).toInt, (zni 50).toInt, (zni 51).toInt, (zni 52).toInt, (zni 53).toInt, (zni 54).toInt, (zni 55).toInt, (zni 56).toInt, (zni 57).toInt, (zni 58).toInt, (zni 59).toInt, (zni 60).toInt, (zni 61).toInt, (zni 62).toInt, (zni 63).toInt, (zni 64).toInt, (zni 65).toInt, (zni 66).toInt, (zni 67).toInt, (zni 68).toInt, (zni 69).toInt, (zni 70).toInt, (zni 71).toInt, (zni 72).toInt, (zni 73).toInt, (zni 74).toInt, (zni 75).toInt, (zni 76).toInt, (zni 77).toInt, (zni 78).toInt, (zni 79).toInt, (zni 80).toInt, (zni 81).toInt]), (fl_nF [(fl_A (znf 0)), (fl_A (znf 1)), (fl_A (znf 2)), (fl_A (znf 3)), (fl_A (znf 4)), (fl_A (znf 5)), (fl_A (znf 6)), (fl_A (znf 7)), (fl_A (znf 8)), (fl_A (znf 9)), (fl_A (znf 10)), (fl_A (znf 11)), (fl_A (znf 12)), (fl_A (znf 13)), (fl_A (znf 14)), (fl_A (znf 15)), (fl_A (znf 16)), (fl_A (znf 17)), (fl_A (znf 18)), (fl_A (znf 19)), (fl_A (znf 20)), (fl_A (znf 21)), (fl_A (znf 22)), (fl_A (znf 23)), (fl_A (znf 24)), (fl_A (znf 25)), (fl_A (znf 26)), (fl_A (znf 27)), (fl_A (znf 28)), (fl_A (znf 29)), (fl_A (znf 30)), (fl_A (znf 31))]))) ∧ ax_B dC dI A [(a0, .inr (1, [.int (zni 0), a0g_1, .int (zni 1), .ref a0_3, a0g_4])), (a0_3, .inl (ka0_3, 16, .inr (.inr (.inr (.inr (fun i9 => ([some a0_3e0, some a0_3e1, some a0_3e2, some a0_3e3, some a0_3e4, some a0_3e5, some a0_3e6, some a0_3e7, some a0_3e8, some a0_3e9, some a0_3e10, some a0_3e11, some a0_3e12, some a0_3e13, some a0_3e14, some a0_3e15] : List (Option Nat)).getD i9 none)))))), (a0_3e0, .inr (5, [.int (zni 2), .int (zni 3), .int (zni 4), .int (zni 5), .int (zni 6), .ref a0_3e0_5, .ref a0_3e0_6])), (a1, .inr (5, [.int a1_0, .int a1_1, .int a1_2, .int a1_3, .int a1_4, .ref a1_5, .ref a1_6])), (a1_5, .inl (ka1_5, 9, .inl (fa1_5))), (a0_3e0_5, .inl (ka0_3e0_5, 9, .inl ((znf 0)))), (a1_6, .inl (ka1_6, 9, .inl (fa1_6))), (a0_3e0_6, .inl (ka0_3e0_6, 9, .inl ((znf 1)))), (a0_3e1, .inr (5, [.int (zni 7), .int (zni 8), .int (zni 9), .int (zni 10), .int (zni 11), .ref a0_3e1_5, .ref a0_3e1_6])), (a0_3e1_5, .inl (ka0_3e1_5, 9, .inl ((znf 2)))), (a0_3e1_6, .inl (ka0_3e1_6, 9, .inl ((znf 3)))), (a0_3e2, .inr (5, [.int (zni 12), .int (zni 13), .int (zni 14), .int (zni 15), .int (zni 16), .ref a0_3e2_5, .ref a0_3e2_6])), (a0_3e2_5, .inl (ka0_3e2_5, 9, .inl ((znf 4)))), (a0_3e2_6, .inl (ka0_3e2_6, 9, .inl ((znf 5)))), (a0_3e3, .inr (5, [.int (zni 17), .int (zni 18), .int (zni 19), .int (zni 20), .int (zni 21), .ref a0_3e3_5, .ref a0_3e3_6])), (a0_3e3_5, .inl (ka0_3e3_5, 9, .inl ((znf 6)))), (a0_3e3_6, .inl (ka0_3e3_6, 9, .inl ((znf 7)))), (a0_3e4, .inr (5, [.int (zni 22), .int (zni 23), .int (zni 24), .int (zni 25), .int (zni 26), .ref a0_3e4_5, .ref a0_3e4_6])), (a0_3e4_5, .inl (ka0_3e4_5, 9, .inl ((znf 8)))), (a0_3e4_6, .inl (ka0_3e4_6, 9, .inl ((znf 9)))), (a0_3e5, .inr (5, [.int (zni 27), .int (zni 28), .int (zni 29), .int (zni 30), .int (zni 31), .ref a0_3e5_5, .ref a0_3e5_6])), (a0_3e5_5, .inl (ka0_3e5_5, 9, .inl ((znf 10)))), (a0_3e5_6, .inl (ka0_3e5_6, 9, .inl ((znf 11)))), (a0_3e6, .inr (5, [.int (zni 32), .int (zni 33), .int (zni 34), .int (zni 35), .int (zni 36), .ref a0_3e6_5, .ref a0_3e6_6])), (a0_3e6_5, .inl (ka0_3e6_5, 9, .inl ((znf 12)))), (a0_3e6_6, .inl (ka0_3e6_6, 9, .inl ((znf 13)))), (a0_3e7, .inr (5, [.int (zni 37), .int (zni 38), .int (zni 39), .int (zni 40), .int (zni 41), .ref a0_3e7_5, .ref a0_3e7_6])), (a0_3e7_5, .inl (ka0_3e7_5, 9, .inl ((znf 14)))), (a0_3e7_6, .inl (ka0_3e7_6, 9, .inl ((znf 15)))), (a0_3e8, .inr (5, [.int (zni 42), .int (zni 43), .int (zni 44), .int (zni 45), .int (zni 46), .ref a0_3e8_5, .ref a0_3e8_6])), (a0_3e8_5, .inl (ka0_3e8_5, 9, .inl ((znf 16)))), (a0_3e8_6, .inl (ka0_3e8_6, 9, .inl ((znf 17)))), (a0_3e9, .inr (5, [.int (zni 47), .int (zni 48), .int (zni 49), .int (zni 50), .int (zni 51), .ref a0_3e9_5, .ref a0_3e9_6])), (a0_3e9_5, .inl (ka0_3e9_5, 9, .inl ((znf 18)))), (a0_3e9_6, .inl (ka0_3e9_6, 9, .inl ((znf 19)))), (a0_3e10, .inr (5, [.int (zni 52), .int (zni 53), .int (zni 54), .int (zni 55), .int (zni 56), .ref a0_3e10_5, .ref a0_3e10_6])), (a0_3e10_5, .inl (ka0_3e10_5, 9, .inl ((znf 20)))), (a0_3e10_6, .inl (ka0_3e10_6, 9, .inl ((znf 21)))), (a0_3e11, .inr (5, [.int (zni 57), .int (zni 58), .int (zni 59), .int (zni 60), .int (zni 61), .ref a0_3e11_5, .ref a0_3e11_6])), (a0_3e11_5, .inl (ka0_3e11_5, 9, .inl ((znf 22)))), (a0_3e11_6, .inl (ka0_3e11_6, 9, .inl ((znf 23)))), (a0_3e12, .inr (5, [.int (zni 62), .int (zni 63), .int (zni 64), .int (zni 65), .int (zni 66), .ref a0_3e12_5, .ref a0_3e12_6])), (a0_3e12_5, .inl (ka0_3e12_5, 9, .inl ((znf 24)))), (a0_3e12_6, .inl (ka0_3e12_6, 9, .inl ((znf 25)))), (a0_3e13, .inr (5, [.int (zni 67), .int (zni 68), .int (zni 69), .int (zni 70), .int (zni 71), .ref a0_3e13_5, .ref a0_3e13_6])), (a0_3e13_5, .inl (ka0_3e13_5, 9, .inl ((znf 26)))), (a0_3e13_6, .inl (ka0_3e13_6, 9, .inl ((znf 27)))), (a0_3e14, .inr (5, [.int (zni 72), .int (zni 73), .int (zni 74), .int (zni 75), .int (zni 76), .ref a0_3e14_5, .ref a0_3e14_6])), (a0_3e14_5, .inl (ka0_3e14_5, 9, .inl ((znf 28)))), (a0_3e14_6, .inl (ka0_3e14_6, 9, .inl ((znf 29)))), (a0_3e15, .inr (5, [.int (zni 77), .int (zni 78), .int (zni 79), .int (zni 80), .int (zni 81), .ref a0_3e15_5, .ref a0_3e15_6])), (a0_3e15_5, .inl (ka0_3e15_5, 9, .inl ((znf 30)))), (a0_3e15_6, .inl (ka0_3e15_6, 9, .inl ((znf 31))))] [(ka0_3, (.object RX5)), (ka1_5, .int), (ka0_3e0_5, .int), (ka1_6, .int), (ka0_3e0_6, .int), (ka0_3e1_5, .int), (ka0_3e1_6, .int), (ka0_3e2_5, .int), (ka0_3e2_6, .int), (ka0_3e3_5, .int), (ka0_3e3_6, .int), (ka0_3e4_5, .int), (ka0_3e4_6, .int), (ka0_3e5_5, .int), (ka0_3e5_6, .int), (ka0_3e6_5, .int), (ka0_3e6_6, .int), (ka0_3e7_5, .int), (ka0_3e7_6, .int), (ka0_3e8_5, .int), (ka0_3e8_6, .int), (ka0_3e9_5, .int), (ka0_3e9_6, .int), (ka0_3e10_5, .int), (ka0_3e10_6, .int), (ka0_3e11_5, .int), (ka0_3e11_6, .int), (ka0_3e12_5, .int), (ka0_3e12_6, .int), (ka0_3e13_5, .int), (ka0_3e13_6, .int), (ka0_3e14_5, .int), (ka0_3e14_6, .int), (ka0_3e15_5, .int), (ka0_3e15_6, .int)] t) A) := by
  refine zh (cc := cX1_keep) (maxL := 2) (ret := none) zn_RX1 rfl (Nat.le_of_ble_eq_true rfl) (fun p e s m below meth c A ls hx hb hml hr hts (hown : s.vm.findClass RX1 = some m.cls) hlocks hA hS hP hK hD hE (hl : lv_has ls 2 [(0, .ref a0), (1, .ref a1)]) => ?_)
  generalize hFX : Ff_X1_keep a0_0.toInt a0_2.toInt (fl_nI [a0_3e0_0.toInt, a0_3e0_1.toInt, a0_3e0_2.toInt, a0_3e0_3.toInt, a0_3e0_4.toInt, a0_3e1_0.toInt, a0_3e1_1.toInt, a0_3e1_2.toInt, a0_3e1_3.toInt, a0_3e1_4.toInt, a0_3e2_0.toInt, a0_3e2_1.toInt, a0_3e2_2.toInt, a0_3e2_3.toInt, a0_3e2_4.toInt, a0_3e3_0.toInt, a0_3e3_1.toInt, a0_3e3_2.toInt, a0_3e3_3.toInt, a0_3e3_4.toInt, a0_3e4_0.toInt, a0_3e4_1.toInt, a0_3e4_2.toInt, a0_3e4_3.toInt, a0_3e4_4.toInt, a0_3e5_0.toInt, a0_3e5_1.toInt, a0_3e5_2.toInt, a0_3e5_3.toInt, a0_3e5_4.toInt, a0_3e6_0.toInt, a0_3e6_1.toInt, a0_3e6_2.toInt, a0_3e6_3.toInt, a0_3e6_4.toInt, a0_3e7_0.toInt, a0_3e7_1.toInt, a0_3e7_2.toInt, a0_3e7_3.toInt, a0_3e7_4.toInt, a0_3e8_0.toInt, a0_3e8_1.toInt, a0_3e8_2.toInt, a0_3e8_3.toInt, a0_3e8_4.toInt, a0_3e9_0.toInt, a0_3e9_1.toInt, a0_3e9_2.toInt, a0_3e9_3.toInt, a0_3e9_4.toInt, a0_3e10_0.toInt, a0_3e10_1.toInt, a0_3e10_2.toInt, a0_3e10_3.toInt, a0_3e10_4.toInt, a0_3e11_0.toInt, a0_3e11_1.toInt, a0_3e11_2.toInt, a0_3e11_3.toInt, a0_3e11_4.toInt, a0_3e12_0.toInt, a0_3e12_1.toInt, a0_3e12_2.toInt, a0_3e12_3.toInt, a0_3e12_4.toInt, a0_3e13_0.toInt, a0_3e13_1.toInt, a0_3e13_2.toInt, a0_3e13_3.toInt, a0_3e13_4.toInt, a0_3e14_0.toInt, a0_3e14_1.toInt, a0_3e14_2.toInt, a0_3e14_3.toInt, a0_3e14_4.toInt, a0_3e15_0.toInt, a0_3e15_1.toInt, a0_3e15_2.toInt, a0_3e15_3.toInt, a0_3e15_4.toInt]) a1_0.toInt a1_1.toInt a1_2.toInt a1_3.toInt a1_4.toInt (fl_A fa1_5) (fl_nF [(fl_A fa0_3e0_5), (fl_A fa0_3e0_6), (fl_A fa0_3e1_5), (fl_A fa0_3e1_6), (fl_A fa0_3e2_5), (fl_A fa0_3e2_6), (fl_A fa0_3e3_5), (fl_A fa0_3e3_6), (fl_A fa0_3e4_5), (fl_A fa0_3e4_6), (fl_A fa0_3e5_5), (fl_A fa0_3e5_6), (fl_A fa0_3e6_5), (fl_A fa0_3e6_6), (fl_A fa0_3e7_5), (fl_A fa0_3e7_6), (fl_A fa0_3e8_5), (fl_A fa0_3e8_6), (fl_A fa0_3e9_5), (fl_A fa0_3e9_6), (fl_A fa0_3e10_5), (fl_A fa0_3e10_6), (fl_A fa0_3e11_5), (fl_A fa0_3e11_6), (fl_A fa0_3e12_5), (fl_A fa0_3e12_6), (fl_A fa0_3e13_5), (fl_A fa0_3e13_6), (fl_A fa0_3e14_5), (fl_A fa0_3e14_6), (fl_A fa0_3e15_5), (fl_A fa0_3e15_6)]) (fl_A fa1_6) = FX at ⊢
  have hF0 := hFX.symm.trans (Ff_X1_keep.eq_1 a0_0.toInt a0_2.toInt (fl_nI [a0_3e0_0.toInt, a0_3e0_1.toInt, a0_3e0_2.toInt, a0_3e0_3.toInt, a0_3e0_4.toInt, a0_3e1_0.toInt, a0_3e1_1.toInt, a0_3e1_2.toInt, a0_3e1_3.toInt, a0_3e1_4.toInt, a0_3e2_0.toInt, a0_3e2_1.toInt, a0_3e2_2.toInt, a0_3e2_3.toInt, a0_3e2_4.toInt, a0_3e3_0.toInt, a0_3e3_1.toInt, a0_3e3_2.toInt, a0_3e3_3.toInt, a0_3e3_4.toInt, a0_3e4_0.toInt, a0_3e4_1.toInt, a0_3e4_2.toInt, a0_3e4_3.toInt, a0_3e4_4.toInt, a0_3e5_0.toInt, a0_3e5_1.toInt, a0_3e5_2.toInt, a0_3e5_3.toInt, a0_3e5_4.toInt, a0_3e6_0.toInt, a0_3e6_1.toInt, a0_3e6_2.toInt, a0_3e6_3.toInt, a0_3e6_4.toInt, a0_3e7_0.toInt, a0_3e7_1.toInt, a0_3e7_2.toInt, a0_3e7_3.toInt, a0_3e7_4.toInt, a0_3e8_0.toInt, a0_3e8_1.toInt, a0_3e8_2.toInt, a0_3e8_3.toInt, a0_3e8_4.toInt, a0_3e9_0.toInt, a0_3e9_1.toInt, a0_3e9_2.toInt, a0_3e9_3.toInt, a0_3e9_4.toInt, a0_3e10_0.toInt, a0_3e10_1.toInt, a0_3e10_2.toInt, a0_3e10_3.toInt, a0_3e10_4.toInt, a0_3e11_0.toInt, a0_3e11_1.toInt, a0_3e11_2.toInt, a0_3e11_3.toInt, a0_3e11_4.toInt, a0_3e12_0.toInt, a0_3e12_1.toInt, a0_3e12_2.toInt, a0_3e12_3.toInt, a0_3e12_4.toInt, a0_3e13_0.toInt, a0_3e13_1.toInt, a0_3e13_2.toInt, a0_3e13_3.toInt, a0_3e13_4.toInt, a0_3e14_0.toInt, a0_3e14_1.toInt, a0_3e14_2.toInt, a0_3e14_3.toInt, a0_3e14_4.toInt, a0_3e15_0.toInt, a0_3e15_1.toInt, a0_3e15_2.toInt, a0_3e15_3.toInt, a0_3e15_4.toInt]) a1_0.toInt a1_1.toInt a1_2.toInt a1_3.toInt a1_4.toInt (fl_A fa1_5) (fl_nF [(fl_A fa0_3e0_5), (fl_A fa0_3e0_6), (fl_A fa0_3e1_5), (fl_A fa0_3e1_6), (fl_A fa0_3e2_5), (fl_A fa0_3e2_6), (fl_A fa0_3e3_5), (fl_A fa0_3e3_6), (fl_A fa0_3e4_5), (fl_A fa0_3e4_6), (fl_A fa0_3e5_5), (fl_A fa0_3e5_6), (fl_A fa0_3e6_5), (fl_A fa0_3e6_6), (fl_A fa0_3e7_5), (fl_A fa0_3e7_6), (fl_A fa0_3e8_5), (fl_A fa0_3e8_6), (fl_A fa0_3e9_5), (fl_A fa0_3e9_6), (fl_A fa0_3e10_5), (fl_A fa0_3e10_6), (fl_A fa0_3e11_5), (fl_A fa0_3e11_6), (fl_A fa0_3e12_5), (fl_A fa0_3e12_6), (fl_A fa0_3e13_5), (fl_A fa0_3e13_6), (fl_A fa0_3e14_5), (fl_A fa0_3e14_6), (fl_A fa0_3e15_5), (fl_A fa0_3e15_6)]) (fl_A fa1_6))
  refine lv_aload_n hx hb dX1_keep_0 rfl (lv_at hl 0 rfl) ?_
  refine lv_aload_n hx hb dX1_keep_1 rfl (lv_at hl 0 rfl) ?_
  refine va_get (D := (dC, dI)) (ci := 1) (v := .int a0_2) (C := RX1) (T := TX1) (N := 5) hx hb hts zi_X1_keep_1 hown hK hP 0 rfl rfl 2 (by decide) (hts (.fieldLink RX1 28 "WaxTurns$History" "latest" "I") (List.mem_cons_of_mem _ (List.mem_append_left _ (List.mem_append_left _ (List.mem_of_getElem? (i := 0) rfl))))) (fun _ h9 => h9) rfl dX1_keep_2 ?_
  refine lv_iconst (v := 1) hx hb dX1_keep_5 zk_iconst_1 ?_
  refine lv_iadd hx hb dX1_keep_6 ?_
  refine lv_topi (fun x6 ex6 => ?_)
  have qx6 : x6.toInt = a0_2.toInt + (1 : Int32).toInt := ai_add ex6 ⟨ba0_2_l, ba0_2_u⟩ ⟨zq1, zq0⟩ (by decide) (by decide)
  have bx6 : (1 : Int) ≤ x6.toInt ∧ x6.toInt ≤ 16 := ⟨by rw [qx6]; exact Int.add_le_add ba0_2_l zq1, by rw [qx6]; exact Int.add_le_add ba0_2_u zq0⟩
  have wx6 : x6.toInt = a0_2.toInt + 1 := qx6
  have hF0 := hF0.trans (fl_lt_eq (show x6.toInt = a0_2.toInt + 1 from qx6))
  refine lv_bipush (v := 16) hx hb dX1_keep_7 zk_bipush_16 ?_
  refine lv_irem hx hb dX1_keep_9 (by decide +kernel) ?_
  refine lv_topi (fun x9 ex9 => ?_)
  have qx9 := ai_rem2 ex9 (Int.le_trans zq4 bx6.1) (Int.lt_of_lt_of_le zq109 zq110) zq111
  have wx9 : x9.toInt = x6.toInt % 16 := qx9.1
  have hF0 := hF0.trans (fl_lt_eq (show x9.toInt = x6.toInt % 16 from qx9.1))
  refine va_put (D := (dC, dI)) (ci := 1) (v := .int x9) (ty := .int) (C := RX1) (T := TX1) (N := 5) hx hb hts zi_X1_keep_1 tyX1 tyX1_ok nmX1 hown hK hP hD hS 0 rfl rfl 2 (by decide) (hts (.fieldLink RX1 28 "WaxTurns$History" "latest" "I") (List.mem_cons_of_mem _ (List.mem_append_left _ (List.mem_append_left _ (List.mem_of_getElem? (i := 0) rfl))))) (fun _ h9 => h9) rfl (tyX1_ok 2 (by decide)) rfl rfl (Nat.le_of_ble_eq_true rfl) dX1_keep_10 (fun H locs hP hD hS => ?_)
  refine zs_0 (y := (a0, .inr (1, [.int a0_0, a0g_1, .int x9, .ref a0_3, a0g_4]))) hP hD rfl (fun hP hD => ?_)
  refine lv_aload_n hx hb dX1_keep_13 rfl (lv_at hl 0 rfl) ?_
  refine va_get (D := (dC, dI)) (ci := 1) (v := .ref a0_3) (C := RX1) (T := TX1) (N := 5) hx hb hts zi_X1_keep_1 hown hK hP 0 rfl rfl 3 (by decide) (hts (.fieldLink RX1 11 "WaxTurns$History" "kept" "[LWaxTurns$Scene;") (List.mem_cons_of_mem _ (List.mem_append_left _ (List.mem_append_left _ (List.mem_of_getElem? (i := 1) rfl))))) (fun _ h9 => h9) rfl dX1_keep_14 ?_
  refine lv_aload_n hx hb dX1_keep_17 rfl (lv_at hl 0 rfl) ?_
  refine va_get (D := (dC, dI)) (ci := 1) (v := .int x9) (C := RX1) (T := TX1) (N := 5) hx hb hts zi_X1_keep_1 hown hK hP 0 rfl rfl 2 (by decide) (hts (.fieldLink RX1 28 "WaxTurns$History" "latest" "I") (List.mem_cons_of_mem _ (List.mem_append_left _ (List.mem_append_left _ (List.mem_of_getElem? (i := 0) rfl))))) (fun _ h9 => h9) rfl dX1_keep_18 ?_
  have hv21 : x9 = 0 ∨ x9 = 1 ∨ x9 = 2 ∨ x9 = 3 ∨ x9 = 4 ∨ x9 = 5 ∨ x9 = 6 ∨ x9 = 7 ∨ x9 = 8 ∨ x9 = 9 ∨ x9 = 10 ∨ x9 = 11 ∨ x9 = 12 ∨ x9 = 13 ∨ x9 = 14 ∨ x9 = 15 := by
    have h1 : (0 : Int) ≤ x9.toInt := qx9.2.1
    have h2 : x9.toInt ≤ (15 : Int) := qx9.2.2
    rcases (show x9.toInt = 0 ∨ x9.toInt = 1 ∨ x9.toInt = 2 ∨ x9.toInt = 3 ∨ x9.toInt = 4 ∨ x9.toInt = 5 ∨ x9.toInt = 6 ∨ x9.toInt = 7 ∨ x9.toInt = 8 ∨ x9.toInt = 9 ∨ x9.toInt = 10 ∨ x9.toInt = 11 ∨ x9.toInt = 12 ∨ x9.toInt = 13 ∨ x9.toInt = 14 ∨ x9.toInt = 15 by omega) with h | h | h | h | h | h | h | h | h | h | h | h | h | h | h | h
    · exact Or.inl (Int32.toInt_inj.mp (h.trans (by decide)))
    · exact Or.inr (Or.inl (Int32.toInt_inj.mp (h.trans (by decide))))
    · exact Or.inr (Or.inr (Or.inl (Int32.toInt_inj.mp (h.trans (by decide)))))
    · exact Or.inr (Or.inr (Or.inr (Or.inl (Int32.toInt_inj.mp (h.trans (by decide))))))
    · exact Or.inr (Or.inr (Or.inr (Or.inr (Or.inl (Int32.toInt_inj.mp (h.trans (by decide)))))))
    · exact Or.inr (Or.inr (Or.inr (Or.inr (Or.inr (Or.inl (Int32.toInt_inj.mp (h.trans (by decide))))))))
    · exact Or.inr (Or.inr (Or.inr (Or.inr (Or.inr (Or.inr (Or.inl (Int32.toInt_inj.mp (h.trans (by decide)))))))))
    · exact Or.inr (Or.inr (Or.inr (Or.inr (Or.inr (Or.inr (Or.inr (Or.inl (Int32.toInt_inj.mp (h.trans (by decide))))))))))
    · exact Or.inr (Or.inr (Or.inr (Or.inr (Or.inr (Or.inr (Or.inr (Or.inr (Or.inl (Int32.toInt_inj.mp (h.trans (by decide)))))))))))
    · exact Or.inr (Or.inr (Or.inr (Or.inr (Or.inr (Or.inr (Or.inr (Or.inr (Or.inr (Or.inl (Int32.toInt_inj.mp (h.trans (by decide))))))))))))
    · exact Or.inr (Or.inr (Or.inr (Or.inr (Or.inr (Or.inr (Or.inr (Or.inr (Or.inr (Or.inr (Or.inl (Int32.toInt_inj.mp (h.trans (by decide)))))))))))))
    · exact Or.inr (Or.inr (Or.inr (Or.inr (Or.inr (Or.inr (Or.inr (Or.inr (Or.inr (Or.inr (Or.inr (Or.inl (Int32.toInt_inj.mp (h.trans (by decide))))))))))))))
    · exact Or.inr (Or.inr (Or.inr (Or.inr (Or.inr (Or.inr (Or.inr (Or.inr (Or.inr (Or.inr (Or.inr (Or.inr (Or.inl (Int32.toInt_inj.mp (h.trans (by decide)))))))))))))))
    · exact Or.inr (Or.inr (Or.inr (Or.inr (Or.inr (Or.inr (Or.inr (Or.inr (Or.inr (Or.inr (Or.inr (Or.inr (Or.inr (Or.inl (Int32.toInt_inj.mp (h.trans (by decide))))))))))))))))
    · exact Or.inr (Or.inr (Or.inr (Or.inr (Or.inr (Or.inr (Or.inr (Or.inr (Or.inr (Or.inr (Or.inr (Or.inr (Or.inr (Or.inr (Or.inl (Int32.toInt_inj.mp (h.trans (by decide)))))))))))))))))
    · exact Or.inr (Or.inr (Or.inr (Or.inr (Or.inr (Or.inr (Or.inr (Or.inr (Or.inr (Or.inr (Or.inr (Or.inr (Or.inr (Or.inr (Or.inr (Int32.toInt_inj.mp (h.trans (by decide)))))))))))))))))
  rcases hv21 with hv21 | hv21 | hv21 | hv21 | hv21 | hv21 | hv21 | hv21 | hv21 | hv21 | hv21 | hv21 | hv21 | hv21 | hv21 | hv21
  · subst hv21
    have hF0 := hF0.trans (if_pos (by decide))
    refine va_aldq hx hb hK hP 1 0 rfl rfl (i := 0) (by unfold vp_in; decide +kernel) dX1_keep_21 ?_
    refine ax_tv (.ref a0_3e0) rfl ?_
    refine lv_aload_n hx hb dX1_keep_22 rfl (lv_at hl 1 rfl) ?_
    refine zc_cutc (wc := [(a0_3e0, .inr (5, [.int a0_3e0_0, .int a0_3e0_1, .int a0_3e0_2, .int a0_3e0_3, .int a0_3e0_4, .ref a0_3e0_5, .ref a0_3e0_6])), (a1, .inr (5, [.int a1_0, .int a1_1, .int a1_2, .int a1_3, .int a1_4, .ref a1_5, .ref a1_6])), (a1_5, .inl (ka1_5, 9, .inl (fa1_5))), (a0_3e0_5, .inl (ka0_3e0_5, 9, .inl (fa0_3e0_5))), (a1_6, .inl (ka1_6, 9, .inl (fa1_6))), (a0_3e0_6, .inl (ka0_3e0_6, 9, .inl (fa0_3e0_6)))]) hP hD hS hA [2, 3, 4, 5, 6, 7] (by decide +kernel) rfl (fun hPc hDc hFc hCc => ?_)
    have hKc := hK.sub (tys' := [(ka1_5, .int), (ka0_3e0_5, .int), (ka1_6, .int), (ka0_3e0_6, .int)]) [1, 2, 3, 4] rfl
    refine va_callv (va_runV (As := [.ref a1]) (rest := []) ⟨hx, hb, hml, hown, hts⟩ (f_X5_copyFrom l dC dI H.size a0_3e0 a1 a0_3e0_0 a0_3e0_1 a0_3e0_2 a0_3e0_3 a0_3e0_4 a0_3e0_5 a0_3e0_6 a1_0 a1_1 a1_2 a1_3 a1_4 a1_5 a1_6 ka1_5 fa1_5 ka0_3e0_5 fa0_3e0_5 ka1_6 fa1_6 ka0_3e0_6 fa0_3e0_6 ba0_3e0_1_l ba0_3e0_1_u ba1_1_l ba1_1_u) (cwV 1 hts gX1_keep_X5_copyFrom rfl rfl rfl zd_X5_copyFrom ⟨Nat.le_of_ble_eq_true rfl, Nat.le_of_ble_eq_true rfl⟩) ⟨ax_blind (fun _ _ _ _ _ => trivial), zr_5 hKc hPc (q0 := 0) rfl, ax_pre hPc hKc hDc (fun _ _ => trivial)⟩ rfl rfl hl.1 rfl (lv_room (Nat.le_of_ble_eq_true rfl)) dX1_keep_23 ⟨Nat.le_of_ble_eq_true rfl, Nat.le_of_ble_eq_true rfl⟩) hS (fun q _ h => hFc q h) hFc (fun u t H locs ht hvm hw => zx_7 (fun v23na0_0 v23na0_1 v23na0_2 v23na0_3 v23na0_4 v23nfa0_5 v23nfa0_6 => zy_2 (fun bv23na0_1 hraw23_0 hB hz1 hk1 hS1 => zo hB ht hS1 (fun hP1 hK1 hD1 hS => ?_))))
    refine zc_backc (w := [(a0, .inr (1, [.int a0_0, a0g_1, .int 0, .ref a0_3, a0g_4])), (a0_3, .inl (ka0_3, 16, .inr (.inr (.inr (.inr (fun i9 => ([some a0_3e0, some a0_3e1, some a0_3e2, some a0_3e3, some a0_3e4, some a0_3e5, some a0_3e6, some a0_3e7, some a0_3e8, some a0_3e9, some a0_3e10, some a0_3e11, some a0_3e12, some a0_3e13, some a0_3e14, some a0_3e15] : List (Option Nat)).getD i9 none)))))), (a0_3e0, .inr (5, [.int v23na0_0, .int v23na0_1, .int v23na0_2, .int v23na0_3, .int v23na0_4, .ref a0_3e0_5, .ref a0_3e0_6])), (a1, .inr (5, [.int a1_0, .int a1_1, .int a1_2, .int a1_3, .int a1_4, .ref a1_5, .ref a1_6])), (a1_5, .inl (ka1_5, 9, .inl (fa1_5))), (a0_3e0_5, .inl (ka0_3e0_5, 9, .inl (v23nfa0_5))), (a1_6, .inl (ka1_6, 9, .inl (fa1_6))), (a0_3e0_6, .inl (ka0_3e0_6, 9, .inl (v23nfa0_6))), (a0_3e1, .inr (5, [.int a0_3e1_0, .int a0_3e1_1, .int a0_3e1_2, .int a0_3e1_3, .int a0_3e1_4, .ref a0_3e1_5, .ref a0_3e1_6])), (a0_3e1_5, .inl (ka0_3e1_5, 9, .inl (fa0_3e1_5))), (a0_3e1_6, .inl (ka0_3e1_6, 9, .inl (fa0_3e1_6))), (a0_3e2, .inr (5, [.int a0_3e2_0, .int a0_3e2_1, .int a0_3e2_2, .int a0_3e2_3, .int a0_3e2_4, .ref a0_3e2_5, .ref a0_3e2_6])), (a0_3e2_5, .inl (ka0_3e2_5, 9, .inl (fa0_3e2_5))), (a0_3e2_6, .inl (ka0_3e2_6, 9, .inl (fa0_3e2_6))), (a0_3e3, .inr (5, [.int a0_3e3_0, .int a0_3e3_1, .int a0_3e3_2, .int a0_3e3_3, .int a0_3e3_4, .ref a0_3e3_5, .ref a0_3e3_6])), (a0_3e3_5, .inl (ka0_3e3_5, 9, .inl (fa0_3e3_5))), (a0_3e3_6, .inl (ka0_3e3_6, 9, .inl (fa0_3e3_6))), (a0_3e4, .inr (5, [.int a0_3e4_0, .int a0_3e4_1, .int a0_3e4_2, .int a0_3e4_3, .int a0_3e4_4, .ref a0_3e4_5, .ref a0_3e4_6])), (a0_3e4_5, .inl (ka0_3e4_5, 9, .inl (fa0_3e4_5))), (a0_3e4_6, .inl (ka0_3e4_6, 9, .inl (fa0_3e4_6))), (a0_3e5, .inr (5, [.int a0_3e5_0, .int a0_3e5_1, .int a0_3e5_2, .int a0_3e5_3, .int a0_3e5_4, .ref a0_3e5_5, .ref a0_3e5_6])), (a0_3e5_5, .inl (ka0_3e5_5, 9, .inl (fa0_3e5_5))), (a0_3e5_6, .inl (ka0_3e5_6, 9, .inl (fa0_3e5_6))), (a0_3e6, .inr (5, [.int a0_3e6_0, .int a0_3e6_1, .int a0_3e6_2, .int a0_3e6_3, .int a0_3e6_4, .ref a0_3e6_5, .ref a0_3e6_6])), (a0_3e6_5, .inl (ka0_3e6_5, 9, .inl (fa0_3e6_5))), (a0_3e6_6, .inl (ka0_3e6_6, 9, .inl (fa0_3e6_6))), (a0_3e7, .inr (5, [.int a0_3e7_0, .int a0_3e7_1, .int a0_3e7_2, .int a0_3e7_3, .int a0_3e7_4, .ref a0_3e7_5, .ref a0_3e7_6])), (a0_3e7_5, .inl (ka0_3e7_5, 9, .inl (fa0_3e7_5))), (a0_3e7_6, .inl (ka0_3e7_6, 9, .inl (fa0_3e7_6))), (a0_3e8, .inr (5, [.int a0_3e8_0, .int a0_3e8_1, .int a0_3e8_2, .int a0_3e8_3, .int a0_3e8_4, .ref a0_3e8_5, .ref a0_3e8_6])), (a0_3e8_5, .inl (ka0_3e8_5, 9, .inl (fa0_3e8_5))), (a0_3e8_6, .inl (ka0_3e8_6, 9, .inl (fa0_3e8_6))), (a0_3e9, .inr (5, [.int a0_3e9_0, .int a0_3e9_1, .int a0_3e9_2, .int a0_3e9_3, .int a0_3e9_4, .ref a0_3e9_5, .ref a0_3e9_6])), (a0_3e9_5, .inl (ka0_3e9_5, 9, .inl (fa0_3e9_5))), (a0_3e9_6, .inl (ka0_3e9_6, 9, .inl (fa0_3e9_6))), (a0_3e10, .inr (5, [.int a0_3e10_0, .int a0_3e10_1, .int a0_3e10_2, .int a0_3e10_3, .int a0_3e10_4, .ref a0_3e10_5, .ref a0_3e10_6])), (a0_3e10_5, .inl (ka0_3e10_5, 9, .inl (fa0_3e10_5))), (a0_3e10_6, .inl (ka0_3e10_6, 9, .inl (fa0_3e10_6))), (a0_3e11, .inr (5, [.int a0_3e11_0, .int a0_3e11_1, .int a0_3e11_2, .int a0_3e11_3, .int a0_3e11_4, .ref a0_3e11_5, .ref a0_3e11_6])), (a0_3e11_5, .inl (ka0_3e11_5, 9, .inl (fa0_3e11_5))), (a0_3e11_6, .inl (ka0_3e11_6, 9, .inl (fa0_3e11_6))), (a0_3e12, .inr (5, [.int a0_3e12_0, .int a0_3e12_1, .int a0_3e12_2, .int a0_3e12_3, .int a0_3e12_4, .ref a0_3e12_5, .ref a0_3e12_6])), (a0_3e12_5, .inl (ka0_3e12_5, 9, .inl (fa0_3e12_5))), (a0_3e12_6, .inl (ka0_3e12_6, 9, .inl (fa0_3e12_6))), (a0_3e13, .inr (5, [.int a0_3e13_0, .int a0_3e13_1, .int a0_3e13_2, .int a0_3e13_3, .int a0_3e13_4, .ref a0_3e13_5, .ref a0_3e13_6])), (a0_3e13_5, .inl (ka0_3e13_5, 9, .inl (fa0_3e13_5))), (a0_3e13_6, .inl (ka0_3e13_6, 9, .inl (fa0_3e13_6))), (a0_3e14, .inr (5, [.int a0_3e14_0, .int a0_3e14_1, .int a0_3e14_2, .int a0_3e14_3, .int a0_3e14_4, .ref a0_3e14_5, .ref a0_3e14_6])), (a0_3e14_5, .inl (ka0_3e14_5, 9, .inl (fa0_3e14_5))), (a0_3e14_6, .inl (ka0_3e14_6, 9, .inl (fa0_3e14_6))), (a0_3e15, .inr (5, [.int a0_3e15_0, .int a0_3e15_1, .int a0_3e15_2, .int a0_3e15_3, .int a0_3e15_4, .ref a0_3e15_5, .ref a0_3e15_6])), (a0_3e15_5, .inl (ka0_3e15_5, 9, .inl (fa0_3e15_5))), (a0_3e15_6, .inl (ka0_3e15_6, 9, .inl (fa0_3e15_6)))]) hP hD hCc hk1 hFc hP1 hD1 [.inl 0, .inl 1, .inr 0, .inr 1, .inr 2, .inr 3, .inr 4, .inr 5, .inl 8, .inl 9, .inl 10, .inl 11, .inl 12, .inl 13, .inl 14, .inl 15, .inl 16, .inl 17, .inl 18, .inl 19, .inl 20, .inl 21, .inl 22, .inl 23, .inl 24, .inl 25, .inl 26, .inl 27, .inl 28, .inl 29, .inl 30, .inl 31, .inl 32, .inl 33, .inl 34, .inl 35, .inl 36, .inl 37, .inl 38, .inl 39, .inl 40, .inl 41, .inl 42, .inl 43, .inl 44, .inl 45, .inl 46, .inl 47, .inl 48, .inl 49, .inl 50, .inl 51, .inl 52] (by decide +kernel) rfl (fun hP hD => ?_)
    have hc23 : Ff_X5_copyFrom a1_0.toInt a1_1.toInt a1_2.toInt a1_3.toInt a1_4.toInt (fl_A fa1_5) (fl_A fa0_3e0_5) (fl_A fa1_6) (fl_A fa0_3e0_6) = (v23na0_0.toInt, v23na0_1.toInt, v23na0_2.toInt, v23na0_3.toInt, v23na0_4.toInt, (fl_A v23nfa0_5), (fl_A v23nfa0_6)) := hraw23_0
    have hF0 := hF0.trans (fl_c7_eq hc23)
    refine lv_aload_n hx hb dX1_keep_26 rfl (lv_at hl 0 rfl) ?_
    refine lv_aload_n hx hb dX1_keep_27 rfl (lv_at hl 0 rfl) ?_
    refine va_get (D := (dC, dI)) (ci := 1) (v := .int a0_0) (C := RX1) (T := TX1) (N := 5) hx hb hts zi_X1_keep_1 hown hK hP 0 rfl rfl 0 (by decide) (hts (.fieldLink RX1 21 "WaxTurns$History" "keptCount" "I") (List.mem_cons_of_mem _ (List.mem_append_left _ (List.mem_append_left _ (List.mem_of_getElem? (i := 2) rfl))))) (fun _ h9 => h9) rfl dX1_keep_28 ?_
    refine lv_iconst (v := 1) hx hb dX1_keep_31 zk_iconst_1 ?_
    refine lv_iadd hx hb dX1_keep_32 ?_
    refine lv_topi (fun x32 ex32 => ?_)
    have qx32 : x32.toInt = a0_0.toInt + (1 : Int32).toInt := ai_add ex32 ⟨ba0_0_l, ba0_0_u⟩ ⟨zq1, zq0⟩ (by decide) (by decide)
    have bx32 : (1 : Int) ≤ x32.toInt ∧ x32.toInt ≤ 17 := ⟨by rw [qx32]; exact Int.add_le_add ba0_0_l zq1, by rw [qx32]; exact Int.add_le_add ba0_0_u zq0⟩
    have wx32 : x32.toInt = a0_0.toInt + 1 := qx32
    have hF0 := hF0.trans (fl_lt_eq (show x32.toInt = a0_0.toInt + 1 from qx32))
    refine lv_bipush (v := 16) hx hb dX1_keep_33 zk_bipush_16 ?_
    refine va_mmin hx hb (by rw [hml]; exact hl.1.symm) hown (hts (.methodLink RX1 35 Lib.Math.min.name) (List.mem_cons_of_mem _ (List.mem_append_left _ (List.mem_append_left _ (List.mem_of_getElem? (i := 3) rfl))))) (hts (.static Lib.Math.min.name) (List.mem_cons_of_mem _ (List.mem_append_left _ (List.mem_append_left _ (List.mem_of_getElem? (i := 4) rfl))))) (hts (.initialized "java/lang/Math") (List.mem_cons_of_mem _ (List.mem_append_left _ (List.mem_append_left _ (List.mem_of_getElem? (i := 5) rfl))))) (hts _ mnX1_keep) (Nat.le_of_ble_eq_true rfl) (Nat.le_of_ble_eq_true rfl) (Nat.le_of_ble_eq_true rfl) (Nat.le_of_ble_eq_true rfl) dX1_keep_35 ?_
    refine lv_topi (fun x35 ex35 => ?_)
    have qx35 := ai_mmin ex35
    have bx35 : (1 : Int) ≤ x35.toInt ∧ x35.toInt ≤ 16 := by first | exact zg_mm qx35 bx32.1 zq110 bx32.2 zq111 (by decide) (by decide) (by decide) | exact zg_mm qx35 zq110 bx32.1 zq111 bx32.2 (by decide) (by decide) (by decide) | (have h1 := bx32.1; have h2 := zq110; have h3 := bx32.2; have h4 := zq111; omega)
    have fqx35 := fl_min_eq ex35
    have hF0 := hF0.trans (fl_lt_eq (show x35.toInt = fl_min x32.toInt 16 from fqx35))
    refine va_put (D := (dC, dI)) (ci := 1) (v := .int x35) (ty := .int) (C := RX1) (T := TX1) (N := 5) hx hb hts zi_X1_keep_1 tyX1 tyX1_ok nmX1 hown hK hP hD hS 0 rfl rfl 0 (by decide) (hts (.fieldLink RX1 21 "WaxTurns$History" "keptCount" "I") (List.mem_cons_of_mem _ (List.mem_append_left _ (List.mem_append_left _ (List.mem_of_getElem? (i := 2) rfl))))) (fun _ h9 => h9) rfl (tyX1_ok 0 (by decide)) rfl rfl (Nat.le_of_ble_eq_true rfl) dX1_keep_38 (fun H locs hP hD hS => ?_)
    refine zs_0 (y := (a0, .inr (1, [.int x35, a0g_1, .int 0, .ref a0_3, a0g_4]))) hP hD rfl (fun hP hD => ?_)
    have hFe : FX = (x35.toInt, 0, (fl_nI [v23na0_0.toInt, v23na0_1.toInt, v23na0_2.toInt, v23na0_3.toInt, v23na0_4.toInt, a0_3e1_0.toInt, a0_3e1_1.toInt, a0_3e1_2.toInt, a0_3e1_3.toInt, a0_3e1_4.toInt, a0_3e2_0.toInt, a0_3e2_1.toInt, a0_3e2_2.toInt, a0_3e2_3.toInt, a0_3e2_4.toInt, a0_3e3_0.toInt, a0_3e3_1.toInt, a0_3e3_2.toInt, a0_3e3_3.toInt, a0_3e3_4.toInt, a0_3e4_0.toInt, a0_3e4_1.toInt, a0_3e4_2.toInt, a0_3e4_3.toInt, a0_3e4_4.toInt, a0_3e5_0.toInt, a0_3e5_1.toInt, a0_3e5_2.toInt, a0_3e5_3.toInt, a0_3e5_4.toInt, a0_3e6_0.toInt, a0_3e6_1.toInt, a0_3e6_2.toInt, a0_3e6_3.toInt, a0_3e6_4.toInt, a0_3e7_0.toInt, a0_3e7_1.toInt, a0_3e7_2.toInt, a0_3e7_3.toInt, a0_3e7_4.toInt, a0_3e8_0.toInt, a0_3e8_1.toInt, a0_3e8_2.toInt, a0_3e8_3.toInt, a0_3e8_4.toInt, a0_3e9_0.toInt, a0_3e9_1.toInt, a0_3e9_2.toInt, a0_3e9_3.toInt, a0_3e9_4.toInt, a0_3e10_0.toInt, a0_3e10_1.toInt, a0_3e10_2.toInt, a0_3e10_3.toInt, a0_3e10_4.toInt, a0_3e11_0.toInt, a0_3e11_1.toInt, a0_3e11_2.toInt, a0_3e11_3.toInt, a0_3e11_4.toInt, a0_3e12_0.toInt, a0_3e12_1.toInt, a0_3e12_2.toInt, a0_3e12_3.toInt, a0_3e12_4.toInt, a0_3e13_0.toInt, a0_3e13_1.toInt, a0_3e13_2.toInt, a0_3e13_3.toInt, a0_3e13_4.toInt, a0_3e14_0.toInt, a0_3e14_1.toInt, a0_3e14_2.toInt, a0_3e14_3.toInt, a0_3e14_4.toInt, a0_3e15_0.toInt, a0_3e15_1.toInt, a0_3e15_2.toInt, a0_3e15_3.toInt, a0_3e15_4.toInt]), (fl_nF [(fl_A v23nfa0_5), (fl_A v23nfa0_6), (fl_A fa0_3e1_5), (fl_A fa0_3e1_6), (fl_A fa0_3e2_5), (fl_A fa0_3e2_6), (fl_A fa0_3e3_5), (fl_A fa0_3e3_6), (fl_A fa0_3e4_5), (fl_A fa0_3e4_6), (fl_A fa0_3e5_5), (fl_A fa0_3e5_6), (fl_A fa0_3e6_5), (fl_A fa0_3e6_6), (fl_A fa0_3e7_5), (fl_A fa0_3e7_6), (fl_A fa0_3e8_5), (fl_A fa0_3e8_6), (fl_A fa0_3e9_5), (fl_A fa0_3e9_6), (fl_A fa0_3e10_5), (fl_A fa0_3e10_6), (fl_A fa0_3e11_5), (fl_A fa0_3e11_6), (fl_A fa0_3e12_5), (fl_A fa0_3e12_6), (fl_A fa0_3e13_5), (fl_A fa0_3e13_6), (fl_A fa0_3e14_5), (fl_A fa0_3e14_6), (fl_A fa0_3e15_5), (fl_A fa0_3e15_6)])) := hF0
    exact W.vret hx hb hr (fun t ht hW => ⟨⟨(), rfl, trivial, (fun i9 => ([x35, 0, v23na0_0, v23na0_1, v23na0_2, v23na0_3, v23na0_4, a0_3e1_0, a0_3e1_1, a0_3e1_2, a0_3e1_3, a0_3e1_4, a0_3e2_0, a0_3e2_1, a0_3e2_2, a0_3e2_3, a0_3e2_4, a0_3e3_0, a0_3e3_1, a0_3e3_2, a0_3e3_3, a0_3e3_4, a0_3e4_0, a0_3e4_1, a0_3e4_2, a0_3e4_3, a0_3e4_4, a0_3e5_0, a0_3e5_1, a0_3e5_2, a0_3e5_3, a0_3e5_4, a0_3e6_0, a0_3e6_1, a0_3e6_2, a0_3e6_3, a0_3e6_4, a0_3e7_0, a0_3e7_1, a0_3e7_2, a0_3e7_3, a0_3e7_4, a0_3e8_0, a0_3e8_1, a0_3e8_2, a0_3e8_3, a0_3e8_4, a0_3e9_0, a0_3e9_1, a0_3e9_2, a0_3e9_3, a0_3e9_4, a0_3e10_0, a0_3e10_1, a0_3e10_2, a0_3e10_3, a0_3e10_4, a0_3e11_0, a0_3e11_1, a0_3e11_2, a0_3e11_3, a0_3e11_4, a0_3e12_0, a0_3e12_1, a0_3e12_2, a0_3e12_3, a0_3e12_4, a0_3e13_0, a0_3e13_1, a0_3e13_2, a0_3e13_3, a0_3e13_4, a0_3e14_0, a0_3e14_1, a0_3e14_2, a0_3e14_3, a0_3e14_4, a0_3e15_0, a0_3e15_1, a0_3e15_2, a0_3e15_3, a0_3e15_4] : List Int32).getD i9 0), (fun i9 => ([v23nfa0_5, v23nfa0_6, fa0_3e1_5, fa0_3e1_6, fa0_3e2_5, fa0_3e2_6, fa0_3e3_5, fa0_3e3_6, fa0_3e4_5, fa0_3e4_6, fa0_3e5_5, fa0_3e5_6, fa0_3e6_5, fa0_3e6_6, fa0_3e7_5, fa0_3e7_6, fa0_3e8_5, fa0_3e8_6, fa0_3e9_5, fa0_3e9_6, fa0_3e10_5, fa0_3e10_6, fa0_3e11_5, fa0_3e11_6, fa0_3e12_5, fa0_3e12_6, fa0_3e13_5, fa0_3e13_6, fa0_3e14_5, fa0_3e14_6, fa0_3e15_5, fa0_3e15_6] : List (Nat → Int32)).getD i9 (fun _ => 0)), ⟨Int.le_trans (by decide) bx35.1, bx35.2⟩, ⟨zq5, Int.le_trans zq6 (by decide)⟩, ⟨bv23na0_1.1, bv23na0_1.2⟩, ⟨ba0_3e1_1_l, ba0_3e1_1_u⟩, ⟨ba0_3e2_1_l, ba0_3e2_1_u⟩, ⟨ba0_3e3_1_l, ba0_3e3_1_u⟩, ⟨ba0_3e4_1_l, ba0_3e4_1_u⟩, ⟨ba0_3e5_1_l, ba0_3e5_1_u⟩, ⟨ba0_3e6_1_l, ba0_3e6_1_u⟩, ⟨ba0_3e7_1_l, ba0_3e7_1_u⟩, ⟨ba0_3e8_1_l, ba0_3e8_1_u⟩, ⟨ba0_3e9_1_l, ba0_3e9_1_u⟩, ⟨ba0_3e10_1_l, ba0_3e10_1_u⟩, ⟨ba0_3e11_1_l, ba0_3e11_1_u⟩, ⟨ba0_3e12_1_l, ba0_3e12_1_u⟩, ⟨ba0_3e13_1_l, ba0_3e13_1_u⟩, ⟨ba0_3e14_1_l, ba0_3e14_1_u⟩, ⟨ba0_3e15_1_l, ba0_3e15_1_u⟩, (show (FX = (x35.toInt, (0 : Int32).toInt, (fl_nI [v23na0_0.toInt, v23na0_1.toInt, v23na0_2.toInt, v23na0_3.toInt, v23na0_4.toInt, a0_3e1_0.toInt, a0_3e1_1.toInt, a0_3e1_2.toInt, a0_3e1_3.toInt, a0_3e1_4.toInt, a0_3e2_0.toInt, a0_3e2_1.toInt, a0_3e2_2.toInt, a0_3e2_3.toInt, a0_3e2_4.toInt, a0_3e3_0.toInt, a0_3e3_1.toInt, a0_3e3_2.toInt, a0_3e3_3.toInt, a0_3e3_4.toInt, a0_3e4_0.toInt, a0_3e4_1.toInt, a0_3e4_2.toInt, a0_3e4_3.toInt, a0_3e4_4.toInt, a0_3e5_0.toInt, a0_3e5_1.toInt, a0_3e5_2.toInt, a0_3e5_3.toInt, a0_3e5_4.toInt, a0_3e6_0.toInt, a0_3e6_1.toInt, a0_3e6_2.toInt, a0_3e6_3.toInt, a0_3e6_4.toInt, a0_3e7_0.toInt, a0_3e7_1.toInt, a0_3e7_2.toInt, a0_3e7_3.toInt, a0_3e7_4.toInt, a0_3e8_0.toInt, a0_3e8_1.toInt, a0_3e8_2.toInt, a0_3e8_3.toInt, a0_3e8_4.toInt, a0_3e9_0.toInt, a0_3e9_1.toInt, a0_3e9_2.toInt, a0_3e9_3.toInt, a0_3e9_4.toInt, a0_3e10_0.toInt, a0_3e10_1.toInt, a0_3e10_2.toInt, a0_3e10_3.toInt, a0_3e10_4.toInt, a0_3e11_0.toInt, a0_3e11_1.toInt, a0_3e11_2.toInt, a0_3e11_3.toInt, a0_3e11_4.toInt, a0_3e12_0.toInt, a0_3e12_1.toInt, a0_3e12_2.toInt, a0_3e12_3.toInt, a0_3e12_4.toInt, a0_3e13_0.toInt, a0_3e13_1.toInt, a0_3e13_2.toInt, a0_3e13_3.toInt, a0_3e13_4.toInt, a0_3e14_0.toInt, a0_3e14_1.toInt, a0_3e14_2.toInt, a0_3e14_3.toInt, a0_3e14_4.toInt, a0_3e15_0.toInt, a0_3e15_1.toInt, a0_3e15_2.toInt, a0_3e15_3.toInt, a0_3e15_4.toInt]), (fl_nF [(fl_A v23nfa0_5), (fl_A v23nfa0_6), (fl_A fa0_3e1_5), (fl_A fa0_3e1_6), (fl_A fa0_3e2_5), (fl_A fa0_3e2_6), (fl_A fa0_3e3_5), (fl_A fa0_3e3_6), (fl_A fa0_3e4_5), (fl_A fa0_3e4_6), (fl_A fa0_3e5_5), (fl_A fa0_3e5_6), (fl_A fa0_3e6_5), (fl_A fa0_3e6_6), (fl_A fa0_3e7_5), (fl_A fa0_3e7_6), (fl_A fa0_3e8_5), (fl_A fa0_3e8_6), (fl_A fa0_3e9_5), (fl_A fa0_3e9_6), (fl_A fa0_3e10_5), (fl_A fa0_3e10_6), (fl_A fa0_3e11_5), (fl_A fa0_3e11_6), (fl_A fa0_3e12_5), (fl_A fa0_3e12_6), (fl_A fa0_3e13_5), (fl_A fa0_3e13_6), (fl_A fa0_3e14_5), (fl_A fa0_3e14_6), (fl_A fa0_3e15_5), (fl_A fa0_3e15_6)]))) from hFe), by rw [ht]; exact hP, va_K.moved hW.alike hK, hD⟩, hS.F ht⟩) hS.2.2 dX1_keep_41
  · subst hv21
    have hF0 := hF0.trans (if_neg (by decide))
    have hF0 := hF0.trans (if_pos (by decide))
    refine va_aldq hx hb hK hP 1 0 rfl rfl (i := 1) (by unfold vp_in; decide +kernel) dX1_keep_21 ?_
    refine ax_tv (.ref a0_3e1) rfl ?_
    refine lv_aload_n hx hb dX1_keep_22 rfl (lv_at hl 1 rfl) ?_
    refine zc_cutc (wc := [(a0_3e1, .inr (5, [.int a0_3e1_0, .int a0_3e1_1, .int a0_3e1_2, .int a0_3e1_3, .int a0_3e1_4, .ref a0_3e1_5, .ref a0_3e1_6])), (a1, .inr (5, [.int a1_0, .int a1_1, .int a1_2, .int a1_3, .int a1_4, .ref a1_5, .ref a1_6])), (a1_5, .inl (ka1_5, 9, .inl (fa1_5))), (a0_3e1_5, .inl (ka0_3e1_5, 9, .inl (fa0_3e1_5))), (a1_6, .inl (ka1_6, 9, .inl (fa1_6))), (a0_3e1_6, .inl (ka0_3e1_6, 9, .inl (fa0_3e1_6)))]) hP hD hS hA [8, 3, 4, 9, 6, 10] (by decide +kernel) rfl (fun hPc hDc hFc hCc => ?_)
    have hKc := hK.sub (tys' := [(ka1_5, .int), (ka0_3e1_5, .int), (ka1_6, .int), (ka0_3e1_6, .int)]) [1, 5, 3, 6] rfl
    refine va_callv (va_runV (As := [.ref a1]) (rest := []) ⟨hx, hb, hml, hown, hts⟩ (f_X5_copyFrom l dC dI H.size a0_3e1 a1 a0_3e1_0 a0_3e1_1 a0_3e1_2 a0_3e1_3 a0_3e1_4 a0_3e1_5 a0_3e1_6 a1_0 a1_1 a1_2 a1_3 a1_4 a1_5 a1_6 ka1_5 fa1_5 ka0_3e1_5 fa0_3e1_5 ka1_6 fa1_6 ka0_3e1_6 fa0_3e1_6 ba0_3e1_1_l ba0_3e1_1_u ba1_1_l ba1_1_u) (cwV 1 hts gX1_keep_X5_copyFrom rfl rfl rfl zd_X5_copyFrom ⟨Nat.le_of_ble_eq_true rfl, Nat.le_of_ble_eq_true rfl⟩) ⟨ax_blind (fun _ _ _ _ _ => trivial), zr_5 hKc hPc (q0 := 0) rfl, ax_pre hPc hKc hDc (fun _ _ => trivial)⟩ rfl rfl hl.1 rfl (lv_room (Nat.le_of_ble_eq_true rfl)) dX1_keep_23 ⟨Nat.le_of_ble_eq_true rfl, Nat.le_of_ble_eq_true rfl⟩) hS (fun q _ h => hFc q h) hFc (fun u t H locs ht hvm hw => zx_7 (fun v23na0_0 v23na0_1 v23na0_2 v23na0_3 v23na0_4 v23nfa0_5 v23nfa0_6 => zy_2 (fun bv23na0_1 hraw23_0 hB hz1 hk1 hS1 => zo hB ht hS1 (fun hP1 hK1 hD1 hS => ?_))))
    refine zc_backc (w := [(a0, .inr (1, [.int a0_0, a0g_1, .int 1, .ref a0_3, a0g_4])), (a0_3, .inl (ka0_3, 16, .inr (.inr (.inr (.inr (fun i9 => ([some a0_3e0, some a0_3e1, some a0_3e2, some a0_3e3, some a0_3e4, some a0_3e5, some a0_3e6, some a0_3e7, some a0_3e8, some a0_3e9, some a0_3e10, some a0_3e11, some a0_3e12, some a0_3e13, some a0_3e14, some a0_3e15] : List (Option Nat)).getD i9 none)))))), (a0_3e0, .inr (5, [.int a0_3e0_0, .int a0_3e0_1, .int a0_3e0_2, .int a0_3e0_3, .int a0_3e0_4, .ref a0_3e0_5, .ref a0_3e0_6])), (a1, .inr (5, [.int a1_0, .int a1_1, .int a1_2, .int a1_3, .int a1_4, .ref a1_5, .ref a1_6])), (a1_5, .inl (ka1_5, 9, .inl (fa1_5))), (a0_3e0_5, .inl (ka0_3e0_5, 9, .inl (fa0_3e0_5))), (a1_6, .inl (ka1_6, 9, .inl (fa1_6))), (a0_3e0_6, .inl (ka0_3e0_6, 9, .inl (fa0_3e0_6))), (a0_3e1, .inr (5, [.int v23na0_0, .int v23na0_1, .int v23na0_2, .int v23na0_3, .int v23na0_4, .ref a0_3e1_5, .ref a0_3e1_6])), (a0_3e1_5, .inl (ka0_3e1_5, 9, .inl (v23nfa0_5))), (a0_3e1_6, .inl (ka0_3e1_6, 9, .inl (v23nfa0_6))), (a0_3e2, .inr (5, [.int a0_3e2_0, .int a0_3e2_1, .int a0_3e2_2, .int a0_3e2_3, .int a0_3e2_4, .ref a0_3e2_5, .ref a0_3e2_6])), (a0_3e2_5, .inl (ka0_3e2_5, 9, .inl (fa0_3e2_5))), (a0_3e2_6, .inl (ka0_3e2_6, 9, .inl (fa0_3e2_6))), (a0_3e3, .inr (5, [.int a0_3e3_0, .int a0_3e3_1, .int a0_3e3_2, .int a0_3e3_3, .int a0_3e3_4, .ref a0_3e3_5, .ref a0_3e3_6])), (a0_3e3_5, .inl (ka0_3e3_5, 9, .inl (fa0_3e3_5))), (a0_3e3_6, .inl (ka0_3e3_6, 9, .inl (fa0_3e3_6))), (a0_3e4, .inr (5, [.int a0_3e4_0, .int a0_3e4_1, .int a0_3e4_2, .int a0_3e4_3, .int a0_3e4_4, .ref a0_3e4_5, .ref a0_3e4_6])), (a0_3e4_5, .inl (ka0_3e4_5, 9, .inl (fa0_3e4_5))), (a0_3e4_6, .inl (ka0_3e4_6, 9, .inl (fa0_3e4_6))), (a0_3e5, .inr (5, [.int a0_3e5_0, .int a0_3e5_1, .int a0_3e5_2, .int a0_3e5_3, .int a0_3e5_4, .ref a0_3e5_5, .ref a0_3e5_6])), (a0_3e5_5, .inl (ka0_3e5_5, 9, .inl (fa0_3e5_5))), (a0_3e5_6, .inl (ka0_3e5_6, 9, .inl (fa0_3e5_6))), (a0_3e6, .inr (5, [.int a0_3e6_0, .int a0_3e6_1, .int a0_3e6_2, .int a0_3e6_3, .int a0_3e6_4, .ref a0_3e6_5, .ref a0_3e6_6])), (a0_3e6_5, .inl (ka0_3e6_5, 9, .inl (fa0_3e6_5))), (a0_3e6_6, .inl (ka0_3e6_6, 9, .inl (fa0_3e6_6))), (a0_3e7, .inr (5, [.int a0_3e7_0, .int a0_3e7_1, .int a0_3e7_2, .int a0_3e7_3, .int a0_3e7_4, .ref a0_3e7_5, .ref a0_3e7_6])), (a0_3e7_5, .inl (ka0_3e7_5, 9, .inl (fa0_3e7_5))), (a0_3e7_6, .inl (ka0_3e7_6, 9, .inl (fa0_3e7_6))), (a0_3e8, .inr (5, [.int a0_3e8_0, .int a0_3e8_1, .int a0_3e8_2, .int a0_3e8_3, .int a0_3e8_4, .ref a0_3e8_5, .ref a0_3e8_6])), (a0_3e8_5, .inl (ka0_3e8_5, 9, .inl (fa0_3e8_5))), (a0_3e8_6, .inl (ka0_3e8_6, 9, .inl (fa0_3e8_6))), (a0_3e9, .inr (5, [.int a0_3e9_0, .int a0_3e9_1, .int a0_3e9_2, .int a0_3e9_3, .int a0_3e9_4, .ref a0_3e9_5, .ref a0_3e9_6])), (a0_3e9_5, .inl (ka0_3e9_5, 9, .inl (fa0_3e9_5))), (a0_3e9_6, .inl (ka0_3e9_6, 9, .inl (fa0_3e9_6))), (a0_3e10, .inr (5, [.int a0_3e10_0, .int a0_3e10_1, .int a0_3e10_2, .int a0_3e10_3, .int a0_3e10_4, .ref a0_3e10_5, .ref a0_3e10_6])), (a0_3e10_5, .inl (ka0_3e10_5, 9, .inl (fa0_3e10_5))), (a0_3e10_6, .inl (ka0_3e10_6, 9, .inl (fa0_3e10_6))), (a0_3e11, .inr (5, [.int a0_3e11_0, .int a0_3e11_1, .int a0_3e11_2, .int a0_3e11_3, .int a0_3e11_4, .ref a0_3e11_5, .ref a0_3e11_6])), (a0_3e11_5, .inl (ka0_3e11_5, 9, .inl (fa0_3e11_5))), (a0_3e11_6, .inl (ka0_3e11_6, 9, .inl (fa0_3e11_6))), (a0_3e12, .inr (5, [.int a0_3e12_0, .int a0_3e12_1, .int a0_3e12_2, .int a0_3e12_3, .int a0_3e12_4, .ref a0_3e12_5, .ref a0_3e12_6])), (a0_3e12_5, .inl (ka0_3e12_5, 9, .inl (fa0_3e12_5))), (a0_3e12_6, .inl (ka0_3e12_6, 9, .inl (fa0_3e12_6))), (a0_3e13, .inr (5, [.int a0_3e13_0, .int a0_3e13_1, .int a0_3e13_2, .int a0_3e13_3, .int a0_3e13_4, .ref a0_3e13_5, .ref a0_3e13_6])), (a0_3e13_5, .inl (ka0_3e13_5, 9, .inl (fa0_3e13_5))), (a0_3e13_6, .inl (ka0_3e13_6, 9, .inl (fa0_3e13_6))), (a0_3e14, .inr (5, [.int a0_3e14_0, .int a0_3e14_1, .int a0_3e14_2, .int a0_3e14_3, .int a0_3e14_4, .ref a0_3e14_5, .ref a0_3e14_6])), (a0_3e14_5, .inl (ka0_3e14_5, 9, .inl (fa0_3e14_5))), (a0_3e14_6, .inl (ka0_3e14_6, 9, .inl (fa0_3e14_6))), (a0_3e15, .inr (5, [.int a0_3e15_0, .int a0_3e15_1, .int a0_3e15_2, .int a0_3e15_3, .int a0_3e15_4, .ref a0_3e15_5, .ref a0_3e15_6])), (a0_3e15_5, .inl (ka0_3e15_5, 9, .inl (fa0_3e15_5))), (a0_3e15_6, .inl (ka0_3e15_6, 9, .inl (fa0_3e15_6)))]) hP hD hCc hk1 hFc hP1 hD1 [.inl 0, .inl 1, .inl 2, .inr 1, .inr 2, .inl 5, .inr 4, .inl 7, .inr 0, .inr 3, .inr 5, .inl 11, .inl 12, .inl 13, .inl 14, .inl 15, .inl 16, .inl 17, .inl 18, .inl 19, .inl 20, .inl 21, .inl 22, .inl 23, .inl 24, .inl 25, .inl 26, .inl 27, .inl 28, .inl 29, .inl 30, .inl 31, .inl 32, .inl 33, .inl 34, .inl 35, .inl 36, .inl 37, .inl 38, .inl 39, .inl 40, .inl 41, .inl 42, .inl 43, .inl 44, .inl 45, .inl 46, .inl 47, .inl 48, .inl 49, .inl 50, .inl 51, .inl 52] (by decide +kernel) rfl (fun hP hD => ?_)
    have hc23 : Ff_X5_copyFrom a1_0.toInt a1_1.toInt a1_2.toInt a1_3.toInt a1_4.toInt (fl_A fa1_5) (fl_A fa0_3e1_5) (fl_A fa1_6) (fl_A fa0_3e1_6) = (v23na0_0.toInt, v23na0_1.toInt, v23na0_2.toInt, v23na0_3.toInt, v23na0_4.toInt, (fl_A v23nfa0_5), (fl_A v23nfa0_6)) := hraw23_0
    have hF0 := hF0.trans (fl_c7_eq hc23)
    refine lv_aload_n hx hb dX1_keep_26 rfl (lv_at hl 0 rfl) ?_
    refine lv_aload_n hx hb dX1_keep_27 rfl (lv_at hl 0 rfl) ?_
    refine va_get (D := (dC, dI)) (ci := 1) (v := .int a0_0) (C := RX1) (T := TX1) (N := 5) hx hb hts zi_X1_keep_1 hown hK hP 0 rfl rfl 0 (by decide) (hts (.fieldLink RX1 21 "WaxTurns$History" "keptCount" "I") (List.mem_cons_of_mem _ (List.mem_append_left _ (List.mem_append_left _ (List.mem_of_getElem? (i := 2) rfl))))) (fun _ h9 => h9) rfl dX1_keep_28 ?_
    refine lv_iconst (v := 1) hx hb dX1_keep_31 zk_iconst_1 ?_
    refine lv_iadd hx hb dX1_keep_32 ?_
    refine lv_topi (fun x32 ex32 => ?_)
    have qx32 : x32.toInt = a0_0.toInt + (1 : Int32).toInt := ai_add ex32 ⟨ba0_0_l, ba0_0_u⟩ ⟨zq1, zq0⟩ (by decide) (by decide)
    have bx32 : (1 : Int) ≤ x32.toInt ∧ x32.toInt ≤ 17 := ⟨by rw [qx32]; exact Int.add_le_add ba0_0_l zq1, by rw [qx32]; exact Int.add_le_add ba0_0_u zq0⟩
    have wx32 : x32.toInt = a0_0.toInt + 1 := qx32
    have hF0 := hF0.trans (fl_lt_eq (show x32.toInt = a0_0.toInt + 1 from qx32))
    refine lv_bipush (v := 16) hx hb dX1_keep_33 zk_bipush_16 ?_
    refine va_mmin hx hb (by rw [hml]; exact hl.1.symm) hown (hts (.methodLink RX1 35 Lib.Math.min.name) (List.mem_cons_of_mem _ (List.mem_append_left _ (List.mem_append_left _ (List.mem_of_getElem? (i := 3) rfl))))) (hts (.static Lib.Math.min.name) (List.mem_cons_of_mem _ (List.mem_append_left _ (List.mem_append_left _ (List.mem_of_getElem? (i := 4) rfl))))) (hts (.initialized "java/lang/Math") (List.mem_cons_of_mem _ (List.mem_append_left _ (List.mem_append_left _ (List.mem_of_getElem? (i := 5) rfl))))) (hts _ mnX1_keep) (Nat.le_of_ble_eq_true rfl) (Nat.le_of_ble_eq_true rfl) (Nat.le_of_ble_eq_true rfl) (Nat.le_of_ble_eq_true rfl) dX1_keep_35 ?_
    refine lv_topi (fun x35 ex35 => ?_)
    have qx35 := ai_mmin ex35
    have bx35 : (1 : Int) ≤ x35.toInt ∧ x35.toInt ≤ 16 := by first | exact zg_mm qx35 bx32.1 zq110 bx32.2 zq111 (by decide) (by decide) (by decide) | exact zg_mm qx35 zq110 bx32.1 zq111 bx32.2 (by decide) (by decide) (by decide) | (have h1 := bx32.1; have h2 := zq110; have h3 := bx32.2; have h4 := zq111; omega)
    have fqx35 := fl_min_eq ex35
    have hF0 := hF0.trans (fl_lt_eq (show x35.toInt = fl_min x32.toInt 16 from fqx35))
    refine va_put (D := (dC, dI)) (ci := 1) (v := .int x35) (ty := .int) (C := RX1) (T := TX1) (N := 5) hx hb hts zi_X1_keep_1 tyX1 tyX1_ok nmX1 hown hK hP hD hS 0 rfl rfl 0 (by decide) (hts (.fieldLink RX1 21 "WaxTurns$History" "keptCount" "I") (List.mem_cons_of_mem _ (List.mem_append_left _ (List.mem_append_left _ (List.mem_of_getElem? (i := 2) rfl))))) (fun _ h9 => h9) rfl (tyX1_ok 0 (by decide)) rfl rfl (Nat.le_of_ble_eq_true rfl) dX1_keep_38 (fun H locs hP hD hS => ?_)
    refine zs_0 (y := (a0, .inr (1, [.int x35, a0g_1, .int 1, .ref a0_3, a0g_4]))) hP hD rfl (fun hP hD => ?_)
    have hFe : FX = (x35.toInt, 1, (fl_nI [a0_3e0_0.toInt, a0_3e0_1.toInt, a0_3e0_2.toInt, a0_3e0_3.toInt, a0_3e0_4.toInt, v23na0_0.toInt, v23na0_1.toInt, v23na0_2.toInt, v23na0_3.toInt, v23na0_4.toInt, a0_3e2_0.toInt, a0_3e2_1.toInt, a0_3e2_2.toInt, a0_3e2_3.toInt, a0_3e2_4.toInt, a0_3e3_0.toInt, a0_3e3_1.toInt, a0_3e3_2.toInt, a0_3e3_3.toInt, a0_3e3_4.toInt, a0_3e4_0.toInt, a0_3e4_1.toInt, a0_3e4_2.toInt, a0_3e4_3.toInt, a0_3e4_4.toInt, a0_3e5_0.toInt, a0_3e5_1.toInt, a0_3e5_2.toInt, a0_3e5_3.toInt, a0_3e5_4.toInt, a0_3e6_0.toInt, a0_3e6_1.toInt, a0_3e6_2.toInt, a0_3e6_3.toInt, a0_3e6_4.toInt, a0_3e7_0.toInt, a0_3e7_1.toInt, a0_3e7_2.toInt, a0_3e7_3.toInt, a0_3e7_4.toInt, a0_3e8_0.toInt, a0_3e8_1.toInt, a0_3e8_2.toInt, a0_3e8_3.toInt, a0_3e8_4.toInt, a0_3e9_0.toInt, a0_3e9_1.toInt, a0_3e9_2.toInt, a0_3e9_3.toInt, a0_3e9_4.toInt, a0_3e10_0.toInt, a0_3e10_1.toInt, a0_3e10_2.toInt, a0_3e10_3.toInt, a0_3e10_4.toInt, a0_3e11_0.toInt, a0_3e11_1.toInt, a0_3e11_2.toInt, a0_3e11_3.toInt, a0_3e11_4.toInt, a0_3e12_0.toInt, a0_3e12_1.toInt, a0_3e12_2.toInt, a0_3e12_3.toInt, a0_3e12_4.toInt, a0_3e13_0.toInt, a0_3e13_1.toInt, a0_3e13_2.toInt, a0_3e13_3.toInt, a0_3e13_4.toInt, a0_3e14_0.toInt, a0_3e14_1.toInt, a0_3e14_2.toInt, a0_3e14_3.toInt, a0_3e14_4.toInt, a0_3e15_0.toInt, a0_3e15_1.toInt, a0_3e15_2.toInt, a0_3e15_3.toInt, a0_3e15_4.toInt]), (fl_nF [(fl_A fa0_3e0_5), (fl_A fa0_3e0_6), (fl_A v23nfa0_5), (fl_A v23nfa0_6), (fl_A fa0_3e2_5), (fl_A fa0_3e2_6), (fl_A fa0_3e3_5), (fl_A fa0_3e3_6), (fl_A fa0_3e4_5), (fl_A fa0_3e4_6), (fl_A fa0_3e5_5), (fl_A fa0_3e5_6), (fl_A fa0_3e6_5), (fl_A fa0_3e6_6), (fl_A fa0_3e7_5), (fl_A fa0_3e7_6), (fl_A fa0_3e8_5), (fl_A fa0_3e8_6), (fl_A fa0_3e9_5), (fl_A fa0_3e9_6), (fl_A fa0_3e10_5), (fl_A fa0_3e10_6), (fl_A fa0_3e11_5), (fl_A fa0_3e11_6), (fl_A fa0_3e12_5), (fl_A fa0_3e12_6), (fl_A fa0_3e13_5), (fl_A fa0_3e13_6), (fl_A fa0_3e14_5), (fl_A fa0_3e14_6), (fl_A fa0_3e15_5), (fl_A fa0_3e15_6)])) := hF0
    exact W.vret hx hb hr (fun t ht hW => ⟨⟨(), rfl, trivial, (fun i9 => ([x35, 1, a0_3e0_0, a0_3e0_1, a0_3e0_2, a0_3e0_3, a0_3e0_4, v23na0_0, v23na0_1, v23na0_2, v23na0_3, v23na0_4, a0_3e2_0, a0_3e2_1, a0_3e2_2, a0_3e2_3, a0_3e2_4, a0_3e3_0, a0_3e3_1, a0_3e3_2, a0_3e3_3, a0_3e3_4, a0_3e4_0, a0_3e4_1, a0_3e4_2, a0_3e4_3, a0_3e4_4, a0_3e5_0, a0_3e5_1, a0_3e5_2, a0_3e5_3, a0_3e5_4, a0_3e6_0, a0_3e6_1, a0_3e6_2, a0_3e6_3, a0_3e6_4, a0_3e7_0, a0_3e7_1, a0_3e7_2, a0_3e7_3, a0_3e7_4, a0_3e8_0, a0_3e8_1, a0_3e8_2, a0_3e8_3, a0_3e8_4, a0_3e9_0, a0_3e9_1, a0_3e9_2, a0_3e9_3, a0_3e9_4, a0_3e10_0, a0_3e10_1, a0_3e10_2, a0_3e10_3, a0_3e10_4, a0_3e11_0, a0_3e11_1, a0_3e11_2, a0_3e11_3, a0_3e11_4, a0_3e12_0, a0_3e12_1, a0_3e12_2, a0_3e12_3, a0_3e12_4, a0_3e13_0, a0_3e13_1, a0_3e13_2, a0_3e13_3, a0_3e13_4, a0_3e14_0, a0_3e14_1, a0_3e14_2, a0_3e14_3, a0_3e14_4, a0_3e15_0, a0_3e15_1, a0_3e15_2, a0_3e15_3, a0_3e15_4] : List Int32).getD i9 0), (fun i9 => ([fa0_3e0_5, fa0_3e0_6, v23nfa0_5, v23nfa0_6, fa0_3e2_5, fa0_3e2_6, fa0_3e3_5, fa0_3e3_6, fa0_3e4_5, fa0_3e4_6, fa0_3e5_5, fa0_3e5_6, fa0_3e6_5, fa0_3e6_6, fa0_3e7_5, fa0_3e7_6, fa0_3e8_5, fa0_3e8_6, fa0_3e9_5, fa0_3e9_6, fa0_3e10_5, fa0_3e10_6, fa0_3e11_5, fa0_3e11_6, fa0_3e12_5, fa0_3e12_6, fa0_3e13_5, fa0_3e13_6, fa0_3e14_5, fa0_3e14_6, fa0_3e15_5, fa0_3e15_6] : List (Nat → Int32)).getD i9 (fun _ => 0)), ⟨Int.le_trans (by decide) bx35.1, bx35.2⟩, ⟨Int.le_trans (by decide) zq1, Int.le_trans zq0 (by decide)⟩, ⟨ba0_3e0_1_l, ba0_3e0_1_u⟩, ⟨bv23na0_1.1, bv23na0_1.2⟩, ⟨ba0_3e2_1_l, ba0_3e2_1_u⟩, ⟨ba0_3e3_1_l, ba0_3e3_1_u⟩, ⟨ba0_3e4_1_l, ba0_3e4_1_u⟩, ⟨ba0_3e5_1_l, ba0_3e5_1_u⟩, ⟨ba0_3e6_1_l, ba0_3e6_1_u⟩, ⟨ba0_3e7_1_l, ba0_3e7_1_u⟩, ⟨ba0_3e8_1_l, ba0_3e8_1_u⟩, ⟨ba0_3e9_1_l, ba0_3e9_1_u⟩, ⟨ba0_3e10_1_l, ba0_3e10_1_u⟩, ⟨ba0_3e11_1_l, ba0_3e11_1_u⟩, ⟨ba0_3e12_1_l, ba0_3e12_1_u⟩, ⟨ba0_3e13_1_l, ba0_3e13_1_u⟩, ⟨ba0_3e14_1_l, ba0_3e14_1_u⟩, ⟨ba0_3e15_1_l, ba0_3e15_1_u⟩, (show (FX = (x35.toInt, (1 : Int32).toInt, (fl_nI [a0_3e0_0.toInt, a0_3e0_1.toInt, a0_3e0_2.toInt, a0_3e0_3.toInt, a0_3e0_4.toInt, v23na0_0.toInt, v23na0_1.toInt, v23na0_2.toInt, v23na0_3.toInt, v23na0_4.toInt, a0_3e2_0.toInt, a0_3e2_1.toInt, a0_3e2_2.toInt, a0_3e2_3.toInt, a0_3e2_4.toInt, a0_3e3_0.toInt, a0_3e3_1.toInt, a0_3e3_2.toInt, a0_3e3_3.toInt, a0_3e3_4.toInt, a0_3e4_0.toInt, a0_3e4_1.toInt, a0_3e4_2.toInt, a0_3e4_3.toInt, a0_3e4_4.toInt, a0_3e5_0.toInt, a0_3e5_1.toInt, a0_3e5_2.toInt, a0_3e5_3.toInt, a0_3e5_4.toInt, a0_3e6_0.toInt, a0_3e6_1.toInt, a0_3e6_2.toInt, a0_3e6_3.toInt, a0_3e6_4.toInt, a0_3e7_0.toInt, a0_3e7_1.toInt, a0_3e7_2.toInt, a0_3e7_3.toInt, a0_3e7_4.toInt, a0_3e8_0.toInt, a0_3e8_1.toInt, a0_3e8_2.toInt, a0_3e8_3.toInt, a0_3e8_4.toInt, a0_3e9_0.toInt, a0_3e9_1.toInt, a0_3e9_2.toInt, a0_3e9_3.toInt, a0_3e9_4.toInt, a0_3e10_0.toInt, a0_3e10_1.toInt, a0_3e10_2.toInt, a0_3e10_3.toInt, a0_3e10_4.toInt, a0_3e11_0.toInt, a0_3e11_1.toInt, a0_3e11_2.toInt, a0_3e11_3.toInt, a0_3e11_4.toInt, a0_3e12_0.toInt, a0_3e12_1.toInt, a0_3e12_2.toInt, a0_3e12_3.toInt, a0_3e12_4.toInt, a0_3e13_0.toInt, a0_3e13_1.toInt, a0_3e13_2.toInt, a0_3e13_3.toInt, a0_3e13_4.toInt, a0_3e14_0.toInt, a0_3e14_1.toInt, a0_3e14_2.toInt, a0_3e14_3.toInt, a0_3e14_4.toInt, a0_3e15_0.toInt, a0_3e15_1.toInt, a0_3e15_2.toInt, a0_3e15_3.toInt, a0_3e15_4.toInt]), (fl_nF [(fl_A fa0_3e0_5), (fl_A fa0_3e0_6), (fl_A v23nfa0_5), (fl_A v23nfa0_6), (fl_A fa0_3e2_5), (fl_A fa0_3e2_6), (fl_A fa0_3e3_5), (fl_A fa0_3e3_6), (fl_A fa0_3e4_5), (fl_A fa0_3e4_6), (fl_A fa0_3e5_5), (fl_A fa0_3e5_6), (fl_A fa0_3e6_5), (fl_A fa0_3e6_6), (fl_A fa0_3e7_5), (fl_A fa0_3e7_6), (fl_A fa0_3e8_5), (fl_A fa0_3e8_6), (fl_A fa0_3e9_5), (fl_A fa0_3e9_6), (fl_A fa0_3e10_5), (fl_A fa0_3e10_6), (fl_A fa0_3e11_5), (fl_A fa0_3e11_6), (fl_A fa0_3e12_5), (fl_A fa0_3e12_6), (fl_A fa0_3e13_5), (fl_A fa0_3e13_6), (fl_A fa0_3e14_5), (fl_A fa0_3e14_6), (fl_A fa0_3e15_5), (fl_A fa0_3e15_6)]))) from hFe), by rw [ht]; exact hP, va_K.moved hW.alike hK, hD⟩, hS.F ht⟩) hS.2.2 dX1_keep_41
  · subst hv21
    have hF0 := hF0.trans (if_neg (by decide))
    have hF0 := hF0.trans (if_neg (by decide))
    have hF0 := hF0.trans (if_pos (by decide))
    refine va_aldq hx hb hK hP 1 0 rfl rfl (i := 2) (by unfold vp_in; decide +kernel) dX1_keep_21 ?_
    refine ax_tv (.ref a0_3e2) rfl ?_
    refine lv_aload_n hx hb dX1_keep_22 rfl (lv_at hl 1 rfl) ?_
    refine zc_cutc (wc := [(a0_3e2, .inr (5, [.int a0_3e2_0, .int a0_3e2_1, .int a0_3e2_2, .int a0_3e2_3, .int a0_3e2_4, .ref a0_3e2_5, .ref a0_3e2_6])), (a1, .inr (5, [.int a1_0, .int a1_1, .int a1_2, .int a1_3, .int a1_4, .ref a1_5, .ref a1_6])), (a1_5, .inl (ka1_5, 9, .inl (fa1_5))), (a0_3e2_5, .inl (ka0_3e2_5, 9, .inl (fa0_3e2_5))), (a1_6, .inl (ka1_6, 9, .inl (fa1_6))), (a0_3e2_6, .inl (ka0_3e2_6, 9, .inl (fa0_3e2_6)))]) hP hD hS hA [11, 3, 4, 12, 6, 13] (by decide +kernel) rfl (fun hPc hDc hFc hCc => ?_)
    have hKc := hK.sub (tys' := [(ka1_5, .int), (ka0_3e2_5, .int), (ka1_6, .int), (ka0_3e2_6, .int)]) [1, 7, 3, 8] rfl
    refine va_callv (va_runV (As := [.ref a1]) (rest := []) ⟨hx, hb, hml, hown, hts⟩ (f_X5_copyFrom l dC dI H.size a0_3e2 a1 a0_3e2_0 a0_3e2_1 a0_3e2_2 a0_3e2_3 a0_3e2_4 a0_3e2_5 a0_3e2_6 a1_0 a1_1 a1_2 a1_3 a1_4 a1_5 a1_6 ka1_5 fa1_5 ka0_3e2_5 fa0_3e2_5 ka1_6 fa1_6 ka0_3e2_6 fa0_3e2_6 ba0_3e2_1_l ba0_3e2_1_u ba1_1_l ba1_1_u) (cwV 1 hts gX1_keep_X5_copyFrom rfl rfl rfl zd_X5_copyFrom ⟨Nat.le_of_ble_eq_true rfl, Nat.le_of_ble_eq_true rfl⟩) ⟨ax_blind (fun _ _ _ _ _ => trivial), zr_5 hKc hPc (q0 := 0) rfl, ax_pre hPc hKc hDc (fun _ _ => trivial)⟩ rfl rfl hl.1 rfl (lv_room (Nat.le_of_ble_eq_true rfl)) dX1_keep_23 ⟨Nat.le_of_ble_eq_true rfl, Nat.le_of_ble_eq_true rfl⟩) hS (fun q _ h => hFc q h) hFc (fun u t H locs ht hvm hw => zx_7 (fun v23na0_0 v23na0_1 v23na0_2 v23na0_3 v23na0_4 v23nfa0_5 v23nfa0_6 => zy_2 (fun bv23na0_1 hraw23_0 hB hz1 hk1 hS1 => zo hB ht hS1 (fun hP1 hK1 hD1 hS => ?_))))
    refine zc_backc (w := [(a0, .inr (1, [.int a0_0, a0g_1, .int 2, .ref a0_3, a0g_4])), (a0_3, .inl (ka0_3, 16, .inr (.inr (.inr (.inr (fun i9 => ([some a0_3e0, some a0_3e1, some a0_3e2, some a0_3e3, some a0_3e4, some a0_3e5, some a0_3e6, some a0_3e7, some a0_3e8, some a0_3e9, some a0_3e10, some a0_3e11, some a0_3e12, some a0_3e13, some a0_3e14, some a0_3e15] : List (Option Nat)).getD i9 none)))))), (a0_3e0, .inr (5, [.int a0_3e0_0, .int a0_3e0_1, .int a0_3e0_2, .int a0_3e0_3, .int a0_3e0_4, .ref a0_3e0_5, .ref a0_3e0_6])), (a1, .inr (5, [.int a1_0, .int a1_1, .int a1_2, .int a1_3, .int a1_4, .ref a1_5, .ref a1_6])), (a1_5, .inl (ka1_5, 9, .inl (fa1_5))), (a0_3e0_5, .inl (ka0_3e0_5, 9, .inl (fa0_3e0_5))), (a1_6, .inl (ka1_6, 9, .inl (fa1_6))), (a0_3e0_6, .inl (ka0_3e0_6, 9, .inl (fa0_3e0_6))), (a0_3e1, .inr (5, [.int a0_3e1_0, .int a0_3e1_1, .int a0_3e1_2, .int a0_3e1_3, .int a0_3e1_4, .ref a0_3e1_5, .ref a0_3e1_6])), (a0_3e1_5, .inl (ka0_3e1_5, 9, .inl (fa0_3e1_5))), (a0_3e1_6, .inl (ka0_3e1_6, 9, .inl (fa0_3e1_6))), (a0_3e2, .inr (5, [.int v23na0_0, .int v23na0_1, .int v23na0_2, .int v23na0_3, .int v23na0_4, .ref a0_3e2_5, .ref a0_3e2_6])), (a0_3e2_5, .inl (ka0_3e2_5, 9, .inl (v23nfa0_5))), (a0_3e2_6, .inl (ka0_3e2_6, 9, .inl (v23nfa0_6))), (a0_3e3, .inr (5, [.int a0_3e3_0, .int a0_3e3_1, .int a0_3e3_2, .int a0_3e3_3, .int a0_3e3_4, .ref a0_3e3_5, .ref a0_3e3_6])), (a0_3e3_5, .inl (ka0_3e3_5, 9, .inl (fa0_3e3_5))), (a0_3e3_6, .inl (ka0_3e3_6, 9, .inl (fa0_3e3_6))), (a0_3e4, .inr (5, [.int a0_3e4_0, .int a0_3e4_1, .int a0_3e4_2, .int a0_3e4_3, .int a0_3e4_4, .ref a0_3e4_5, .ref a0_3e4_6])), (a0_3e4_5, .inl (ka0_3e4_5, 9, .inl (fa0_3e4_5))), (a0_3e4_6, .inl (ka0_3e4_6, 9, .inl (fa0_3e4_6))), (a0_3e5, .inr (5, [.int a0_3e5_0, .int a0_3e5_1, .int a0_3e5_2, .int a0_3e5_3, .int a0_3e5_4, .ref a0_3e5_5, .ref a0_3e5_6])), (a0_3e5_5, .inl (ka0_3e5_5, 9, .inl (fa0_3e5_5))), (a0_3e5_6, .inl (ka0_3e5_6, 9, .inl (fa0_3e5_6))), (a0_3e6, .inr (5, [.int a0_3e6_0, .int a0_3e6_1, .int a0_3e6_2, .int a0_3e6_3, .int a0_3e6_4, .ref a0_3e6_5, .ref a0_3e6_6])), (a0_3e6_5, .inl (ka0_3e6_5, 9, .inl (fa0_3e6_5))), (a0_3e6_6, .inl (ka0_3e6_6, 9, .inl (fa0_3e6_6))), (a0_3e7, .inr (5, [.int a0_3e7_0, .int a0_3e7_1, .int a0_3e7_2, .int a0_3e7_3, .int a0_3e7_4, .ref a0_3e7_5, .ref a0_3e7_6])), (a0_3e7_5, .inl (ka0_3e7_5, 9, .inl (fa0_3e7_5))), (a0_3e7_6, .inl (ka0_3e7_6, 9, .inl (fa0_3e7_6))), (a0_3e8, .inr (5, [.int a0_3e8_0, .int a0_3e8_1, .int a0_3e8_2, .int a0_3e8_3, .int a0_3e8_4, .ref a0_3e8_5, .ref a0_3e8_6])), (a0_3e8_5, .inl (ka0_3e8_5, 9, .inl (fa0_3e8_5))), (a0_3e8_6, .inl (ka0_3e8_6, 9, .inl (fa0_3e8_6))), (a0_3e9, .inr (5, [.int a0_3e9_0, .int a0_3e9_1, .int a0_3e9_2, .int a0_3e9_3, .int a0_3e9_4, .ref a0_3e9_5, .ref a0_3e9_6])), (a0_3e9_5, .inl (ka0_3e9_5, 9, .inl (fa0_3e9_5))), (a0_3e9_6, .inl (ka0_3e9_6, 9, .inl (fa0_3e9_6))), (a0_3e10, .inr (5, [.int a0_3e10_0, .int a0_3e10_1, .int a0_3e10_2, .int a0_3e10_3, .int a0_3e10_4, .ref a0_3e10_5, .ref a0_3e10_6])), (a0_3e10_5, .inl (ka0_3e10_5, 9, .inl (fa0_3e10_5))), (a0_3e10_6, .inl (ka0_3e10_6, 9, .inl (fa0_3e10_6))), (a0_3e11, .inr (5, [.int a0_3e11_0, .int a0_3e11_1, .int a0_3e11_2, .int a0_3e11_3, .int a0_3e11_4, .ref a0_3e11_5, .ref a0_3e11_6])), (a0_3e11_5, .inl (ka0_3e11_5, 9, .inl (fa0_3e11_5))), (a0_3e11_6, .inl (ka0_3e11_6, 9, .inl (fa0_3e11_6))), (a0_3e12, .inr (5, [.int a0_3e12_0, .int a0_3e12_1, .int a0_3e12_2, .int a0_3e12_3, .int a0_3e12_4, .ref a0_3e12_5, .ref a0_3e12_6])), (a0_3e12_5, .inl (ka0_3e12_5, 9, .inl (fa0_3e12_5))), (a0_3e12_6, .inl (ka0_3e12_6, 9, .inl (fa0_3e12_6))), (a0_3e13, .inr (5, [.int a0_3e13_0, .int a0_3e13_1, .int a0_3e13_2, .int a0_3e13_3, .int a0_3e13_4, .ref a0_3e13_5, .ref a0_3e13_6])), (a0_3e13_5, .inl (ka0_3e13_5, 9, .inl (fa0_3e13_5))), (a0_3e13_6, .inl (ka0_3e13_6, 9, .inl (fa0_3e13_6))), (a0_3e14, .inr (5, [.int a0_3e14_0, .int a0_3e14_1, .int a0_3e14_2, .int a0_3e14_3, .int a0_3e14_4, .ref a0_3e14_5, .ref a0_3e14_6])), (a0_3e14_5, .inl (ka0_3e14_5, 9, .inl (fa0_3e14_5))), (a0_3e14_6, .inl (ka0_3e14_6, 9, .inl (fa0_3e14_6))), (a0_3e15, .inr (5, [.int a0_3e15_0, .int a0_3e15_1, .int a0_3e15_2, .int a0_3e15_3, .int a0_3e15_4, .ref a0_3e15_5, .ref a0_3e15_6])), (a0_3e15_5, .inl (ka0_3e15_5, 9, .inl (fa0_3e15_5))), (a0_3e15_6, .inl (ka0_3e15_6, 9, .inl (fa0_3e15_6)))]) hP hD hCc hk1 hFc hP1 hD1 [.inl 0, .inl 1, .inl 2, .inr 1, .inr 2, .inl 5, .inr 4, .inl 7, .inl 8, .inl 9, .inl 10, .inr 0, .inr 3, .inr 5, .inl 14, .inl 15, .inl 16, .inl 17, .inl 18, .inl 19, .inl 20, .inl 21, .inl 22, .inl 23, .inl 24, .inl 25, .inl 26, .inl 27, .inl 28, .inl 29, .inl 30, .inl 31, .inl 32, .inl 33, .inl 34, .inl 35, .inl 36, .inl 37, .inl 38, .inl 39, .inl 40, .inl 41, .inl 42, .inl 43, .inl 44, .inl 45, .inl 46, .inl 47, .inl 48, .inl 49, .inl 50, .inl 51, .inl 52] (by decide +kernel) rfl (fun hP hD => ?_)
    have hc23 : Ff_X5_copyFrom a1_0.toInt a1_1.toInt a1_2.toInt a1_3.toInt a1_4.toInt (fl_A fa1_5) (fl_A fa0_3e2_5) (fl_A fa1_6) (fl_A fa0_3e2_6) = (v23na0_0.toInt, v23na0_1.toInt, v23na0_2.toInt, v23na0_3.toInt, v23na0_4.toInt, (fl_A v23nfa0_5), (fl_A v23nfa0_6)) := hraw23_0
    have hF0 := hF0.trans (fl_c7_eq hc23)
    refine lv_aload_n hx hb dX1_keep_26 rfl (lv_at hl 0 rfl) ?_
    refine lv_aload_n hx hb dX1_keep_27 rfl (lv_at hl 0 rfl) ?_
    refine va_get (D := (dC, dI)) (ci := 1) (v := .int a0_0) (C := RX1) (T := TX1) (N := 5) hx hb hts zi_X1_keep_1 hown hK hP 0 rfl rfl 0 (by decide) (hts (.fieldLink RX1 21 "WaxTurns$History" "keptCount" "I") (List.mem_cons_of_mem _ (List.mem_append_left _ (List.mem_append_left _ (List.mem_of_getElem? (i := 2) rfl))))) (fun _ h9 => h9) rfl dX1_keep_28 ?_
    refine lv_iconst (v := 1) hx hb dX1_keep_31 zk_iconst_1 ?_
    refine lv_iadd hx hb dX1_keep_32 ?_
    refine lv_topi (fun x32 ex32 => ?_)
    have qx32 : x32.toInt = a0_0.toInt + (1 : Int32).toInt := ai_add ex32 ⟨ba0_0_l, ba0_0_u⟩ ⟨zq1, zq0⟩ (by decide) (by decide)
    have bx32 : (1 : Int) ≤ x32.toInt ∧ x32.toInt ≤ 17 := ⟨by rw [qx32]; exact Int.add_le_add ba0_0_l zq1, by rw [qx32]; exact Int.add_le_add ba0_0_u zq0⟩
    have wx32 : x32.toInt = a0_0.toInt + 1 := qx32
    have hF0 := hF0.trans (fl_lt_eq (show x32.toInt = a0_0.toInt + 1 from qx32))
    refine lv_bipush (v := 16) hx hb dX1_keep_33 zk_bipush_16 ?_
    refine va_mmin hx hb (by rw [hml]; exact hl.1.symm) hown (hts (.methodLink RX1 35 Lib.Math.min.name) (List.mem_cons_of_mem _ (List.mem_append_left _ (List.mem_append_left _ (List.mem_of_getElem? (i := 3) rfl))))) (hts (.static Lib.Math.min.name) (List.mem_cons_of_mem _ (List.mem_append_left _ (List.mem_append_left _ (List.mem_of_getElem? (i := 4) rfl))))) (hts (.initialized "java/lang/Math") (List.mem_cons_of_mem _ (List.mem_append_left _ (List.mem_append_left _ (List.mem_of_getElem? (i := 5) rfl))))) (hts _ mnX1_keep) (Nat.le_of_ble_eq_true rfl) (Nat.le_of_ble_eq_true rfl) (Nat.le_of_ble_eq_true rfl) (Nat.le_of_ble_eq_true rfl) dX1_keep_35 ?_
    refine lv_topi (fun x35 ex35 => ?_)
    have qx35 := ai_mmin ex35
    have bx35 : (1 : Int) ≤ x35.toInt ∧ x35.toInt ≤ 16 := by first | exact zg_mm qx35 bx32.1 zq110 bx32.2 zq111 (by decide) (by decide) (by decide) | exact zg_mm qx35 zq110 bx32.1 zq111 bx32.2 (by decide) (by decide) (by decide) | (have h1 := bx32.1; have h2 := zq110; have h3 := bx32.2; have h4 := zq111; omega)
    have fqx35 := fl_min_eq ex35
    have hF0 := hF0.trans (fl_lt_eq (show x35.toInt = fl_min x32.toInt 16 from fqx35))
    refine va_put (D := (dC, dI)) (ci := 1) (v := .int x35) (ty := .int) (C := RX1) (T := TX1) (N := 5) hx hb hts zi_X1_keep_1 tyX1 tyX1_ok nmX1 hown hK hP hD hS 0 rfl rfl 0 (by decide) (hts (.fieldLink RX1 21 "WaxTurns$History" "keptCount" "I") (List.mem_cons_of_mem _ (List.mem_append_left _ (List.mem_append_left _ (List.mem_of_getElem? (i := 2) rfl))))) (fun _ h9 => h9) rfl (tyX1_ok 0 (by decide)) rfl rfl (Nat.le_of_ble_eq_true rfl) dX1_keep_38 (fun H locs hP hD hS => ?_)
    refine zs_0 (y := (a0, .inr (1, [.int x35, a0g_1, .int 2, .ref a0_3, a0g_4]))) hP hD rfl (fun hP hD => ?_)
    have hFe : FX = (x35.toInt, 2, (fl_nI [a0_3e0_0.toInt, a0_3e0_1.toInt, a0_3e0_2.toInt, a0_3e0_3.toInt, a0_3e0_4.toInt, a0_3e1_0.toInt, a0_3e1_1.toInt, a0_3e1_2.toInt, a0_3e1_3.toInt, a0_3e1_4.toInt, v23na0_0.toInt, v23na0_1.toInt, v23na0_2.toInt, v23na0_3.toInt, v23na0_4.toInt, a0_3e3_0.toInt, a0_3e3_1.toInt, a0_3e3_2.toInt, a0_3e3_3.toInt, a0_3e3_4.toInt, a0_3e4_0.toInt, a0_3e4_1.toInt, a0_3e4_2.toInt, a0_3e4_3.toInt, a0_3e4_4.toInt, a0_3e5_0.toInt, a0_3e5_1.toInt, a0_3e5_2.toInt, a0_3e5_3.toInt, a0_3e5_4.toInt, a0_3e6_0.toInt, a0_3e6_1.toInt, a0_3e6_2.toInt, a0_3e6_3.toInt, a0_3e6_4.toInt, a0_3e7_0.toInt, a0_3e7_1.toInt, a0_3e7_2.toInt, a0_3e7_3.toInt, a0_3e7_4.toInt, a0_3e8_0.toInt, a0_3e8_1.toInt, a0_3e8_2.toInt, a0_3e8_3.toInt, a0_3e8_4.toInt, a0_3e9_0.toInt, a0_3e9_1.toInt, a0_3e9_2.toInt, a0_3e9_3.toInt, a0_3e9_4.toInt, a0_3e10_0.toInt, a0_3e10_1.toInt, a0_3e10_2.toInt, a0_3e10_3.toInt, a0_3e10_4.toInt, a0_3e11_0.toInt, a0_3e11_1.toInt, a0_3e11_2.toInt, a0_3e11_3.toInt, a0_3e11_4.toInt, a0_3e12_0.toInt, a0_3e12_1.toInt, a0_3e12_2.toInt, a0_3e12_3.toInt, a0_3e12_4.toInt, a0_3e13_0.toInt, a0_3e13_1.toInt, a0_3e13_2.toInt, a0_3e13_3.toInt, a0_3e13_4.toInt, a0_3e14_0.toInt, a0_3e14_1.toInt, a0_3e14_2.toInt, a0_3e14_3.toInt, a0_3e14_4.toInt, a0_3e15_0.toInt, a0_3e15_1.toInt, a0_3e15_2.toInt, a0_3e15_3.toInt, a0_3e15_4.toInt]), (fl_nF [(fl_A fa0_3e0_5), (fl_A fa0_3e0_6), (fl_A fa0_3e1_5), (fl_A fa0_3e1_6), (fl_A v23nfa0_5), (fl_A v23nfa0_6), (fl_A fa0_3e3_5), (fl_A fa0_3e3_6), (fl_A fa0_3e4_5), (fl_A fa0_3e4_6), (fl_A fa0_3e5_5), (fl_A fa0_3e5_6), (fl_A fa0_3e6_5), (fl_A fa0_3e6_6), (fl_A fa0_3e7_5), (fl_A fa0_3e7_6), (fl_A fa0_3e8_5), (fl_A fa0_3e8_6), (fl_A fa0_3e9_5), (fl_A fa0_3e9_6), (fl_A fa0_3e10_5), (fl_A fa0_3e10_6), (fl_A fa0_3e11_5), (fl_A fa0_3e11_6), (fl_A fa0_3e12_5), (fl_A fa0_3e12_6), (fl_A fa0_3e13_5), (fl_A fa0_3e13_6), (fl_A fa0_3e14_5), (fl_A fa0_3e14_6), (fl_A fa0_3e15_5), (fl_A fa0_3e15_6)])) := hF0
    exact W.vret hx hb hr (fun t ht hW => ⟨⟨(), rfl, trivial, (fun i9 => ([x35, 2, a0_3e0_0, a0_3e0_1, a0_3e0_2, a0_3e0_3, a0_3e0_4, a0_3e1_0, a0_3e1_1, a0_3e1_2, a0_3e1_3, a0_3e1_4, v23na0_0, v23na0_1, v23na0_2, v23na0_3, v23na0_4, a0_3e3_0, a0_3e3_1, a0_3e3_2, a0_3e3_3, a0_3e3_4, a0_3e4_0, a0_3e4_1, a0_3e4_2, a0_3e4_3, a0_3e4_4, a0_3e5_0, a0_3e5_1, a0_3e5_2, a0_3e5_3, a0_3e5_4, a0_3e6_0, a0_3e6_1, a0_3e6_2, a0_3e6_3, a0_3e6_4, a0_3e7_0, a0_3e7_1, a0_3e7_2, a0_3e7_3, a0_3e7_4, a0_3e8_0, a0_3e8_1, a0_3e8_2, a0_3e8_3, a0_3e8_4, a0_3e9_0, a0_3e9_1, a0_3e9_2, a0_3e9_3, a0_3e9_4, a0_3e10_0, a0_3e10_1, a0_3e10_2, a0_3e10_3, a0_3e10_4, a0_3e11_0, a0_3e11_1, a0_3e11_2, a0_3e11_3, a0_3e11_4, a0_3e12_0, a0_3e12_1, a0_3e12_2, a0_3e12_3, a0_3e12_4, a0_3e13_0, a0_3e13_1, a0_3e13_2, a0_3e13_3, a0_3e13_4, a0_3e14_0, a0_3e14_1, a0_3e14_2, a0_3e14_3, a0_3e14_4, a0_3e15_0, a0_3e15_1, a0_3e15_2, a0_3e15_3, a0_3e15_4] : List Int32).getD i9 0), (fun i9 => ([fa0_3e0_5, fa0_3e0_6, fa0_3e1_5, fa0_3e1_6, v23nfa0_5, v23nfa0_6, fa0_3e3_5, fa0_3e3_6, fa0_3e4_5, fa0_3e4_6, fa0_3e5_5, fa0_3e5_6, fa0_3e6_5, fa0_3e6_6, fa0_3e7_5, fa0_3e7_6, fa0_3e8_5, fa0_3e8_6, fa0_3e9_5, fa0_3e9_6, fa0_3e10_5, fa0_3e10_6, fa0_3e11_5, fa0_3e11_6, fa0_3e12_5, fa0_3e12_6, fa0_3e13_5, fa0_3e13_6, fa0_3e14_5, fa0_3e14_6, fa0_3e15_5, fa0_3e15_6] : List (Nat → Int32)).getD i9 (fun _ => 0)), ⟨Int.le_trans (by decide) bx35.1, bx35.2⟩, ⟨Int.le_trans (by decide) zq12, Int.le_trans zq13 (by decide)⟩, ⟨ba0_3e0_1_l, ba0_3e0_1_u⟩, ⟨ba0_3e1_1_l, ba0_3e1_1_u⟩, ⟨bv23na0_1.1, bv23na0_1.2⟩, ⟨ba0_3e3_1_l, ba0_3e3_1_u⟩, ⟨ba0_3e4_1_l, ba0_3e4_1_u⟩, ⟨ba0_3e5_1_l, ba0_3e5_1_u⟩, ⟨ba0_3e6_1_l, ba0_3e6_1_u⟩, ⟨ba0_3e7_1_l, ba0_3e7_1_u⟩, ⟨ba0_3e8_1_l, ba0_3e8_1_u⟩, ⟨ba0_3e9_1_l, ba0_3e9_1_u⟩, ⟨ba0_3e10_1_l, ba0_3e10_1_u⟩, ⟨ba0_3e11_1_l, ba0_3e11_1_u⟩, ⟨ba0_3e12_1_l, ba0_3e12_1_u⟩, ⟨ba0_3e13_1_l, ba0_3e13_1_u⟩, ⟨ba0_3e14_1_l, ba0_3e14_1_u⟩, ⟨ba0_3e15_1_l, ba0_3e15_1_u⟩, (show (FX = (x35.toInt, (2 : Int32).toInt, (fl_nI [a0_3e0_0.toInt, a0_3e0_1.toInt, a0_3e0_2.toInt, a0_3e0_3.toInt, a0_3e0_4.toInt, a0_3e1_0.toInt, a0_3e1_1.toInt, a0_3e1_2.toInt, a0_3e1_3.toInt, a0_3e1_4.toInt, v23na0_0.toInt, v23na0_1.toInt, v23na0_2.toInt, v23na0_3.toInt, v23na0_4.toInt, a0_3e3_0.toInt, a0_3e3_1.toInt, a0_3e3_2.toInt, a0_3e3_3.toInt, a0_3e3_4.toInt, a0_3e4_0.toInt, a0_3e4_1.toInt, a0_3e4_2.toInt, a0_3e4_3.toInt, a0_3e4_4.toInt, a0_3e5_0.toInt, a0_3e5_1.toInt, a0_3e5_2.toInt, a0_3e5_3.toInt, a0_3e5_4.toInt, a0_3e6_0.toInt, a0_3e6_1.toInt, a0_3e6_2.toInt, a0_3e6_3.toInt, a0_3e6_4.toInt, a0_3e7_0.toInt, a0_3e7_1.toInt, a0_3e7_2.toInt, a0_3e7_3.toInt, a0_3e7_4.toInt, a0_3e8_0.toInt, a0_3e8_1.toInt, a0_3e8_2.toInt, a0_3e8_3.toInt, a0_3e8_4.toInt, a0_3e9_0.toInt, a0_3e9_1.toInt, a0_3e9_2.toInt, a0_3e9_3.toInt, a0_3e9_4.toInt, a0_3e10_0.toInt, a0_3e10_1.toInt, a0_3e10_2.toInt, a0_3e10_3.toInt, a0_3e10_4.toInt, a0_3e11_0.toInt, a0_3e11_1.toInt, a0_3e11_2.toInt, a0_3e11_3.toInt, a0_3e11_4.toInt, a0_3e12_0.toInt, a0_3e12_1.toInt, a0_3e12_2.toInt, a0_3e12_3.toInt, a0_3e12_4.toInt, a0_3e13_0.toInt, a0_3e13_1.toInt, a0_3e13_2.toInt, a0_3e13_3.toInt, a0_3e13_4.toInt, a0_3e14_0.toInt, a0_3e14_1.toInt, a0_3e14_2.toInt, a0_3e14_3.toInt, a0_3e14_4.toInt, a0_3e15_0.toInt, a0_3e15_1.toInt, a0_3e15_2.toInt, a0_3e15_3.toInt, a0_3e15_4.toInt]), (fl_nF [(fl_A fa0_3e0_5), (fl_A fa0_3e0_6), (fl_A fa0_3e1_5), (fl_A fa0_3e1_6), (fl_A v23nfa0_5), (fl_A v23nfa0_6), (fl_A fa0_3e3_5), (fl_A fa0_3e3_6), (fl_A fa0_3e4_5), (fl_A fa0_3e4_6), (fl_A fa0_3e5_5), (fl_A fa0_3e5_6), (fl_A fa0_3e6_5), (fl_A fa0_3e6_6), (fl_A fa0_3e7_5), (fl_A fa0_3e7_6), (fl_A fa0_3e8_5), (fl_A fa0_3e8_6), (fl_A fa0_3e9_5), (fl_A fa0_3e9_6), (fl_A fa0_3e10_5), (fl_A fa0_3e10_6), (fl_A fa0_3e11_5), (fl_A fa0_3e11_6), (fl_A fa0_3e12_5), (fl_A fa0_3e12_6), (fl_A fa0_3e13_5), (fl_A fa0_3e13_6), (fl_A fa0_3e14_5), (fl_A fa0_3e14_6), (fl_A fa0_3e15_5), (fl_A fa0_3e15_6)]))) from hFe), by rw [ht]; exact hP, va_K.moved hW.alike hK, hD⟩, hS.F ht⟩) hS.2.2 dX1_keep_41
  · subst hv21
    have hF0 := hF0.trans (if_neg (by decide))
    have hF0 := hF0.trans (if_neg (by decide))
    have hF0 := hF0.trans (if_neg (by decide))
    have hF0 := hF0.trans (if_pos (by decide))
    refine va_aldq hx hb hK hP 1 0 rfl rfl (i := 3) (by unfold vp_in; decide +kernel) dX1_keep_21 ?_
    refine ax_tv (.ref a0_3e3) rfl ?_
    refine lv_aload_n hx hb dX1_keep_22 rfl (lv_at hl 1 rfl) ?_
    refine zc_cutc (wc := [(a0_3e3, .inr (5, [.int a0_3e3_0, .int a0_3e3_1, .int a0_3e3_2, .int a0_3e3_3, .int a0_3e3_4, .ref a0_3e3_5, .ref a0_3e3_6])), (a1, .inr (5, [.int a1_0, .int a1_1, .int a1_2, .int a1_3, .int a1_4, .ref a1_5, .ref a1_6])), (a1_5, .inl (ka1_5, 9, .inl (fa1_5))), (a0_3e3_5, .inl (ka0_3e3_5, 9, .inl (fa0_3e3_5))), (a1_6, .inl (ka1_6, 9, .inl (fa1_6))), (a0_3e3_6, .inl (ka0_3e3_6, 9, .inl (fa0_3e3_6)))]) hP hD hS hA [14, 3, 4, 15, 6, 16] (by decide +kernel) rfl (fun hPc hDc hFc hCc => ?_)
    have hKc := hK.sub (tys' := [(ka1_5, .int), (ka0_3e3_5, .int), (ka1_6, .int), (ka0_3e3_6, .int)]) [1, 9, 3, 10] rfl
    refine va_callv (va_runV (As := [.ref a1]) (rest := []) ⟨hx, hb, hml, hown, hts⟩ (f_X5_copyFrom l dC dI H.size a0_3e3 a1 a0_3e3_0 a0_3e3_1 a0_3e3_2 a0_3e3_3 a0_3e3_4 a0_3e3_5 a0_3e3_6 a1_0 a1_1 a1_2 a1_3 a1_4 a1_5 a1_6 ka1_5 fa1_5 ka0_3e3_5 fa0_3e3_5 ka1_6 fa1_6 ka0_3e3_6 fa0_3e3_6 ba0_3e3_1_l ba0_3e3_1_u ba1_1_l ba1_1_u) (cwV 1 hts gX1_keep_X5_copyFrom rfl rfl rfl zd_X5_copyFrom ⟨Nat.le_of_ble_eq_true rfl, Nat.le_of_ble_eq_true rfl⟩) ⟨ax_blind (fun _ _ _ _ _ => trivial), zr_5 hKc hPc (q0 := 0) rfl, ax_pre hPc hKc hDc (fun _ _ => trivial)⟩ rfl rfl hl.1 rfl (lv_room (Nat.le_of_ble_eq_true rfl)) dX1_keep_23 ⟨Nat.le_of_ble_eq_true rfl, Nat.le_of_ble_eq_true rfl⟩) hS (fun q _ h => hFc q h) hFc (fun u t H locs ht hvm hw => zx_7 (fun v23na0_0 v23na0_1 v23na0_2 v23na0_3 v23na0_4 v23nfa0_5 v23nfa0_6 => zy_2 (fun bv23na0_1 hraw23_0 hB hz1 hk1 hS1 => zo hB ht hS1 (fun hP1 hK1 hD1 hS => ?_))))
    refine zc_backc (w := [(a0, .inr (1, [.int a0_0, a0g_1, .int 3, .ref a0_3, a0g_4])), (a0_3, .inl (ka0_3, 16, .inr (.inr (.inr (.inr (fun i9 => ([some a0_3e0, some a0_3e1, some a0_3e2, some a0_3e3, some a0_3e4, some a0_3e5, some a0_3e6, some a0_3e7, some a0_3e8, some a0_3e9, some a0_3e10, some a0_3e11, some a0_3e12, some a0_3e13, some a0_3e14, some a0_3e15] : List (Option Nat)).getD i9 none)))))), (a0_3e0, .inr (5, [.int a0_3e0_0, .int a0_3e0_1, .int a0_3e0_2, .int a0_3e0_3, .int a0_3e0_4, .ref a0_3e0_5, .ref a0_3e0_6])), (a1, .inr (5, [.int a1_0, .int a1_1, .int a1_2, .int a1_3, .int a1_4, .ref a1_5, .ref a1_6])), (a1_5, .inl (ka1_5, 9, .inl (fa1_5))), (a0_3e0_5, .inl (ka0_3e0_5, 9, .inl (fa0_3e0_5))), (a1_6, .inl (ka1_6, 9, .inl (fa1_6))), (a0_3e0_6, .inl (ka0_3e0_6, 9, .inl (fa0_3e0_6))), (a0_3e1, .inr (5, [.int a0_3e1_0, .int a0_3e1_1, .int a0_3e1_2, .int a0_3e1_3, .int a0_3e1_4, .ref a0_3e1_5, .ref a0_3e1_6])), (a0_3e1_5, .inl (ka0_3e1_5, 9, .inl (fa0_3e1_5))), (a0_3e1_6, .inl (ka0_3e1_6, 9, .inl (fa0_3e1_6))), (a0_3e2, .inr (5, [.int a0_3e2_0, .int a0_3e2_1, .int a0_3e2_2, .int a0_3e2_3, .int a0_3e2_4, .ref a0_3e2_5, .ref a0_3e2_6])), (a0_3e2_5, .inl (ka0_3e2_5, 9, .inl (fa0_3e2_5))), (a0_3e2_6, .inl (ka0_3e2_6, 9, .inl (fa0_3e2_6))), (a0_3e3, .inr (5, [.int v23na0_0, .int v23na0_1, .int v23na0_2, .int v23na0_3, .int v23na0_4, .ref a0_3e3_5, .ref a0_3e3_6])), (a0_3e3_5, .inl (ka0_3e3_5, 9, .inl (v23nfa0_5))), (a0_3e3_6, .inl (ka0_3e3_6, 9, .inl (v23nfa0_6))), (a0_3e4, .inr (5, [.int a0_3e4_0, .int a0_3e4_1, .int a0_3e4_2, .int a0_3e4_3, .int a0_3e4_4, .ref a0_3e4_5, .ref a0_3e4_6])), (a0_3e4_5, .inl (ka0_3e4_5, 9, .inl (fa0_3e4_5))), (a0_3e4_6, .inl (ka0_3e4_6, 9, .inl (fa0_3e4_6))), (a0_3e5, .inr (5, [.int a0_3e5_0, .int a0_3e5_1, .int a0_3e5_2, .int a0_3e5_3, .int a0_3e5_4, .ref a0_3e5_5, .ref a0_3e5_6])), (a0_3e5_5, .inl (ka0_3e5_5, 9, .inl (fa0_3e5_5))), (a0_3e5_6, .inl (ka0_3e5_6, 9, .inl (fa0_3e5_6))), (a0_3e6, .inr (5, [.int a0_3e6_0, .int a0_3e6_1, .int a0_3e6_2, .int a0_3e6_3, .int a0_3e6_4, .ref a0_3e6_5, .ref a0_3e6_6])), (a0_3e6_5, .inl (ka0_3e6_5, 9, .inl (fa0_3e6_5))), (a0_3e6_6, .inl (ka0_3e6_6, 9, .inl (fa0_3e6_6))), (a0_3e7, .inr (5, [.int a0_3e7_0, .int a0_3e7_1, .int a0_3e7_2, .int a0_3e7_3, .int a0_3e7_4, .ref a0_3e7_5, .ref a0_3e7_6])), (a0_3e7_5, .inl (ka0_3e7_5, 9, .inl (fa0_3e7_5))), (a0_3e7_6, .inl (ka0_3e7_6, 9, .inl (fa0_3e7_6))), (a0_3e8, .inr (5, [.int a0_3e8_0, .int a0_3e8_1, .int a0_3e8_2, .int a0_3e8_3, .int a0_3e8_4, .ref a0_3e8_5, .ref a0_3e8_6])), (a0_3e8_5, .inl (ka0_3e8_5, 9, .inl (fa0_3e8_5))), (a0_3e8_6, .inl (ka0_3e8_6, 9, .inl (fa0_3e8_6))), (a0_3e9, .inr (5, [.int a0_3e9_0, .int a0_3e9_1, .int a0_3e9_2, .int a0_3e9_3, .int a0_3e9_4, .ref a0_3e9_5, .ref a0_3e9_6])), (a0_3e9_5, .inl (ka0_3e9_5, 9, .inl (fa0_3e9_5))), (a0_3e9_6, .inl (ka0_3e9_6, 9, .inl (fa0_3e9_6))), (a0_3e10, .inr (5, [.int a0_3e10_0, .int a0_3e10_1, .int a0_3e10_2, .int a0_3e10_3, .int a0_3e10_4, .ref a0_3e10_5, .ref a0_3e10_6])), (a0_3e10_5, .inl (ka0_3e10_5, 9, .inl (fa0_3e10_5))), (a0_3e10_6, .inl (ka0_3e10_6, 9, .inl (fa0_3e10_6))), (a0_3e11, .inr (5, [.int a0_3e11_0, .int a0_3e11_1, .int a0_3e11_2, .int a0_3e11_3, .int a0_3e11_4, .ref a0_3e11_5, .ref a0_3e11_6])), (a0_3e11_5, .inl (ka0_3e11_5, 9, .inl (fa0_3e11_5))), (a0_3e11_6, .inl (ka0_3e11_6, 9, .inl (fa0_3e11_6))), (a0_3e12, .inr (5, [.int a0_3e12_0, .int a0_3e12_1, .int a0_3e12_2, .int a0_3e12_3, .int a0_3e12_4, .ref a0_3e12_5, .ref a0_3e12_6])), (a0_3e12_5, .inl (ka0_3e12_5, 9, .inl (fa0_3e12_5))), (a0_3e12_6, .inl (ka0_3e12_6, 9, .inl (fa0_3e12_6))), (a0_3e13, .inr (5, [.int a0_3e13_0, .int a0_3e13_1, .int a0_3e13_2, .int a0_3e13_3, .int a0_3e13_4, .ref a0_3e13_5, .ref a0_3e13_6])), (a0_3e13_5, .inl (ka0_3e13_5, 9, .inl (fa0_3e13_5))), (a0_3e13_6, .inl (ka0_3e13_6, 9, .inl (fa0_3e13_6))), (a0_3e14, .inr (5, [.int a0_3e14_0, .int a0_3e14_1, .int a0_3e14_2, .int a0_3e14_3, .int a0_3e14_4, .ref a0_3e14_5, .ref a0_3e14_6])), (a0_3e14_5, .inl (ka0_3e14_5, 9, .inl (fa0_3e14_5))), (a0_3e14_6, .inl (ka0_3e14_6, 9, .inl (fa0_3e14_6))), (a0_3e15, .inr (5, [.int a0_3e15_0, .int a0_3e15_1, .int a0_3e15_2, .int a0_3e15_3, .int a0_3e15_4, .ref a0_3e15_5, .ref a0_3e15_6])), (a0_3e15_5, .inl (ka0_3e15_5, 9, .inl (fa0_3e15_5))), (a0_3e15_6, .inl (ka0_3e15_6, 9, .inl (fa0_3e15_6)))]) hP hD hCc hk1 hFc hP1 hD1 [.inl 0, .inl 1, .inl 2, .inr 1, .inr 2, .inl 5, .inr 4, .inl 7, .inl 8, .inl 9, .inl 10, .inl 11, .inl 12, .inl 13, .inr 0, .inr 3, .inr 5, .inl 17, .inl 18, .inl 19, .inl 20, .inl 21, .inl 22, .inl 23, .inl 24, .inl 25, .inl 26, .inl 27, .inl 28, .inl 29, .inl 30, .inl 31, .inl 32, .inl 33, .inl 34, .inl 35, .inl 36, .inl 37, .inl 38, .inl 39, .inl 40, .inl 41, .inl 42, .inl 43, .inl 44, .inl 45, .inl 46, .inl 47, .inl 48, .inl 49, .inl 50, .inl 51, .inl 52] (by decide +kernel) rfl (fun hP hD => ?_)
    have hc23 : Ff_X5_copyFrom a1_0.toInt a1_1.toInt a1_2.toInt a1_3.toInt a1_4.toInt (fl_A fa1_5) (fl_A fa0_3e3_5) (fl_A fa1_6) (fl_A fa0_3e3_6) = (v23na0_0.toInt, v23na0_1.toInt, v23na0_2.toInt, v23na0_3.toInt, v23na0_4.toInt, (fl_A v23nfa0_5), (fl_A v23nfa0_6)) := hraw23_0
    have hF0 := hF0.trans (fl_c7_eq hc23)
    refine lv_aload_n hx hb dX1_keep_26 rfl (lv_at hl 0 rfl) ?_
    refine lv_aload_n hx hb dX1_keep_27 rfl (lv_at hl 0 rfl) ?_
    refine va_get (D := (dC, dI)) (ci := 1) (v := .int a0_0) (C := RX1) (T := TX1) (N := 5) hx hb hts zi_X1_keep_1 hown hK hP 0 rfl rfl 0 (by decide) (hts (.fieldLink RX1 21 "WaxTurns$History" "keptCount" "I") (List.mem_cons_of_mem _ (List.mem_append_left _ (List.mem_append_left _ (List.mem_of_getElem? (i := 2) rfl))))) (fun _ h9 => h9) rfl dX1_keep_28 ?_
    refine lv_iconst (v := 1) hx hb dX1_keep_31 zk_iconst_1 ?_
    refine lv_iadd hx hb dX1_keep_32 ?_
    refine lv_topi (fun x32 ex32 => ?_)
    have qx32 : x32.toInt = a0_0.toInt + (1 : Int32).toInt := ai_add ex32 ⟨ba0_0_l, ba0_0_u⟩ ⟨zq1, zq0⟩ (by decide) (by decide)
    have bx32 : (1 : Int) ≤ x32.toInt ∧ x32.toInt ≤ 17 := ⟨by rw [qx32]; exact Int.add_le_add ba0_0_l zq1, by rw [qx32]; exact Int.add_le_add ba0_0_u zq0⟩
    have wx32 : x32.toInt = a0_0.toInt + 1 := qx32
    have hF0 := hF0.trans (fl_lt_eq (show x32.toInt = a0_0.toInt + 1 from qx32))
    refine lv_bipush (v := 16) hx hb dX1_keep_33 zk_bipush_16 ?_
    refine va_mmin hx hb (by rw [hml]; exact hl.1.symm) hown (hts (.methodLink RX1 35 Lib.Math.min.name) (List.mem_cons_of_mem _ (List.mem_append_left _ (List.mem_append_left _ (List.mem_of_getElem? (i := 3) rfl))))) (hts (.static Lib.Math.min.name) (List.mem_cons_of_mem _ (List.mem_append_left _ (List.mem_append_left _ (List.mem_of_getElem? (i := 4) rfl))))) (hts (.initialized "java/lang/Math") (List.mem_cons_of_mem _ (List.mem_append_left _ (List.mem_append_left _ (List.mem_of_getElem? (i := 5) rfl))))) (hts _ mnX1_keep) (Nat.le_of_ble_eq_true rfl) (Nat.le_of_ble_eq_true rfl) (Nat.le_of_ble_eq_true rfl) (Nat.le_of_ble_eq_true rfl) dX1_keep_35 ?_
    refine lv_topi (fun x35 ex35 => ?_)
    have qx35 := ai_mmin ex35
    have bx35 : (1 : Int) ≤ x35.toInt ∧ x35.toInt ≤ 16 := by first | exact zg_mm qx35 bx32.1 zq110 bx32.2 zq111 (by decide) (by decide) (by decide) | exact zg_mm qx35 zq110 bx32.1 zq111 bx32.2 (by decide) (by decide) (by decide) | (have h1 := bx32.1; have h2 := zq110; have h3 := bx32.2; have h4 := zq111; omega)
    have fqx35 := fl_min_eq ex35
    have hF0 := hF0.trans (fl_lt_eq (show x35.toInt = fl_min x32.toInt 16 from fqx35))
    refine va_put (D := (dC, dI)) (ci := 1) (v := .int x35) (ty := .int) (C := RX1) (T := TX1) (N := 5) hx hb hts zi_X1_keep_1 tyX1 tyX1_ok nmX1 hown hK hP hD hS 0 rfl rfl 0 (by decide) (hts (.fieldLink RX1 21 "WaxTurns$History" "keptCount" "I") (List.mem_cons_of_mem _ (List.mem_append_left _ (List.mem_append_left _ (List.mem_of_getElem? (i := 2) rfl))))) (fun _ h9 => h9) rfl (tyX1_ok 0 (by decide)) rfl rfl (Nat.le_of_ble_eq_true rfl) dX1_keep_38 (fun H locs hP hD hS => ?_)
    refine zs_0 (y := (a0, .inr (1, [.int x35, a0g_1, .int 3, .ref a0_3, a0g_4]))) hP hD rfl (fun hP hD => ?_)
    have hFe : FX = (x35.toInt, 3, (fl_nI [a0_3e0_0.toInt, a0_3e0_1.toInt, a0_3e0_2.toInt, a0_3e0_3.toInt, a0_3e0_4.toInt, a0_3e1_0.toInt, a0_3e1_1.toInt, a0_3e1_2.toInt, a0_3e1_3.toInt, a0_3e1_4.toInt, a0_3e2_0.toInt, a0_3e2_1.toInt, a0_3e2_2.toInt, a0_3e2_3.toInt, a0_3e2_4.toInt, v23na0_0.toInt, v23na0_1.toInt, v23na0_2.toInt, v23na0_3.toInt, v23na0_4.toInt, a0_3e4_0.toInt, a0_3e4_1.toInt, a0_3e4_2.toInt, a0_3e4_3.toInt, a0_3e4_4.toInt, a0_3e5_0.toInt, a0_3e5_1.toInt, a0_3e5_2.toInt, a0_3e5_3.toInt, a0_3e5_4.toInt, a0_3e6_0.toInt, a0_3e6_1.toInt, a0_3e6_2.toInt, a0_3e6_3.toInt, a0_3e6_4.toInt, a0_3e7_0.toInt, a0_3e7_1.toInt, a0_3e7_2.toInt, a0_3e7_3.toInt, a0_3e7_4.toInt, a0_3e8_0.toInt, a0_3e8_1.toInt, a0_3e8_2.toInt, a0_3e8_3.toInt, a0_3e8_4.toInt, a0_3e9_0.toInt, a0_3e9_1.toInt, a0_3e9_2.toInt, a0_3e9_3.toInt, a0_3e9_4.toInt, a0_3e10_0.toInt, a0_3e10_1.toInt, a0_3e10_2.toInt, a0_3e10_3.toInt, a0_3e10_4.toInt, a0_3e11_0.toInt, a0_3e11_1.toInt, a0_3e11_2.toInt, a0_3e11_3.toInt, a0_3e11_4.toInt, a0_3e12_0.toInt, a0_3e12_1.toInt, a0_3e12_2.toInt, a0_3e12_3.toInt, a0_3e12_4.toInt, a0_3e13_0.toInt, a0_3e13_1.toInt, a0_3e13_2.toInt, a0_3e13_3.toInt, a0_3e13_4.toInt, a0_3e14_0.toInt, a0_3e14_1.toInt, a0_3e14_2.toInt, a0_3e14_3.toInt, a0_3e14_4.toInt, a0_3e15_0.toInt, a0_3e15_1.toInt, a0_3e15_2.toInt, a0_3e15_3.toInt, a0_3e15_4.toInt]), (fl_nF [(fl_A fa0_3e0_5), (fl_A fa0_3e0_6), (fl_A fa0_3e1_5), (fl_A fa0_3e1_6), (fl_A fa0_3e2_5), (fl_A fa0_3e2_6), (fl_A v23nfa0_5), (fl_A v23nfa0_6), (fl_A fa0_3e4_5), (fl_A fa0_3e4_6), (fl_A fa0_3e5_5), (fl_A fa0_3e5_6), (fl_A fa0_3e6_5), (fl_A fa0_3e6_6), (fl_A fa0_3e7_5), (fl_A fa0_3e7_6), (fl_A fa0_3e8_5), (fl_A fa0_3e8_6), (fl_A fa0_3e9_5), (fl_A fa0_3e9_6), (fl_A fa0_3e10_5), (fl_A fa0_3e10_6), (fl_A fa0_3e11_5), (fl_A fa0_3e11_6), (fl_A fa0_3e12_5), (fl_A fa0_3e12_6), (fl_A fa0_3e13_5), (fl_A fa0_3e13_6), (fl_A fa0_3e14_5), (fl_A fa0_3e14_6), (fl_A fa0_3e15_5), (fl_A fa0_3e15_6)])) := hF0
    exact W.vret hx hb hr (fun t ht hW => ⟨⟨(), rfl, trivial, (fun i9 => ([x35, 3, a0_3e0_0, a0_3e0_1, a0_3e0_2, a0_3e0_3, a0_3e0_4, a0_3e1_0, a0_3e1_1, a0_3e1_2, a0_3e1_3, a0_3e1_4, a0_3e2_0, a0_3e2_1, a0_3e2_2, a0_3e2_3, a0_3e2_4, v23na0_0, v23na0_1, v23na0_2, v23na0_3, v23na0_4, a0_3e4_0, a0_3e4_1, a0_3e4_2, a0_3e4_3, a0_3e4_4, a0_3e5_0, a0_3e5_1, a0_3e5_2, a0_3e5_3, a0_3e5_4, a0_3e6_0, a0_3e6_1, a0_3e6_2, a0_3e6_3, a0_3e6_4, a0_3e7_0, a0_3e7_1, a0_3e7_2, a0_3e7_3, a0_3e7_4, a0_3e8_0, a0_3e8_1, a0_3e8_2, a0_3e8_3, a0_3e8_4, a0_3e9_0, a0_3e9_1, a0_3e9_2, a0_3e9_3, a0_3e9_4, a0_3e10_0, a0_3e10_1, a0_3e10_2, a0_3e10_3, a0_3e10_4, a0_3e11_0, a0_3e11_1, a0_3e11_2, a0_3e11_3, a0_3e11_4, a0_3e12_0, a0_3e12_1, a0_3e12_2, a0_3e12_3, a0_3e12_4, a0_3e13_0, a0_3e13_1, a0_3e13_2, a0_3e13_3, a0_3e13_4, a0_3e14_0, a0_3e14_1, a0_3e14_2, a0_3e14_3, a0_3e14_4, a0_3e15_0, a0_3e15_1, a0_3e15_2, a0_3e15_3, a0_3e15_4] : List Int32).getD i9 0), (fun i9 => ([fa0_3e0_5, fa0_3e0_6, fa0_3e1_5, fa0_3e1_6, fa0_3e2_5, fa0_3e2_6, v23nfa0_5, v23nfa0_6, fa0_3e4_5, fa0_3e4_6, fa0_3e5_5, fa0_3e5_6, fa0_3e6_5, fa0_3e6_6, fa0_3e7_5, fa0_3e7_6, fa0_3e8_5, fa0_3e8_6, fa0_3e9_5, fa0_3e9_6, fa0_3e10_5, fa0_3e10_6, fa0_3e11_5, fa0_3e11_6, fa0_3e12_5, fa0_3e12_6, fa0_3e13_5, fa0_3e13_6, fa0_3e14_5, fa0_3e14_6, fa0_3e15_5, fa0_3e15_6] : List (Nat → Int32)).getD i9 (fun _ => 0)), ⟨Int.le_trans (by decide) bx35.1, bx35.2⟩, ⟨Int.le_trans (by decide) zq8, Int.le_trans zq9 (by decide)⟩, ⟨ba0_3e0_1_l, ba0_3e0_1_u⟩, ⟨ba0_3e1_1_l, ba0_3e1_1_u⟩, ⟨ba0_3e2_1_l, ba0_3e2_1_u⟩, ⟨bv23na0_1.1, bv23na0_1.2⟩, ⟨ba0_3e4_1_l, ba0_3e4_1_u⟩, ⟨ba0_3e5_1_l, ba0_3e5_1_u⟩, ⟨ba0_3e6_1_l, ba0_3e6_1_u⟩, ⟨ba0_3e7_1_l, ba0_3e7_1_u⟩, ⟨ba0_3e8_1_l, ba0_3e8_1_u⟩, ⟨ba0_3e9_1_l, ba0_3e9_1_u⟩, ⟨ba0_3e10_1_l, ba0_3e10_1_u⟩, ⟨ba0_3e11_1_l, ba0_3e11_1_u⟩, ⟨ba0_3e12_1_l, ba0_3e12_1_u⟩, ⟨ba0_3e13_1_l, ba0_3e13_1_u⟩, ⟨ba0_3e14_1_l, ba0_3e14_1_u⟩, ⟨ba0_3e15_1_l, ba0_3e15_1_u⟩, (show (FX = (x35.toInt, (3 : Int32).toInt, (fl_nI [a0_3e0_0.toInt, a0_3e0_1.toInt, a0_3e0_2.toInt, a0_3e0_3.toInt, a0_3e0_4.toInt, a0_3e1_0.toInt, a0_3e1_1.toInt, a0_3e1_2.toInt, a0_3e1_3.toInt, a0_3e1_4.toInt, a0_3e2_0.toInt, a0_3e2_1.toInt, a0_3e2_2.toInt, a0_3e2_3.toInt, a0_3e2_4.toInt, v23na0_0.toInt, v23na0_1.toInt, v23na0_2.toInt, v23na0_3.toInt, v23na0_4.toInt, a0_3e4_0.toInt, a0_3e4_1.toInt, a0_3e4_2.toInt, a0_3e4_3.toInt, a0_3e4_4.toInt, a0_3e5_0.toInt, a0_3e5_1.toInt, a0_3e5_2.toInt, a0_3e5_3.toInt, a0_3e5_4.toInt, a0_3e6_0.toInt, a0_3e6_1.toInt, a0_3e6_2.toInt, a0_3e6_3.toInt, a0_3e6_4.toInt, a0_3e7_0.toInt, a0_3e7_1.toInt, a0_3e7_2.toInt, a0_3e7_3.toInt, a0_3e7_4.toInt, a0_3e8_0.toInt, a0_3e8_1.toInt, a0_3e8_2.toInt, a0_3e8_3.toInt, a0_3e8_4.toInt, a0_3e9_0.toInt, a0_3e9_1.toInt, a0_3e9_2.toInt, a0_3e9_3.toInt, a0_3e9_4.toInt, a0_3e10_0.toInt, a0_3e10_1.toInt, a0_3e10_2.toInt, a0_3e10_3.toInt, a0_3e10_4.toInt, a0_3e11_0.toInt, a0_3e11_1.toInt, a0_3e11_2.toInt, a0_3e11_3.toInt, a0_3e11_4.toInt, a0_3e12_0.toInt, a0_3e12_1.toInt, a0_3e12_2.toInt, a0_3e12_3.toInt, a0_3e12_4.toInt, a0_3e13_0.toInt, a0_3e13_1.toInt, a0_3e13_2.toInt, a0_3e13_3.toInt, a0_3e13_4.toInt, a0_3e14_0.toInt, a0_3e14_1.toInt, a0_3e14_2.toInt, a0_3e14_3.toInt, a0_3e14_4.toInt, a0_3e15_0.toInt, a0_3e15_1.toInt, a0_3e15_2.toInt, a0_3e15_3.toInt, a0_3e15_4.toInt]), (fl_nF [(fl_A fa0_3e0_5), (fl_A fa0_3e0_6), (fl_A fa0_3e1_5), (fl_A fa0_3e1_6), (fl_A fa0_3e2_5), (fl_A fa0_3e2_6), (fl_A v23nfa0_5), (fl_A v23nfa0_6), (fl_A fa0_3e4_5), (fl_A fa0_3e4_6), (fl_A fa0_3e5_5), (fl_A fa0_3e5_6), (fl_A fa0_3e6_5), (fl_A fa0_3e6_6), (fl_A fa0_3e7_5), (fl_A fa0_3e7_6), (fl_A fa0_3e8_5), (fl_A fa0_3e8_6), (fl_A fa0_3e9_5), (fl_A fa0_3e9_6), (fl_A fa0_3e10_5), (fl_A fa0_3e10_6), (fl_A fa0_3e11_5), (fl_A fa0_3e11_6), (fl_A fa0_3e12_5), (fl_A fa0_3e12_6), (fl_A fa0_3e13_5), (fl_A fa0_3e13_6), (fl_A fa0_3e14_5), (fl_A fa0_3e14_6), (fl_A fa0_3e15_5), (fl_A fa0_3e15_6)]))) from hFe), by rw [ht]; exact hP, va_K.moved hW.alike hK, hD⟩, hS.F ht⟩) hS.2.2 dX1_keep_41
  · subst hv21
    have hF0 := hF0.trans (if_neg (by decide))
    have hF0 := hF0.trans (if_neg (by decide))
    have hF0 := hF0.trans (if_neg (by decide))
    have hF0 := hF0.trans (if_neg (by decide))
    have hF0 := hF0.trans (if_pos (by decide))
    refine va_aldq hx hb hK hP 1 0 rfl rfl (i := 4) (by unfold vp_in; decide +kernel) dX1_keep_21 ?_
    refine ax_tv (.ref a0_3e4) rfl ?_
    refine lv_aload_n hx hb dX1_keep_22 rfl (lv_at hl 1 rfl) ?_
    refine zc_cutc (wc := [(a0_3e4, .inr (5, [.int a0_3e4_0, .int a0_3e4_1, .int a0_3e4_2, .int a0_3e4_3, .int a0_3e4_4, .ref a0_3e4_5, .ref a0_3e4_6])), (a1, .inr (5, [.int a1_0, .int a1_1, .int a1_2, .int a1_3, .int a1_4, .ref a1_5, .ref a1_6])), (a1_5, .inl (ka1_5, 9, .inl (fa1_5))), (a0_3e4_5, .inl (ka0_3e4_5, 9, .inl (fa0_3e4_5))), (a1_6, .inl (ka1_6, 9, .inl (fa1_6))), (a0_3e4_6, .inl (ka0_3e4_6, 9, .inl (fa0_3e4_6)))]) hP hD hS hA [17, 3, 4, 18, 6, 19] (by decide +kernel) rfl (fun hPc hDc hFc hCc => ?_)
    have hKc := hK.sub (tys' := [(ka1_5, .int), (ka0_3e4_5, .int), (ka1_6, .int), (ka0_3e4_6, .int)]) [1, 11, 3, 12] rfl
    refine va_callv (va_runV (As := [.ref a1]) (rest := []) ⟨hx, hb, hml, hown, hts⟩ (f_X5_copyFrom l dC dI H.size a0_3e4 a1 a0_3e4_0 a0_3e4_1 a0_3e4_2 a0_3e4_3 a0_3e4_4 a0_3e4_5 a0_3e4_6 a1_0 a1_1 a1_2 a1_3 a1_4 a1_5 a1_6 ka1_5 fa1_5 ka0_3e4_5 fa0_3e4_5 ka1_6 fa1_6 ka0_3e4_6 fa0_3e4_6 ba0_3e4_1_l ba0_3e4_1_u ba1_1_l ba1_1_u) (cwV 1 hts gX1_keep_X5_copyFrom rfl rfl rfl zd_X5_copyFrom ⟨Nat.le_of_ble_eq_true rfl, Nat.le_of_ble_eq_true rfl⟩) ⟨ax_blind (fun _ _ _ _ _ => trivial), zr_5 hKc hPc (q0 := 0) rfl, ax_pre hPc hKc hDc (fun _ _ => trivial)⟩ rfl rfl hl.1 rfl (lv_room (Nat.le_of_ble_eq_true rfl)) dX1_keep_23 ⟨Nat.le_of_ble_eq_true rfl, Nat.le_of_ble_eq_true rfl⟩) hS (fun q _ h => hFc q h) hFc (fun u t H locs ht hvm hw => zx_7 (fun v23na0_0 v23na0_1 v23na0_2 v23na0_3 v23na0_4 v23nfa0_5 v23nfa0_6 => zy_2 (fun bv23na0_1 hraw23_0 hB hz1 hk1 hS1 => zo hB ht hS1 (fun hP1 hK1 hD1 hS => ?_))))
    refine zc_backc (w := [(a0, .inr (1, [.int a0_0, a0g_1, .int 4, .ref a0_3, a0g_4])), (a0_3, .inl (ka0_3, 16, .inr (.inr (.inr (.inr (fun i9 => ([some a0_3e0, some a0_3e1, some a0_3e2, some a0_3e3, some a0_3e4, some a0_3e5, some a0_3e6, some a0_3e7, some a0_3e8, some a0_3e9, some a0_3e10, some a0_3e11, some a0_3e12, some a0_3e13, some a0_3e14, some a0_3e15] : List (Option Nat)).getD i9 none)))))), (a0_3e0, .inr (5, [.int a0_3e0_0, .int a0_3e0_1, .int a0_3e0_2, .int a0_3e0_3, .int a0_3e0_4, .ref a0_3e0_5, .ref a0_3e0_6])), (a1, .inr (5, [.int a1_0, .int a1_1, .int a1_2, .int a1_3, .int a1_4, .ref a1_5, .ref a1_6])), (a1_5, .inl (ka1_5, 9, .inl (fa1_5))), (a0_3e0_5, .inl (ka0_3e0_5, 9, .inl (fa0_3e0_5))), (a1_6, .inl (ka1_6, 9, .inl (fa1_6))), (a0_3e0_6, .inl (ka0_3e0_6, 9, .inl (fa0_3e0_6))), (a0_3e1, .inr (5, [.int a0_3e1_0, .int a0_3e1_1, .int a0_3e1_2, .int a0_3e1_3, .int a0_3e1_4, .ref a0_3e1_5, .ref a0_3e1_6])), (a0_3e1_5, .inl (ka0_3e1_5, 9, .inl (fa0_3e1_5))), (a0_3e1_6, .inl (ka0_3e1_6, 9, .inl (fa0_3e1_6))), (a0_3e2, .inr (5, [.int a0_3e2_0, .int a0_3e2_1, .int a0_3e2_2, .int a0_3e2_3, .int a0_3e2_4, .ref a0_3e2_5, .ref a0_3e2_6])), (a0_3e2_5, .inl (ka0_3e2_5, 9, .inl (fa0_3e2_5))), (a0_3e2_6, .inl (ka0_3e2_6, 9, .inl (fa0_3e2_6))), (a0_3e3, .inr (5, [.int a0_3e3_0, .int a0_3e3_1, .int a0_3e3_2, .int a0_3e3_3, .int a0_3e3_4, .ref a0_3e3_5, .ref a0_3e3_6])), (a0_3e3_5, .inl (ka0_3e3_5, 9, .inl (fa0_3e3_5))), (a0_3e3_6, .inl (ka0_3e3_6, 9, .inl (fa0_3e3_6))), (a0_3e4, .inr (5, [.int v23na0_0, .int v23na0_1, .int v23na0_2, .int v23na0_3, .int v23na0_4, .ref a0_3e4_5, .ref a0_3e4_6])), (a0_3e4_5, .inl (ka0_3e4_5, 9, .inl (v23nfa0_5))), (a0_3e4_6, .inl (ka0_3e4_6, 9, .inl (v23nfa0_6))), (a0_3e5, .inr (5, [.int a0_3e5_0, .int a0_3e5_1, .int a0_3e5_2, .int a0_3e5_3, .int a0_3e5_4, .ref a0_3e5_5, .ref a0_3e5_6])), (a0_3e5_5, .inl (ka0_3e5_5, 9, .inl (fa0_3e5_5))), (a0_3e5_6, .inl (ka0_3e5_6, 9, .inl (fa0_3e5_6))), (a0_3e6, .inr (5, [.int a0_3e6_0, .int a0_3e6_1, .int a0_3e6_2, .int a0_3e6_3, .int a0_3e6_4, .ref a0_3e6_5, .ref a0_3e6_6])), (a0_3e6_5, .inl (ka0_3e6_5, 9, .inl (fa0_3e6_5))), (a0_3e6_6, .inl (ka0_3e6_6, 9, .inl (fa0_3e6_6))), (a0_3e7, .inr (5, [.int a0_3e7_0, .int a0_3e7_1, .int a0_3e7_2, .int a0_3e7_3, .int a0_3e7_4, .ref a0_3e7_5, .ref a0_3e7_6])), (a0_3e7_5, .inl (ka0_3e7_5, 9, .inl (fa0_3e7_5))), (a0_3e7_6, .inl (ka0_3e7_6, 9, .inl (fa0_3e7_6))), (a0_3e8, .inr (5, [.int a0_3e8_0, .int a0_3e8_1, .int a0_3e8_2, .int a0_3e8_3, .int a0_3e8_4, .ref a0_3e8_5, .ref a0_3e8_6])), (a0_3e8_5, .inl (ka0_3e8_5, 9, .inl (fa0_3e8_5))), (a0_3e8_6, .inl (ka0_3e8_6, 9, .inl (fa0_3e8_6))), (a0_3e9, .inr (5, [.int a0_3e9_0, .int a0_3e9_1, .int a0_3e9_2, .int a0_3e9_3, .int a0_3e9_4, .ref a0_3e9_5, .ref a0_3e9_6])), (a0_3e9_5, .inl (ka0_3e9_5, 9, .inl (fa0_3e9_5))), (a0_3e9_6, .inl (ka0_3e9_6, 9, .inl (fa0_3e9_6))), (a0_3e10, .inr (5, [.int a0_3e10_0, .int a0_3e10_1, .int a0_3e10_2, .int a0_3e10_3, .int a0_3e10_4, .ref a0_3e10_5, .ref a0_3e10_6])), (a0_3e10_5, .inl (ka0_3e10_5, 9, .inl (fa0_3e10_5))), (a0_3e10_6, .inl (ka0_3e10_6, 9, .inl (fa0_3e10_6))), (a0_3e11, .inr (5, [.int a0_3e11_0, .int a0_3e11_1, .int a0_3e11_2, .int a0_3e11_3, .int a0_3e11_4, .ref a0_3e11_5, .ref a0_3e11_6])), (a0_3e11_5, .inl (ka0_3e11_5, 9, .inl (fa0_3e11_5))), (a0_3e11_6, .inl (ka0_3e11_6, 9, .inl (fa0_3e11_6))), (a0_3e12, .inr (5, [.int a0_3e12_0, .int a0_3e12_1, .int a0_3e12_2, .int a0_3e12_3, .int a0_3e12_4, .ref a0_3e12_5, .ref a0_3e12_6])), (a0_3e12_5, .inl (ka0_3e12_5, 9, .inl (fa0_3e12_5))), (a0_3e12_6, .inl (ka0_3e12_6, 9, .inl (fa0_3e12_6))), (a0_3e13, .inr (5, [.int a0_3e13_0, .int a0_3e13_1, .int a0_3e13_2, .int a0_3e13_3, .int a0_3e13_4, .ref a0_3e13_5, .ref a0_3e13_6])), (a0_3e13_5, .inl (ka0_3e13_5, 9, .inl (fa0_3e13_5))), (a0_3e13_6, .inl (ka0_3e13_6, 9, .inl (fa0_3e13_6))), (a0_3e14, .inr (5, [.int a0_3e14_0, .int a0_3e14_1, .int a0_3e14_2, .int a0_3e14_3, .int a0_3e14_4, .ref a0_3e14_5, .ref a0_3e14_6])), (a0_3e14_5, .inl (ka0_3e14_5, 9, .inl (fa0_3e14_5))), (a0_3e14_6, .inl (ka0_3e14_6, 9, .inl (fa0_3e14_6))), (a0_3e15, .inr (5, [.int a0_3e15_0, .int a0_3e15_1, .int a0_3e15_2, .int a0_3e15_3, .int a0_3e15_4, .ref a0_3e15_5, .ref a0_3e15_6])), (a0_3e15_5, .inl (ka0_3e15_5, 9, .inl (fa0_3e15_5))), (a0_3e15_6, .inl (ka0_3e15_6, 9, .inl (fa0_3e15_6)))]) hP hD hCc hk1 hFc hP1 hD1 [.inl 0, .inl 1, .inl 2, .inr 1, .inr 2, .inl 5, .inr 4, .inl 7, .inl 8, .inl 9, .inl 10, .inl 11, .inl 12, .inl 13, .inl 14, .inl 15, .inl 16, .inr 0, .inr 3, .inr 5, .inl 20, .inl 21, .inl 22, .inl 23, .inl 24, .inl 25, .inl 26, .inl 27, .inl 28, .inl 29, .inl 30, .inl 31, .inl 32, .inl 33, .inl 34, .inl 35, .inl 36, .inl 37, .inl 38, .inl 39, .inl 40, .inl 41, .inl 42, .inl 43, .inl 44, .inl 45, .inl 46, .inl 47, .inl 48, .inl 49, .inl 50, .inl 51, .inl 52] (by decide +kernel) rfl (fun hP hD => ?_)
    have hc23 : Ff_X5_copyFrom a1_0.toInt a1_1.toInt a1_2.toInt a1_3.toInt a1_4.toInt (fl_A fa1_5) (fl_A fa0_3e4_5) (fl_A fa1_6) (fl_A fa0_3e4_6) = (v23na0_0.toInt, v23na0_1.toInt, v23na0_2.toInt, v23na0_3.toInt, v23na0_4.toInt, (fl_A v23nfa0_5), (fl_A v23nfa0_6)) := hraw23_0
    have hF0 := hF0.trans (fl_c7_eq hc23)
    refine lv_aload_n hx hb dX1_keep_26 rfl (lv_at hl 0 rfl) ?_
    refine lv_aload_n hx hb dX1_keep_27 rfl (lv_at hl 0 rfl) ?_
    refine va_get (D := (dC, dI)) (ci := 1) (v := .int a0_0) (C := RX1) (T := TX1) (N := 5) hx hb hts zi_X1_keep_1 hown hK hP 0 rfl rfl 0 (by decide) (hts (.fieldLink RX1 21 "WaxTurns$History" "keptCount" "I") (List.mem_cons_of_mem _ (List.mem_append_left _ (List.mem_append_left _ (List.mem_of_getElem? (i := 2) rfl))))) (fun _ h9 => h9) rfl dX1_keep_28 ?_
    refine lv_iconst (v := 1) hx hb dX1_keep_31 zk_iconst_1 ?_
    refine lv_iadd hx hb dX1_keep_32 ?_
    refine lv_topi (fun x32 ex32 => ?_)
    have qx32 : x32.toInt = a0_0.toInt + (1 : Int32).toInt := ai_add ex32 ⟨ba0_0_l, ba0_0_u⟩ ⟨zq1, zq0⟩ (by decide) (by decide)
    have bx32 : (1 : Int) ≤ x32.toInt ∧ x32.toInt ≤ 17 := ⟨by rw [qx32]; exact Int.add_le_add ba0_0_l zq1, by rw [qx32]; exact Int.add_le_add ba0_0_u zq0⟩
    have wx32 : x32.toInt = a0_0.toInt + 1 := qx32
    have hF0 := hF0.trans (fl_lt_eq (show x32.toInt = a0_0.toInt + 1 from qx32))
    refine lv_bipush (v := 16) hx hb dX1_keep_33 zk_bipush_16 ?_
    refine va_mmin hx hb (by rw [hml]; exact hl.1.symm) hown (hts (.methodLink RX1 35 Lib.Math.min.name) (List.mem_cons_of_mem _ (List.mem_append_left _ (List.mem_append_left _ (List.mem_of_getElem? (i := 3) rfl))))) (hts (.static Lib.Math.min.name) (List.mem_cons_of_mem _ (List.mem_append_left _ (List.mem_append_left _ (List.mem_of_getElem? (i := 4) rfl))))) (hts (.initialized "java/lang/Math") (List.mem_cons_of_mem _ (List.mem_append_left _ (List.mem_append_left _ (List.mem_of_getElem? (i := 5) rfl))))) (hts _ mnX1_keep) (Nat.le_of_ble_eq_true rfl) (Nat.le_of_ble_eq_true rfl) (Nat.le_of_ble_eq_true rfl) (Nat.le_of_ble_eq_true rfl) dX1_keep_35 ?_
    refine lv_topi (fun x35 ex35 => ?_)
    have qx35 := ai_mmin ex35
    have bx35 : (1 : Int) ≤ x35.toInt ∧ x35.toInt ≤ 16 := by first | exact zg_mm qx35 bx32.1 zq110 bx32.2 zq111 (by decide) (by decide) (by decide) | exact zg_mm qx35 zq110 bx32.1 zq111 bx32.2 (by decide) (by decide) (by decide) | (have h1 := bx32.1; have h2 := zq110; have h3 := bx32.2; have h4 := zq111; omega)
    have fqx35 := fl_min_eq ex35
    have hF0 := hF0.trans (fl_lt_eq (show x35.toInt = fl_min x32.toInt 16 from fqx35))
    refine va_put (D := (dC, dI)) (ci := 1) (v := .int x35) (ty := .int) (C := RX1) (T := TX1) (N := 5) hx hb hts zi_X1_keep_1 tyX1 tyX1_ok nmX1 hown hK hP hD hS 0 rfl rfl 0 (by decide) (hts (.fieldLink RX1 21 "WaxTurns$History" "keptCount" "I") (List.mem_cons_of_mem _ (List.mem_append_left _ (List.mem_append_left _ (List.mem_of_getElem? (i := 2) rfl))))) (fun _ h9 => h9) rfl (tyX1_ok 0 (by decide)) rfl rfl (Nat.le_of_ble_eq_true rfl) dX1_keep_38 (fun H locs hP hD hS => ?_)
    refine zs_0 (y := (a0, .inr (1, [.int x35, a0g_1, .int 4, .ref a0_3, a0g_4]))) hP hD rfl (fun hP hD => ?_)
    have hFe : FX = (x35.toInt, 4, (fl_nI [a0_3e0_0.toInt, a0_3e0_1.toInt, a0_3e0_2.toInt, a0_3e0_3.toInt, a0_3e0_4.toInt, a0_3e1_0.toInt, a0_3e1_1.toInt, a0_3e1_2.toInt, a0_3e1_3.toInt, a0_3e1_4.toInt, a0_3e2_0.toInt, a0_3e2_1.toInt, a0_3e2_2.toInt, a0_3e2_3.toInt, a0_3e2_4.toInt, a0_3e3_0.toInt, a0_3e3_1.toInt, a0_3e3_2.toInt, a0_3e3_3.toInt, a0_3e3_4.toInt, v23na0_0.toInt, v23na0_1.toInt, v23na0_2.toInt, v23na0_3.toInt, v23na0_4.toInt, a0_3e5_0.toInt, a0_3e5_1.toInt, a0_3e5_2.toInt, a0_3e5_3.toInt, a0_3e5_4.toInt, a0_3e6_0.toInt, a0_3e6_1.toInt, a0_3e6_2.toInt, a0_3e6_3.toInt, a0_3e6_4.toInt, a0_3e7_0.toInt, a0_3e7_1.toInt, a0_3e7_2.toInt, a0_3e7_3.toInt, a0_3e7_4.toInt, a0_3e8_0.toInt, a0_3e8_1.toInt, a0_3e8_2.toInt, a0_3e8_3.toInt, a0_3e8_4.toInt, a0_3e9_0.toInt, a0_3e9_1.toInt, a0_3e9_2.toInt, a0_3e9_3.toInt, a0_3e9_4.toInt, a0_3e10_0.toInt, a0_3e10_1.toInt, a0_3e10_2.toInt, a0_3e10_3.toInt, a0_3e10_4.toInt, a0_3e11_0.toInt, a0_3e11_1.toInt, a0_3e11_2.toInt, a0_3e11_3.toInt, a0_3e11_4.toInt, a0_3e12_0.toInt, a0_3e12_1.toInt, a0_3e12_2.toInt, a0_3e12_3.toInt, a0_3e12_4.toInt, a0_3e13_0.toInt, a0_3e13_1.toInt, a0_3e13_2.toInt, a0_3e13_3.toInt, a0_3e13_4.toInt, a0_3e14_0.toInt, a0_3e14_1.toInt, a0_3e14_2.toInt, a0_3e14_3.toInt, a0_3e14_4.toInt, a0_3e15_0.toInt, a0_3e15_1.toInt, a0_3e15_2.toInt, a0_3e15_3.toInt, a0_3e15_4.toInt]), (fl_nF [(fl_A fa0_3e0_5), (fl_A fa0_3e0_6), (fl_A fa0_3e1_5), (fl_A fa0_3e1_6), (fl_A fa0_3e2_5), (fl_A fa0_3e2_6), (fl_A fa0_3e3_5), (fl_A fa0_3e3_6), (fl_A v23nfa0_5), (fl_A v23nfa0_6), (fl_A fa0_3e5_5), (fl_A fa0_3e5_6), (fl_A fa0_3e6_5), (fl_A fa0_3e6_6), (fl_A fa0_3e7_5), (fl_A fa0_3e7_6), (fl_A fa0_3e8_5), (fl_A fa0_3e8_6), (fl_A fa0_3e9_5), (fl_A fa0_3e9_6), (fl_A fa0_3e10_5), (fl_A fa0_3e10_6), (fl_A fa0_3e11_5), (fl_A fa0_3e11_6), (fl_A fa0_3e12_5), (fl_A fa0_3e12_6), (fl_A fa0_3e13_5), (fl_A fa0_3e13_6), (fl_A fa0_3e14_5), (fl_A fa0_3e14_6), (fl_A fa0_3e15_5), (fl_A fa0_3e15_6)])) := hF0
    exact W.vret hx hb hr (fun t ht hW => ⟨⟨(), rfl, trivial, (fun i9 => ([x35, 4, a0_3e0_0, a0_3e0_1, a0_3e0_2, a0_3e0_3, a0_3e0_4, a0_3e1_0, a0_3e1_1, a0_3e1_2, a0_3e1_3, a0_3e1_4, a0_3e2_0, a0_3e2_1, a0_3e2_2, a0_3e2_3, a0_3e2_4, a0_3e3_0, a0_3e3_1, a0_3e3_2, a0_3e3_3, a0_3e3_4, v23na0_0, v23na0_1, v23na0_2, v23na0_3, v23na0_4, a0_3e5_0, a0_3e5_1, a0_3e5_2, a0_3e5_3, a0_3e5_4, a0_3e6_0, a0_3e6_1, a0_3e6_2, a0_3e6_3, a0_3e6_4, a0_3e7_0, a0_3e7_1, a0_3e7_2, a0_3e7_3, a0_3e7_4, a0_3e8_0, a0_3e8_1, a0_3e8_2, a0_3e8_3, a0_3e8_4, a0_3e9_0, a0_3e9_1, a0_3e9_2, a0_3e9_3, a0_3e9_4, a0_3e10_0, a0_3e10_1, a0_3e10_2, a0_3e10_3, a0_3e10_4, a0_3e11_0, a0_3e11_1, a0_3e11_2, a0_3e11_3, a0_3e11_4, a0_3e12_0, a0_3e12_1, a0_3e12_2, a0_3e12_3, a0_3e12_4, a0_3e13_0, a0_3e13_1, a0_3e13_2, a0_3e13_3, a0_3e13_4, a0_3e14_0, a0_3e14_1, a0_3e14_2, a0_3e14_3, a0_3e14_4, a0_3e15_0, a0_3e15_1, a0_3e15_2, a0_3e15_3, a0_3e15_4] : List Int32).getD i9 0), (fun i9 => ([fa0_3e0_5, fa0_3e0_6, fa0_3e1_5, fa0_3e1_6, fa0_3e2_5, fa0_3e2_6, fa0_3e3_5, fa0_3e3_6, v23nfa0_5, v23nfa0_6, fa0_3e5_5, fa0_3e5_6, fa0_3e6_5, fa0_3e6_6, fa0_3e7_5, fa0_3e7_6, fa0_3e8_5, fa0_3e8_6, fa0_3e9_5, fa0_3e9_6, fa0_3e10_5, fa0_3e10_6, fa0_3e11_5, fa0_3e11_6, fa0_3e12_5, fa0_3e12_6, fa0_3e13_5, fa0_3e13_6, fa0_3e14_5, fa0_3e14_6, fa0_3e15_5, fa0_3e15_6] : List (Nat → Int32)).getD i9 (fun _ => 0)), ⟨Int.le_trans (by decide) bx35.1, bx35.2⟩, ⟨Int.le_trans (by decide) zq68, Int.le_trans zq67 (by decide)⟩, ⟨ba0_3e0_1_l, ba0_3e0_1_u⟩, ⟨ba0_3e1_1_l, ba0_3e1_1_u⟩, ⟨ba0_3e2_1_l, ba0_3e2_1_u⟩, ⟨ba0_3e3_1_l, ba0_3e3_1_u⟩, ⟨bv23na0_1.1, bv23na0_1.2⟩, ⟨ba0_3e5_1_l, ba0_3e5_1_u⟩, ⟨ba0_3e6_1_l, ba0_3e6_1_u⟩, ⟨ba0_3e7_1_l, ba0_3e7_1_u⟩, ⟨ba0_3e8_1_l, ba0_3e8_1_u⟩, ⟨ba0_3e9_1_l, ba0_3e9_1_u⟩, ⟨ba0_3e10_1_l, ba0_3e10_1_u⟩, ⟨ba0_3e11_1_l, ba0_3e11_1_u⟩, ⟨ba0_3e12_1_l, ba0_3e12_1_u⟩, ⟨ba0_3e13_1_l, ba0_3e13_1_u⟩, ⟨ba0_3e14_1_l, ba0_3e14_1_u⟩, ⟨ba0_3e15_1_l, ba0_3e15_1_u⟩, (show (FX = (x35.toInt, (4 : Int32).toInt, (fl_nI [a0_3e0_0.toInt, a0_3e0_1.toInt, a0_3e0_2.toInt, a0_3e0_3.toInt, a0_3e0_4.toInt, a0_3e1_0.toInt, a0_3e1_1.toInt, a0_3e1_2.toInt, a0_3e1_3.toInt, a0_3e1_4.toInt, a0_3e2_0.toInt, a0_3e2_1.toInt, a0_3e2_2.toInt, a0_3e2_3.toInt, a0_3e2_4.toInt, a0_3e3_0.toInt, a0_3e3_1.toInt, a0_3e3_2.toInt, a0_3e3_3.toInt, a0_3e3_4.toInt, v23na0_0.toInt, v23na0_1.toInt, v23na0_2.toInt, v23na0_3.toInt, v23na0_4.toInt, a0_3e5_0.toInt, a0_3e5_1.toInt, a0_3e5_2.toInt, a0_3e5_3.toInt, a0_3e5_4.toInt, a0_3e6_0.toInt, a0_3e6_1.toInt, a0_3e6_2.toInt, a0_3e6_3.toInt, a0_3e6_4.toInt, a0_3e7_0.toInt, a0_3e7_1.toInt, a0_3e7_2.toInt, a0_3e7_3.toInt, a0_3e7_4.toInt, a0_3e8_0.toInt, a0_3e8_1.toInt, a0_3e8_2.toInt, a0_3e8_3.toInt, a0_3e8_4.toInt, a0_3e9_0.toInt, a0_3e9_1.toInt, a0_3e9_2.toInt, a0_3e9_3.toInt, a0_3e9_4.toInt, a0_3e10_0.toInt, a0_3e10_1.toInt, a0_3e10_2.toInt, a0_3e10_3.toInt, a0_3e10_4.toInt, a0_3e11_0.toInt, a0_3e11_1.toInt, a0_3e11_2.toInt, a0_3e11_3.toInt, a0_3e11_4.toInt, a0_3e12_0.toInt, a0_3e12_1.toInt, a0_3e12_2.toInt, a0_3e12_3.toInt, a0_3e12_4.toInt, a0_3e13_0.toInt, a0_3e13_1.toInt, a0_3e13_2.toInt, a0_3e13_3.toInt, a0_3e13_4.toInt, a0_3e14_0.toInt, a0_3e14_1.toInt, a0_3e14_2.toInt, a0_3e14_3.toInt, a0_3e14_4.toInt, a0_3e15_0.toInt, a0_3e15_1.toInt, a0_3e15_2.toInt, a0_3e15_3.toInt, a0_3e15_4.toInt]), (fl_nF [(fl_A fa0_3e0_5), (fl_A fa0_3e0_6), (fl_A fa0_3e1_5), (fl_A fa0_3e1_6), (fl_A fa0_3e2_5), (fl_A fa0_3e2_6), (fl_A fa0_3e3_5), (fl_A fa0_3e3_6), (fl_A v23nfa0_5), (fl_A v23nfa0_6), (fl_A fa0_3e5_5), (fl_A fa0_3e5_6), (fl_A fa0_3e6_5), (fl_A fa0_3e6_6), (fl_A fa0_3e7_5), (fl_A fa0_3e7_6), (fl_A fa0_3e8_5), (fl_A fa0_3e8_6), (fl_A fa0_3e9_5), (fl_A fa0_3e9_6), (fl_A fa0_3e10_5), (fl_A fa0_3e10_6), (fl_A fa0_3e11_5), (fl_A fa0_3e11_6), (fl_A fa0_3e12_5), (fl_A fa0_3e12_6), (fl_A fa0_3e13_5), (fl_A fa0_3e13_6), (fl_A fa0_3e14_5), (fl_A fa0_3e14_6), (fl_A fa0_3e15_5), (fl_A fa0_3e15_6)]))) from hFe), by rw [ht]; exact hP, va_K.moved hW.alike hK, hD⟩, hS.F ht⟩) hS.2.2 dX1_keep_41
  · subst hv21
    have hF0 := hF0.trans (if_neg (by decide))
    have hF0 := hF0.trans (if_neg (by decide))
    have hF0 := hF0.trans (if_neg (by decide))
    have hF0 := hF0.trans (if_neg (by decide))
    have hF0 := hF0.trans (if_neg (by decide))
    have hF0 := hF0.trans (if_pos (by decide))
    refine va_aldq hx hb hK hP 1 0 rfl rfl (i := 5) (by unfold vp_in; decide +kernel) dX1_keep_21 ?_
    refine ax_tv (.ref a0_3e5) rfl ?_
    refine lv_aload_n hx hb dX1_keep_22 rfl (lv_at hl 1 rfl) ?_
    refine zc_cutc (wc := [(a0_3e5, .inr (5, [.int a0_3e5_0, .int a0_3e5_1, .int a0_3e5_2, .int a0_3e5_3, .int a0_3e5_4, .ref a0_3e5_5, .ref a0_3e5_6])), (a1, .inr (5, [.int a1_0, .int a1_1, .int a1_2, .int a1_3, .int a1_4, .ref a1_5, .ref a1_6])), (a1_5, .inl (ka1_5, 9, .inl (fa1_5))), (a0_3e5_5, .inl (ka0_3e5_5, 9, .inl (fa0_3e5_5))), (a1_6, .inl (ka1_6, 9, .inl (fa1_6))), (a0_3e5_6, .inl (ka0_3e5_6, 9, .inl (fa0_3e5_6)))]) hP hD hS hA [20, 3, 4, 21, 6, 22] (by decide +kernel) rfl (fun hPc hDc hFc hCc => ?_)
    have hKc := hK.sub (tys' := [(ka1_5, .int), (ka0_3e5_5, .int), (ka1_6, .int), (ka0_3e5_6, .int)]) [1, 13, 3, 14] rfl
    refine va_callv (va_runV (As := [.ref a1]) (rest := []) ⟨hx, hb, hml, hown, hts⟩ (f_X5_copyFrom l dC dI H.size a0_3e5 a1 a0_3e5_0 a0_3e5_1 a0_3e5_2 a0_3e5_3 a0_3e5_4 a0_3e5_5 a0_3e5_6 a1_0 a1_1 a1_2 a1_3 a1_4 a1_5 a1_6 ka1_5 fa1_5 ka0_3e5_5 fa0_3e5_5 ka1_6 fa1_6 ka0_3e5_6 fa0_3e5_6 ba0_3e5_1_l ba0_3e5_1_u ba1_1_l ba1_1_u) (cwV 1 hts gX1_keep_X5_copyFrom rfl rfl rfl zd_X5_copyFrom ⟨Nat.le_of_ble_eq_true rfl, Nat.le_of_ble_eq_true rfl⟩) ⟨ax_blind (fun _ _ _ _ _ => trivial), zr_5 hKc hPc (q0 := 0) rfl, ax_pre hPc hKc hDc (fun _ _ => trivial)⟩ rfl rfl hl.1 rfl (lv_room (Nat.le_of_ble_eq_true rfl)) dX1_keep_23 ⟨Nat.le_of_ble_eq_true rfl, Nat.le_of_ble_eq_true rfl⟩) hS (fun q _ h => hFc q h) hFc (fun u t H locs ht hvm hw => zx_7 (fun v23na0_0 v23na0_1 v23na0_2 v23na0_3 v23na0_4 v23nfa0_5 v23nfa0_6 => zy_2 (fun bv23na0_1 hraw23_0 hB hz1 hk1 hS1 => zo hB ht hS1 (fun hP1 hK1 hD1 hS => ?_))))
    refine zc_backc (w := [(a0, .inr (1, [.int a0_0, a0g_1, .int 5, .ref a0_3, a0g_4])), (a0_3, .inl (ka0_3, 16, .inr (.inr (.inr (.inr (fun i9 => ([some a0_3e0, some a0_3e1, some a0_3e2, some a0_3e3, some a0_3e4, some a0_3e5, some a0_3e6, some a0_3e7, some a0_3e8, some a0_3e9, some a0_3e10, some a0_3e11, some a0_3e12, some a0_3e13, some a0_3e14, some a0_3e15] : List (Option Nat)).getD i9 none)))))), (a0_3e0, .inr (5, [.int a0_3e0_0, .int a0_3e0_1, .int a0_3e0_2, .int a0_3e0_3, .int a0_3e0_4, .ref a0_3e0_5, .ref a0_3e0_6])), (a1, .inr (5, [.int a1_0, .int a1_1, .int a1_2, .int a1_3, .int a1_4, .ref a1_5, .ref a1_6])), (a1_5, .inl (ka1_5, 9, .inl (fa1_5))), (a0_3e0_5, .inl (ka0_3e0_5, 9, .inl (fa0_3e0_5))), (a1_6, .inl (ka1_6, 9, .inl (fa1_6))), (a0_3e0_6, .inl (ka0_3e0_6, 9, .inl (fa0_3e0_6))), (a0_3e1, .inr (5, [.int a0_3e1_0, .int a0_3e1_1, .int a0_3e1_2, .int a0_3e1_3, .int a0_3e1_4, .ref a0_3e1_5, .ref a0_3e1_6])), (a0_3e1_5, .inl (ka0_3e1_5, 9, .inl (fa0_3e1_5))), (a0_3e1_6, .inl (ka0_3e1_6, 9, .inl (fa0_3e1_6))), (a0_3e2, .inr (5, [.int a0_3e2_0, .int a0_3e2_1, .int a0_3e2_2, .int a0_3e2_3, .int a0_3e2_4, .ref a0_3e2_5, .ref a0_3e2_6])), (a0_3e2_5, .inl (ka0_3e2_5, 9, .inl (fa0_3e2_5))), (a0_3e2_6, .inl (ka0_3e2_6, 9, .inl (fa0_3e2_6))), (a0_3e3, .inr (5, [.int a0_3e3_0, .int a0_3e3_1, .int a0_3e3_2, .int a0_3e3_3, .int a0_3e3_4, .ref a0_3e3_5, .ref a0_3e3_6])), (a0_3e3_5, .inl (ka0_3e3_5, 9, .inl (fa0_3e3_5))), (a0_3e3_6, .inl (ka0_3e3_6, 9, .inl (fa0_3e3_6))), (a0_3e4, .inr (5, [.int a0_3e4_0, .int a0_3e4_1, .int a0_3e4_2, .int a0_3e4_3, .int a0_3e4_4, .ref a0_3e4_5, .ref a0_3e4_6])), (a0_3e4_5, .inl (ka0_3e4_5, 9, .inl (fa0_3e4_5))), (a0_3e4_6, .inl (ka0_3e4_6, 9, .inl (fa0_3e4_6))), (a0_3e5, .inr (5, [.int v23na0_0, .int v23na0_1, .int v23na0_2, .int v23na0_3, .int v23na0_4, .ref a0_3e5_5, .ref a0_3e5_6])), (a0_3e5_5, .inl (ka0_3e5_5, 9, .inl (v23nfa0_5))), (a0_3e5_6, .inl (ka0_3e5_6, 9, .inl (v23nfa0_6))), (a0_3e6, .inr (5, [.int a0_3e6_0, .int a0_3e6_1, .int a0_3e6_2, .int a0_3e6_3, .int a0_3e6_4, .ref a0_3e6_5, .ref a0_3e6_6])), (a0_3e6_5, .inl (ka0_3e6_5, 9, .inl (fa0_3e6_5))), (a0_3e6_6, .inl (ka0_3e6_6, 9, .inl (fa0_3e6_6))), (a0_3e7, .inr (5, [.int a0_3e7_0, .int a0_3e7_1, .int a0_3e7_2, .int a0_3e7_3, .int a0_3e7_4, .ref a0_3e7_5, .ref a0_3e7_6])), (a0_3e7_5, .inl (ka0_3e7_5, 9, .inl (fa0_3e7_5))), (a0_3e7_6, .inl (ka0_3e7_6, 9, .inl (fa0_3e7_6))), (a0_3e8, .inr (5, [.int a0_3e8_0, .int a0_3e8_1, .int a0_3e8_2, .int a0_3e8_3, .int a0_3e8_4, .ref a0_3e8_5, .ref a0_3e8_6])), (a0_3e8_5, .inl (ka0_3e8_5, 9, .inl (fa0_3e8_5))), (a0_3e8_6, .inl (ka0_3e8_6, 9, .inl (fa0_3e8_6))), (a0_3e9, .inr (5, [.int a0_3e9_0, .int a0_3e9_1, .int a0_3e9_2, .int a0_3e9_3, .int a0_3e9_4, .ref a0_3e9_5, .ref a0_3e9_6])), (a0_3e9_5, .inl (ka0_3e9_5, 9, .inl (fa0_3e9_5))), (a0_3e9_6, .inl (ka0_3e9_6, 9, .inl (fa0_3e9_6))), (a0_3e10, .inr (5, [.int a0_3e10_0, .int a0_3e10_1, .int a0_3e10_2, .int a0_3e10_3, .int a0_3e10_4, .ref a0_3e10_5, .ref a0_3e10_6])), (a0_3e10_5, .inl (ka0_3e10_5, 9, .inl (fa0_3e10_5))), (a0_3e10_6, .inl (ka0_3e10_6, 9, .inl (fa0_3e10_6))), (a0_3e11, .inr (5, [.int a0_3e11_0, .int a0_3e11_1, .int a0_3e11_2, .int a0_3e11_3, .int a0_3e11_4, .ref a0_3e11_5, .ref a0_3e11_6])), (a0_3e11_5, .inl (ka0_3e11_5, 9, .inl (fa0_3e11_5))), (a0_3e11_6, .inl (ka0_3e11_6, 9, .inl (fa0_3e11_6))), (a0_3e12, .inr (5, [.int a0_3e12_0, .int a0_3e12_1, .int a0_3e12_2, .int a0_3e12_3, .int a0_3e12_4, .ref a0_3e12_5, .ref a0_3e12_6])), (a0_3e12_5, .inl (ka0_3e12_5, 9, .inl (fa0_3e12_5))), (a0_3e12_6, .inl (ka0_3e12_6, 9, .inl (fa0_3e12_6))), (a0_3e13, .inr (5, [.int a0_3e13_0, .int a0_3e13_1, .int a0_3e13_2, .int a0_3e13_3, .int a0_3e13_4, .ref a0_3e13_5, .ref a0_3e13_6])), (a0_3e13_5, .inl (ka0_3e13_5, 9, .inl (fa0_3e13_5))), (a0_3e13_6, .inl (ka0_3e13_6, 9, .inl (fa0_3e13_6))), (a0_3e14, .inr (5, [.int a0_3e14_0, .int a0_3e14_1, .int a0_3e14_2, .int a0_3e14_3, .int a0_3e14_4, .ref a0_3e14_5, .ref a0_3e14_6])), (a0_3e14_5, .inl (ka0_3e14_5, 9, .inl (fa0_3e14_5))), (a0_3e14_6, .inl (ka0_3e14_6, 9, .inl (fa0_3e14_6))), (a0_3e15, .inr (5, [.int a0_3e15_0, .int a0_3e15_1, .int a0_3e15_2, .int a0_3e15_3, .int a0_3e15_4, .ref a0_3e15_5, .ref a0_3e15_6])), (a0_3e15_5, .inl (ka0_3e15_5, 9, .inl (fa0_3e15_5))), (a0_3e15_6, .inl (ka0_3e15_6, 9, .inl (fa0_3e15_6)))]) hP hD hCc hk1 hFc hP1 hD1 [.inl 0, .inl 1, .inl 2, .inr 1, .inr 2, .inl 5, .inr 4, .inl 7, .inl 8, .inl 9, .inl 10, .inl 11, .inl 12, .inl 13, .inl 14, .inl 15, .inl 16, .inl 17, .inl 18, .inl 19, .inr 0, .inr 3, .inr 5, .inl 23, .inl 24, .inl 25, .inl 26, .inl 27, .inl 28, .inl 29, .inl 30, .inl 31, .inl 32, .inl 33, .inl 34, .inl 35, .inl 36, .inl 37, .inl 38, .inl 39, .inl 40, .inl 41, .inl 42, .inl 43, .inl 44, .inl 45, .inl 46, .inl 47, .inl 48, .inl 49, .inl 50, .inl 51, .inl 52] (by decide +kernel) rfl (fun hP hD => ?_)
    have hc23 : Ff_X5_copyFrom a1_0.toInt a1_1.toInt a1_2.toInt a1_3.toInt a1_4.toInt (fl_A fa1_5) (fl_A fa0_3e5_5) (fl_A fa1_6) (fl_A fa0_3e5_6) = (v23na0_0.toInt, v23na0_1.toInt, v23na0_2.toInt, v23na0_3.toInt, v23na0_4.toInt, (fl_A v23nfa0_5), (fl_A v23nfa0_6)) := hraw23_0
    have hF0 := hF0.trans (fl_c7_eq hc23)
    refine lv_aload_n hx hb dX1_keep_26 rfl (lv_at hl 0 rfl) ?_
    refine lv_aload_n hx hb dX1_keep_27 rfl (lv_at hl 0 rfl) ?_
    refine va_get (D := (dC, dI)) (ci := 1) (v := .int a0_0) (C := RX1) (T := TX1) (N := 5) hx hb hts zi_X1_keep_1 hown hK hP 0 rfl rfl 0 (by decide) (hts (.fieldLink RX1 21 "WaxTurns$History" "keptCount" "I") (List.mem_cons_of_mem _ (List.mem_append_left _ (List.mem_append_left _ (List.mem_of_getElem? (i := 2) rfl))))) (fun _ h9 => h9) rfl dX1_keep_28 ?_
    refine lv_iconst (v := 1) hx hb dX1_keep_31 zk_iconst_1 ?_
    refine lv_iadd hx hb dX1_keep_32 ?_
    refine lv_topi (fun x32 ex32 => ?_)
    have qx32 : x32.toInt = a0_0.toInt + (1 : Int32).toInt := ai_add ex32 ⟨ba0_0_l, ba0_0_u⟩ ⟨zq1, zq0⟩ (by decide) (by decide)
    have bx32 : (1 : Int) ≤ x32.toInt ∧ x32.toInt ≤ 17 := ⟨by rw [qx32]; exact Int.add_le_add ba0_0_l zq1, by rw [qx32]; exact Int.add_le_add ba0_0_u zq0⟩
    have wx32 : x32.toInt = a0_0.toInt + 1 := qx32
    have hF0 := hF0.trans (fl_lt_eq (show x32.toInt = a0_0.toInt + 1 from qx32))
    refine lv_bipush (v := 16) hx hb dX1_keep_33 zk_bipush_16 ?_
    refine va_mmin hx hb (by rw [hml]; exact hl.1.symm) hown (hts (.methodLink RX1 35 Lib.Math.min.name) (List.mem_cons_of_mem _ (List.mem_append_left _ (List.mem_append_left _ (List.mem_of_getElem? (i := 3) rfl))))) (hts (.static Lib.Math.min.name) (List.mem_cons_of_mem _ (List.mem_append_left _ (List.mem_append_left _ (List.mem_of_getElem? (i := 4) rfl))))) (hts (.initialized "java/lang/Math") (List.mem_cons_of_mem _ (List.mem_append_left _ (List.mem_append_left _ (List.mem_of_getElem? (i := 5) rfl))))) (hts _ mnX1_keep) (Nat.le_of_ble_eq_true rfl) (Nat.le_of_ble_eq_true rfl) (Nat.le_of_ble_eq_true rfl) (Nat.le_of_ble_eq_true rfl) dX1_keep_35 ?_
    refine lv_topi (fun x35 ex35 => ?_)
    have qx35 := ai_mmin ex35
    have bx35 : (1 : Int) ≤ x35.toInt ∧ x35.toInt ≤ 16 := by first | exact zg_mm qx35 bx32.1 zq110 bx32.2 zq111 (by decide) (by decide) (by decide) | exact zg_mm qx35 zq110 bx32.1 zq111 bx32.2 (by decide) (by decide) (by decide) | (have h1 := bx32.1; have h2 := zq110; have h3 := bx32.2; have h4 := zq111; omega)
    have fqx35 := fl_min_eq ex35
    have hF0 := hF0.trans (fl_lt_eq (show x35.toInt = fl_min x32.toInt 16 from fqx35))
    refine va_put (D := (dC, dI)) (ci := 1) (v := .int x35) (ty := .int) (C := RX1) (T := TX1) (N := 5) hx hb hts zi_X1_keep_1 tyX1 tyX1_ok nmX1 hown hK hP hD hS 0 rfl rfl 0 (by decide) (hts (.fieldLink RX1 21 "WaxTurns$History" "keptCount" "I") (List.mem_cons_of_mem _ (List.mem_append_left _ (List.mem_append_left _ (List.mem_of_getElem? (i := 2) rfl))))) (fun _ h9 => h9) rfl (tyX1_ok 0 (by decide)) rfl rfl (Nat.le_of_ble_eq_true rfl) dX1_keep_38 (fun H locs hP hD hS => ?_)
    refine zs_0 (y := (a0, .inr (1, [.int x35, a0g_1, .int 5, .ref a0_3, a0g_4]))) hP hD rfl (fun hP hD => ?_)
    have hFe : FX = (x35.toInt, 5, (fl_nI [a0_3e0_0.toInt, a0_3e0_1.toInt, a0_3e0_2.toInt, a0_3e0_3.toInt, a0_3e0_4.toInt, a0_3e1_0.toInt, a0_3e1_1.toInt, a0_3e1_2.toInt, a0_3e1_3.toInt, a0_3e1_4.toInt, a0_3e2_0.toInt, a0_3e2_1.toInt, a0_3e2_2.toInt, a0_3e2_3.toInt, a0_3e2_4.toInt, a0_3e3_0.toInt, a0_3e3_1.toInt, a0_3e3_2.toInt, a0_3e3_3.toInt, a0_3e3_4.toInt, a0_3e4_0.toInt, a0_3e4_1.toInt, a0_3e4_2.toInt, a0_3e4_3.toInt, a0_3e4_4.toInt, v23na0_0.toInt, v23na0_1.toInt, v23na0_2.toInt, v23na0_3.toInt, v23na0_4.toInt, a0_3e6_0.toInt, a0_3e6_1.toInt, a0_3e6_2.toInt, a0_3e6_3.toInt, a0_3e6_4.toInt, a0_3e7_0.toInt, a0_3e7_1.toInt, a0_3e7_2.toInt, a0_3e7_3.toInt, a0_3e7_4.toInt, a0_3e8_0.toInt, a0_3e8_1.toInt, a0_3e8_2.toInt, a0_3e8_3.toInt, a0_3e8_4.toInt, a0_3e9_0.toInt, a0_3e9_1.toInt, a0_3e9_2.toInt, a0_3e9_3.toInt, a0_3e9_4.toInt, a0_3e10_0.toInt, a0_3e10_1.toInt, a0_3e10_2.toInt, a0_3e10_3.toInt, a0_3e10_4.toInt, a0_3e11_0.toInt, a0_3e11_1.toInt, a0_3e11_2.toInt, a0_3e11_3.toInt, a0_3e11_4.toInt, a0_3e12_0.toInt, a0_3e12_1.toInt, a0_3e12_2.toInt, a0_3e12_3.toInt, a0_3e12_4.toInt, a0_3e13_0.toInt, a0_3e13_1.toInt, a0_3e13_2.toInt, a0_3e13_3.toInt, a0_3e13_4.toInt, a0_3e14_0.toInt, a0_3e14_1.toInt, a0_3e14_2.toInt, a0_3e14_3.toInt, a0_3e14_4.toInt, a0_3e15_0.toInt, a0_3e15_1.toInt, a0_3e15_2.toInt, a0_3e15_3.toInt, a0_3e15_4.toInt]), (fl_nF [(fl_A fa0_3e0_5), (fl_A fa0_3e0_6), (fl_A fa0_3e1_5), (fl_A fa0_3e1_6), (fl_A fa0_3e2_5), (fl_A fa0_3e2_6), (fl_A fa0_3e3_5), (fl_A fa0_3e3_6), (fl_A fa0_3e4_5), (fl_A fa0_3e4_6), (fl_A v23nfa0_5), (fl_A v23nfa0_6), (fl_A fa0_3e6_5), (fl_A fa0_3e6_6), (fl_A fa0_3e7_5), (fl_A fa0_3e7_6), (fl_A fa0_3e8_5), (fl_A fa0_3e8_6), (fl_A fa0_3e9_5), (fl_A fa0_3e9_6), (fl_A fa0_3e10_5), (fl_A fa0_3e10_6), (fl_A fa0_3e11_5), (fl_A fa0_3e11_6), (fl_A fa0_3e12_5), (fl_A fa0_3e12_6), (fl_A fa0_3e13_5), (fl_A fa0_3e13_6), (fl_A fa0_3e14_5), (fl_A fa0_3e14_6), (fl_A fa0_3e15_5), (fl_A fa0_3e15_6)])) := hF0
    exact W.vret hx hb hr (fun t ht hW => ⟨⟨(), rfl, trivial, (fun i9 => ([x35, 5, a0_3e0_0, a0_3e0_1, a0_3e0_2, a0_3e0_3, a0_3e0_4, a0_3e1_0, a0_3e1_1, a0_3e1_2, a0_3e1_3, a0_3e1_4, a0_3e2_0, a0_3e2_1, a0_3e2_2, a0_3e2_3, a0_3e2_4, a0_3e3_0, a0_3e3_1, a0_3e3_2, a0_3e3_3, a0_3e3_4, a0_3e4_0, a0_3e4_1, a0_3e4_2, a0_3e4_3, a0_3e4_4, v23na0_0, v23na0_1, v23na0_2, v23na0_3, v23na0_4, a0_3e6_0, a0_3e6_1, a0_3e6_2, a0_3e6_3, a0_3e6_4, a0_3e7_0, a0_3e7_1, a0_3e7_2, a0_3e7_3, a0_3e7_4, a0_3e8_0, a0_3e8_1, a0_3e8_2, a0_3e8_3, a0_3e8_4, a0_3e9_0, a0_3e9_1, a0_3e9_2, a0_3e9_3, a0_3e9_4, a0_3e10_0, a0_3e10_1, a0_3e10_2, a0_3e10_3, a0_3e10_4, a0_3e11_0, a0_3e11_1, a0_3e11_2, a0_3e11_3, a0_3e11_4, a0_3e12_0, a0_3e12_1, a0_3e12_2, a0_3e12_3, a0_3e12_4, a0_3e13_0, a0_3e13_1, a0_3e13_2, a0_3e13_3, a0_3e13_4, a0_3e14_0, a0_3e14_1, a0_3e14_2, a0_3e14_3, a0_3e14_4, a0_3e15_0, a0_3e15_1, a0_3e15_2, a0_3e15_3, a0_3e15_4] : List Int32).getD i9 0), (fun i9 => ([fa0_3e0_5, fa0_3e0_6, fa0_3e1_5, fa0_3e1_6, fa0_3e2_5, fa0_3e2_6, fa0_3e3_5, fa0_3e3_6, fa0_3e4_5, fa0_3e4_6, v23nfa0_5, v23nfa0_6, fa0_3e6_5, fa0_3e6_6, fa0_3e7_5, fa0_3e7_6, fa0_3e8_5, fa0_3e8_6, fa0_3e9_5, fa0_3e9_6, fa0_3e10_5, fa0_3e10_6, fa0_3e11_5, fa0_3e11_6, fa0_3e12_5, fa0_3e12_6, fa0_3e13_5, fa0_3e13_6, fa0_3e14_5, fa0_3e14_6, fa0_3e15_5, fa0_3e15_6] : List (Nat → Int32)).getD i9 (fun _ => 0)), ⟨Int.le_trans (by decide) bx35.1, bx35.2⟩, ⟨Int.le_trans (by decide) zq112, Int.le_trans zq113 (by decide)⟩, ⟨ba0_3e0_1_l, ba0_3e0_1_u⟩, ⟨ba0_3e1_1_l, ba0_3e1_1_u⟩, ⟨ba0_3e2_1_l, ba0_3e2_1_u⟩, ⟨ba0_3e3_1_l, ba0_3e3_1_u⟩, ⟨ba0_3e4_1_l, ba0_3e4_1_u⟩, ⟨bv23na0_1.1, bv23na0_1.2⟩, ⟨ba0_3e6_1_l, ba0_3e6_1_u⟩, ⟨ba0_3e7_1_l, ba0_3e7_1_u⟩, ⟨ba0_3e8_1_l, ba0_3e8_1_u⟩, ⟨ba0_3e9_1_l, ba0_3e9_1_u⟩, ⟨ba0_3e10_1_l, ba0_3e10_1_u⟩, ⟨ba0_3e11_1_l, ba0_3e11_1_u⟩, ⟨ba0_3e12_1_l, ba0_3e12_1_u⟩, ⟨ba0_3e13_1_l, ba0_3e13_1_u⟩, ⟨ba0_3e14_1_l, ba0_3e14_1_u⟩, ⟨ba0_3e15_1_l, ba0_3e15_1_u⟩, (show (FX = (x35.toInt, (5 : Int32).toInt, (fl_nI [a0_3e0_0.toInt, a0_3e0_1.toInt, a0_3e0_2.toInt, a0_3e0_3.toInt, a0_3e0_4.toInt, a0_3e1_0.toInt, a0_3e1_1.toInt, a0_3e1_2.toInt, a0_3e1_3.toInt, a0_3e1_4.toInt, a0_3e2_0.toInt, a0_3e2_1.toInt, a0_3e2_2.toInt, a0_3e2_3.toInt, a0_3e2_4.toInt, a0_3e3_0.toInt, a0_3e3_1.toInt, a0_3e3_2.toInt, a0_3e3_3.toInt, a0_3e3_4.toInt, a0_3e4_0.toInt, a0_3e4_1.toInt, a0_3e4_2.toInt, a0_3e4_3.toInt, a0_3e4_4.toInt, v23na0_0.toInt, v23na0_1.toInt, v23na0_2.toInt, v23na0_3.toInt, v23na0_4.toInt, a0_3e6_0.toInt, a0_3e6_1.toInt, a0_3e6_2.toInt, a0_3e6_3.toInt, a0_3e6_4.toInt, a0_3e7_0.toInt, a0_3e7_1.toInt, a0_3e7_2.toInt, a0_3e7_3.toInt, a0_3e7_4.toInt, a0_3e8_0.toInt, a0_3e8_1.toInt, a0_3e8_2.toInt, a0_3e8_3.toInt, a0_3e8_4.toInt, a0_3e9_0.toInt, a0_3e9_1.toInt, a0_3e9_2.toInt, a0_3e9_3.toInt, a0_3e9_4.toInt, a0_3e10_0.toInt, a0_3e10_1.toInt, a0_3e10_2.toInt, a0_3e10_3.toInt, a0_3e10_4.toInt, a0_3e11_0.toInt, a0_3e11_1.toInt, a0_3e11_2.toInt, a0_3e11_3.toInt, a0_3e11_4.toInt, a0_3e12_0.toInt, a0_3e12_1.toInt, a0_3e12_2.toInt, a0_3e12_3.toInt, a0_3e12_4.toInt, a0_3e13_0.toInt, a0_3e13_1.toInt, a0_3e13_2.toInt, a0_3e13_3.toInt, a0_3e13_4.toInt, a0_3e14_0.toInt, a0_3e14_1.toInt, a0_3e14_2.toInt, a0_3e14_3.toInt, a0_3e14_4.toInt, a0_3e15_0.toInt, a0_3e15_1.toInt, a0_3e15_2.toInt, a0_3e15_3.toInt, a0_3e15_4.toInt]), (fl_nF [(fl_A fa0_3e0_5), (fl_A fa0_3e0_6), (fl_A fa0_3e1_5), (fl_A fa0_3e1_6), (fl_A fa0_3e2_5), (fl_A fa0_3e2_6), (fl_A fa0_3e3_5), (fl_A fa0_3e3_6), (fl_A fa0_3e4_5), (fl_A fa0_3e4_6), (fl_A v23nfa0_5), (fl_A v23nfa0_6), (fl_A fa0_3e6_5), (fl_A fa0_3e6_6), (fl_A fa0_3e7_5), (fl_A fa0_3e7_6), (fl_A fa0_3e8_5), (fl_A fa0_3e8_6), (fl_A fa0_3e9_5), (fl_A fa0_3e9_6), (fl_A fa0_3e10_5), (fl_A fa0_3e10_6), (fl_A fa0_3e11_5), (fl_A fa0_3e11_6), (fl_A fa0_3e12_5), (fl_A fa0_3e12_6), (fl_A fa0_3e13_5), (fl_A fa0_3e13_6), (fl_A fa0_3e14_5), (fl_A fa0_3e14_6), (fl_A fa0_3e15_5), (fl_A fa0_3e15_6)]))) from hFe), by rw [ht]; exact hP, va_K.moved hW.alike hK, hD⟩, hS.F ht⟩) hS.2.2 dX1_keep_41
  · subst hv21
    have hF0 := hF0.trans (if_neg (by decide))
    have hF0 := hF0.trans (if_neg (by decide))
    have hF0 := hF0.trans (if_neg (by decide))
    have hF0 := hF0.trans (if_neg (by decide))
    have hF0 := hF0.trans (if_neg (by decide))
    have hF0 := hF0.trans (if_neg (by decide))
    have hF0 := hF0.trans (if_pos (by decide))
    refine va_aldq hx hb hK hP 1 0 rfl rfl (i := 6) (by unfold vp_in; decide +kernel) dX1_keep_21 ?_
    refine ax_tv (.ref a0_3e6) rfl ?_
    refine lv_aload_n hx hb dX1_keep_22 rfl (lv_at hl 1 rfl) ?_
    refine zc_cutc (wc := [(a0_3e6, .inr (5, [.int a0_3e6_0, .int a0_3e6_1, .int a0_3e6_2, .int a0_3e6_3, .int a0_3e6_4, .ref a0_3e6_5, .ref a0_3e6_6])), (a1, .inr (5, [.int a1_0, .int a1_1, .int a1_2, .int a1_3, .int a1_4, .ref a1_5, .ref a1_6])), (a1_5, .inl (ka1_5, 9, .inl (fa1_5))), (a0_3e6_5, .inl (ka0_3e6_5, 9, .inl (fa0_3e6_5))), (a1_6, .inl (ka1_6, 9, .inl (fa1_6))), (a0_3e6_6, .inl (ka0_3e6_6, 9, .inl (fa0_3e6_6)))]) hP hD hS hA [23, 3, 4, 24, 6, 25] (by decide +kernel) rfl (fun hPc hDc hFc hCc => ?_)
    have hKc := hK.sub (tys' := [(ka1_5, .int), (ka0_3e6_5, .int), (ka1_6, .int), (ka0_3e6_6, .int)]) [1, 15, 3, 16] rfl
    refine va_callv (va_runV (As := [.ref a1]) (rest := []) ⟨hx, hb, hml, hown, hts⟩ (f_X5_copyFrom l dC dI H.size a0_3e6 a1 a0_3e6_0 a0_3e6_1 a0_3e6_2 a0_3e6_3 a0_3e6_4 a0_3e6_5 a0_3e6_6 a1_0 a1_1 a1_2 a1_3 a1_4 a1_5 a1_6 ka1_5 fa1_5 ka0_3e6_5 fa0_3e6_5 ka1_6 fa1_6 ka0_3e6_6 fa0_3e6_6 ba0_3e6_1_l ba0_3e6_1_u ba1_1_l ba1_1_u) (cwV 1 hts gX1_keep_X5_copyFrom rfl rfl rfl zd_X5_copyFrom ⟨Nat.le_of_ble_eq_true rfl, Nat.le_of_ble_eq_true rfl⟩) ⟨ax_blind (fun _ _ _ _ _ => trivial), zr_5 hKc hPc (q0 := 0) rfl, ax_pre hPc hKc hDc (fun _ _ => trivial)⟩ rfl rfl hl.1 rfl (lv_room (Nat.le_of_ble_eq_true rfl)) dX1_keep_23 ⟨Nat.le_of_ble_eq_true rfl, Nat.le_of_ble_eq_true rfl⟩) hS (fun q _ h => hFc q h) hFc (fun u t H locs ht hvm hw => zx_7 (fun v23na0_0 v23na0_1 v23na0_2 v23na0_3 v23na0_4 v23nfa0_5 v23nfa0_6 => zy_2 (fun bv23na0_1 hraw23_0 hB hz1 hk1 hS1 => zo hB ht hS1 (fun hP1 hK1 hD1 hS => ?_))))
    refine zc_backc (w := [(a0, .inr (1, [.int a0_0, a0g_1, .int 6, .ref a0_3, a0g_4])), (a0_3, .inl (ka0_3, 16, .inr (.inr (.inr (.inr (fun i9 => ([some a0_3e0, some a0_3e1, some a0_3e2, some a0_3e3, some a0_3e4, some a0_3e5, some a0_3e6, some a0_3e7, some a0_3e8, some a0_3e9, some a0_3e10, some a0_3e11, some a0_3e12, some a0_3e13, some a0_3e14, some a0_3e15] : List (Option Nat)).getD i9 none)))))), (a0_3e0, .inr (5, [.int a0_3e0_0, .int a0_3e0_1, .int a0_3e0_2, .int a0_3e0_3, .int a0_3e0_4, .ref a0_3e0_5, .ref a0_3e0_6])), (a1, .inr (5, [.int a1_0, .int a1_1, .int a1_2, .int a1_3, .int a1_4, .ref a1_5, .ref a1_6])), (a1_5, .inl (ka1_5, 9, .inl (fa1_5))), (a0_3e0_5, .inl (ka0_3e0_5, 9, .inl (fa0_3e0_5))), (a1_6, .inl (ka1_6, 9, .inl (fa1_6))), (a0_3e0_6, .inl (ka0_3e0_6, 9, .inl (fa0_3e0_6))), (a0_3e1, .inr (5, [.int a0_3e1_0, .int a0_3e1_1, .int a0_3e1_2, .int a0_3e1_3, .int a0_3e1_4, .ref a0_3e1_5, .ref a0_3e1_6])), (a0_3e1_5, .inl (ka0_3e1_5, 9, .inl (fa0_3e1_5))), (a0_3e1_6, .inl (ka0_3e1_6, 9, .inl (fa0_3e1_6))), (a0_3e2, .inr (5, [.int a0_3e2_0, .int a0_3e2_1, .int a0_3e2_2, .int a0_3e2_3, .int a0_3e2_4, .ref a0_3e2_5, .ref a0_3e2_6])), (a0_3e2_5, .inl (ka0_3e2_5, 9, .inl (fa0_3e2_5))), (a0_3e2_6, .inl (ka0_3e2_6, 9, .inl (fa0_3e2_6))), (a0_3e3, .inr (5, [.int a0_3e3_0, .int a0_3e3_1, .int a0_3e3_2, .int a0_3e3_3, .int a0_3e3_4, .ref a0_3e3_5, .ref a0_3e3_6])), (a0_3e3_5, .inl (ka0_3e3_5, 9, .inl (fa0_3e3_5))), (a0_3e3_6, .inl (ka0_3e3_6, 9, .inl (fa0_3e3_6))), (a0_3e4, .inr (5, [.int a0_3e4_0, .int a0_3e4_1, .int a0_3e4_2, .int a0_3e4_3, .int a0_3e4_4, .ref a0_3e4_5, .ref a0_3e4_6])), (a0_3e4_5, .inl (ka0_3e4_5, 9, .inl (fa0_3e4_5))), (a0_3e4_6, .inl (ka0_3e4_6, 9, .inl (fa0_3e4_6))), (a0_3e5, .inr (5, [.int a0_3e5_0, .int a0_3e5_1, .int a0_3e5_2, .int a0_3e5_3, .int a0_3e5_4, .ref a0_3e5_5, .ref a0_3e5_6])), (a0_3e5_5, .inl (ka0_3e5_5, 9, .inl (fa0_3e5_5))), (a0_3e5_6, .inl (ka0_3e5_6, 9, .inl (fa0_3e5_6))), (a0_3e6, .inr (5, [.int v23na0_0, .int v23na0_1, .int v23na0_2, .int v23na0_3, .int v23na0_4, .ref a0_3e6_5, .ref a0_3e6_6])), (a0_3e6_5, .inl (ka0_3e6_5, 9, .inl (v23nfa0_5))), (a0_3e6_6, .inl (ka0_3e6_6, 9, .inl (v23nfa0_6))), (a0_3e7, .inr (5, [.int a0_3e7_0, .int a0_3e7_1, .int a0_3e7_2, .int a0_3e7_3, .int a0_3e7_4, .ref a0_3e7_5, .ref a0_3e7_6])), (a0_3e7_5, .inl (ka0_3e7_5, 9, .inl (fa0_3e7_5))), (a0_3e7_6, .inl (ka0_3e7_6, 9, .inl (fa0_3e7_6))), (a0_3e8, .inr (5, [.int a0_3e8_0, .int a0_3e8_1, .int a0_3e8_2, .int a0_3e8_3, .int a0_3e8_4, .ref a0_3e8_5, .ref a0_3e8_6])), (a0_3e8_5, .inl (ka0_3e8_5, 9, .inl (fa0_3e8_5))), (a0_3e8_6, .inl (ka0_3e8_6, 9, .inl (fa0_3e8_6))), (a0_3e9, .inr (5, [.int a0_3e9_0, .int a0_3e9_1, .int a0_3e9_2, .int a0_3e9_3, .int a0_3e9_4, .ref a0_3e9_5, .ref a0_3e9_6])), (a0_3e9_5, .inl (ka0_3e9_5, 9, .inl (fa0_3e9_5))), (a0_3e9_6, .inl (ka0_3e9_6, 9, .inl (fa0_3e9_6))), (a0_3e10, .inr (5, [.int a0_3e10_0, .int a0_3e10_1, .int a0_3e10_2, .int a0_3e10_3, .int a0_3e10_4, .ref a0_3e10_5, .ref a0_3e10_6])), (a0_3e10_5, .inl (ka0_3e10_5, 9, .inl (fa0_3e10_5))), (a0_3e10_6, .inl (ka0_3e10_6, 9, .inl (fa0_3e10_6))), (a0_3e11, .inr (5, [.int a0_3e11_0, .int a0_3e11_1, .int a0_3e11_2, .int a0_3e11_3, .int a0_3e11_4, .ref a0_3e11_5, .ref a0_3e11_6])), (a0_3e11_5, .inl (ka0_3e11_5, 9, .inl (fa0_3e11_5))), (a0_3e11_6, .inl (ka0_3e11_6, 9, .inl (fa0_3e11_6))), (a0_3e12, .inr (5, [.int a0_3e12_0, .int a0_3e12_1, .int a0_3e12_2, .int a0_3e12_3, .int a0_3e12_4, .ref a0_3e12_5, .ref a0_3e12_6])), (a0_3e12_5, .inl (ka0_3e12_5, 9, .inl (fa0_3e12_5))), (a0_3e12_6, .inl (ka0_3e12_6, 9, .inl (fa0_3e12_6))), (a0_3e13, .inr (5, [.int a0_3e13_0, .int a0_3e13_1, .int a0_3e13_2, .int a0_3e13_3, .int a0_3e13_4, .ref a0_3e13_5, .ref a0_3e13_6])), (a0_3e13_5, .inl (ka0_3e13_5, 9, .inl (fa0_3e13_5))), (a0_3e13_6, .inl (ka0_3e13_6, 9, .inl (fa0_3e13_6))), (a0_3e14, .inr (5, [.int a0_3e14_0, .int a0_3e14_1, .int a0_3e14_2, .int a0_3e14_3, .int a0_3e14_4, .ref a0_3e14_5, .ref a0_3e14_6])), (a0_3e14_5, .inl (ka0_3e14_5, 9, .inl (fa0_3e14_5))), (a0_3e14_6, .inl (ka0_3e14_6, 9, .inl (fa0_3e14_6))), (a0_3e15, .inr (5, [.int a0_3e15_0, .int a0_3e15_1, .int a0_3e15_2, .int a0_3e15_3, .int a0_3e15_4, .ref a0_3e15_5, .ref a0_3e15_6])), (a0_3e15_5, .inl (ka0_3e15_5, 9, .inl (fa0_3e15_5))), (a0_3e15_6, .inl (ka0_3e15_6, 9, .inl (fa0_3e15_6)))]) hP hD hCc hk1 hFc hP1 hD1 [.inl 0, .inl 1, .inl 2, .inr 1, .inr 2, .inl 5, .inr 4, .inl 7, .inl 8, .inl 9, .inl 10, .inl 11, .inl 12, .inl 13, .inl 14, .inl 15, .inl 16, .inl 17, .inl 18, .inl 19, .inl 20, .inl 21, .inl 22, .inr 0, .inr 3, .inr 5, .inl 26, .inl 27, .inl 28, .inl 29, .inl 30, .inl 31, .inl 32, .inl 33, .inl 34, .inl 35, .inl 36, .inl 37, .inl 38, .inl 39, .inl 40, .inl 41, .inl 42, .inl 43, .inl 44, .inl 45, .inl 46, .inl 47, .inl 48, .inl 49, .inl 50, .inl 51, .inl 52] (by decide +kernel) rfl (fun hP hD => ?_)
    have hc23 : Ff_X5_copyFrom a1_0.toInt a1_1.toInt a1_2.toInt a1_3.toInt a1_4.toInt (fl_A fa1_5) (fl_A fa0_3e6_5) (fl_A fa1_6) (fl_A fa0_3e6_6) = (v23na0_0.toInt, v23na0_1.toInt, v23na0_2.toInt, v23na0_3.toInt, v23na0_4.toInt, (fl_A v23nfa0_5), (fl_A v23nfa0_6)) := hraw23_0
    have hF0 := hF0.trans (fl_c7_eq hc23)
    refine lv_aload_n hx hb dX1_keep_26 rfl (lv_at hl 0 rfl) ?_
    refine lv_aload_n hx hb dX1_keep_27 rfl (lv_at hl 0 rfl) ?_
    refine va_get (D := (dC, dI)) (ci := 1) (v := .int a0_0) (C := RX1) (T := TX1) (N := 5) hx hb hts zi_X1_keep_1 hown hK hP 0 rfl rfl 0 (by decide) (hts (.fieldLink RX1 21 "WaxTurns$History" "keptCount" "I") (List.mem_cons_of_mem _ (List.mem_append_left _ (List.mem_append_left _ (List.mem_of_getElem? (i := 2) rfl))))) (fun _ h9 => h9) rfl dX1_keep_28 ?_
    refine lv_iconst (v := 1) hx hb dX1_keep_31 zk_iconst_1 ?_
    refine lv_iadd hx hb dX1_keep_32 ?_
    refine lv_topi (fun x32 ex32 => ?_)
    have qx32 : x32.toInt = a0_0.toInt + (1 : Int32).toInt := ai_add ex32 ⟨ba0_0_l, ba0_0_u⟩ ⟨zq1, zq0⟩ (by decide) (by decide)
    have bx32 : (1 : Int) ≤ x32.toInt ∧ x32.toInt ≤ 17 := ⟨by rw [qx32]; exact Int.add_le_add ba0_0_l zq1, by rw [qx32]; exact Int.add_le_add ba0_0_u zq0⟩
    have wx32 : x32.toInt = a0_0.toInt + 1 := qx32
    have hF0 := hF0.trans (fl_lt_eq (show x32.toInt = a0_0.toInt + 1 from qx32))
    refine lv_bipush (v := 16) hx hb dX1_keep_33 zk_bipush_16 ?_
    refine va_mmin hx hb (by rw [hml]; exact hl.1.symm) hown (hts (.methodLink RX1 35 Lib.Math.min.name) (List.mem_cons_of_mem _ (List.mem_append_left _ (List.mem_append_left _ (List.mem_of_getElem? (i := 3) rfl))))) (hts (.static Lib.Math.min.name) (List.mem_cons_of_mem _ (List.mem_append_left _ (List.mem_append_left _ (List.mem_of_getElem? (i := 4) rfl))))) (hts (.initialized "java/lang/Math") (List.mem_cons_of_mem _ (List.mem_append_left _ (List.mem_append_left _ (List.mem_of_getElem? (i := 5) rfl))))) (hts _ mnX1_keep) (Nat.le_of_ble_eq_true rfl) (Nat.le_of_ble_eq_true rfl) (Nat.le_of_ble_eq_true rfl) (Nat.le_of_ble_eq_true rfl) dX1_keep_35 ?_
    refine lv_topi (fun x35 ex35 => ?_)
    have qx35 := ai_mmin ex35
    have bx35 : (1 : Int) ≤ x35.toInt ∧ x35.toInt ≤ 16 := by first | exact zg_mm qx35 bx32.1 zq110 bx32.2 zq111 (by decide) (by decide) (by decide) | exact zg_mm qx35 zq110 bx32.1 zq111 bx32.2 (by decide) (by decide) (by decide) | (have h1 := bx32.1; have h2 := zq110; have h3 := bx32.2; have h4 := zq111; omega)
    have fqx35 := fl_min_eq ex35
    have hF0 := hF0.trans (fl_lt_eq (show x35.toInt = fl_min x32.toInt 16 from fqx35))
    refine va_put (D := (dC, dI)) (ci := 1) (v := .int x35) (ty := .int) (C := RX1) (T := TX1) (N := 5) hx hb hts zi_X1_keep_1 tyX1 tyX1_ok nmX1 hown hK hP hD hS 0 rfl rfl 0 (by decide) (hts (.fieldLink RX1 21 "WaxTurns$History" "keptCount" "I") (List.mem_cons_of_mem _ (List.mem_append_left _ (List.mem_append_left _ (List.mem_of_getElem? (i := 2) rfl))))) (fun _ h9 => h9) rfl (tyX1_ok 0 (by decide)) rfl rfl (Nat.le_of_ble_eq_true rfl) dX1_keep_38 (fun H locs hP hD hS => ?_)
    refine zs_0 (y := (a0, .inr (1, [.int x35, a0g_1, .int 6, .ref a0_3, a0g_4]))) hP hD rfl (fun hP hD => ?_)
    have hFe : FX = (x35.toInt, 6, (fl_nI [a0_3e0_0.toInt, a0_3e0_1.toInt, a0_3e0_2.toInt, a0_3e0_3.toInt, a0_3e0_4.toInt, a0_3e1_0.toInt, a0_3e1_1.toInt, a0_3e1_2.toInt, a0_3e1_3.toInt, a0_3e1_4.toInt, a0_3e2_0.toInt, a0_3e2_1.toInt, a0_3e2_2.toInt, a0_3e2_3.toInt, a0_3e2_4.toInt, a0_3e3_0.toInt, a0_3e3_1.toInt, a0_3e3_2.toInt, a0_3e3_3.toInt, a0_3e3_4.toInt, a0_3e4_0.toInt, a0_3e4_1.toInt, a0_3e4_2.toInt, a0_3e4_3.toInt, a0_3e4_4.toInt, a0_3e5_0.toInt, a0_3e5_1.toInt, a0_3e5_2.toInt, a0_3e5_3.toInt, a0_3e5_4.toInt, v23na0_0.toInt, v23na0_1.toInt, v23na0_2.toInt, v23na0_3.toInt, v23na0_4.toInt, a0_3e7_0.toInt, a0_3e7_1.toInt, a0_3e7_2.toInt, a0_3e7_3.toInt, a0_3e7_4.toInt, a0_3e8_0.toInt, a0_3e8_1.toInt, a0_3e8_2.toInt, a0_3e8_3.toInt, a0_3e8_4.toInt, a0_3e9_0.toInt, a0_3e9_1.toInt, a0_3e9_2.toInt, a0_3e9_3.toInt, a0_3e9_4.toInt, a0_3e10_0.toInt, a0_3e10_1.toInt, a0_3e10_2.toInt, a0_3e10_3.toInt, a0_3e10_4.toInt, a0_3e11_0.toInt, a0_3e11_1.toInt, a0_3e11_2.toInt, a0_3e11_3.toInt, a0_3e11_4.toInt, a0_3e12_0.toInt, a0_3e12_1.toInt, a0_3e12_2.toInt, a0_3e12_3.toInt, a0_3e12_4.toInt, a0_3e13_0.toInt, a0_3e13_1.toInt, a0_3e13_2.toInt, a0_3e13_3.toInt, a0_3e13_4.toInt, a0_3e14_0.toInt, a0_3e14_1.toInt, a0_3e14_2.toInt, a0_3e14_3.toInt, a0_3e14_4.toInt, a0_3e15_0.toInt, a0_3e15_1.toInt, a0_3e15_2.toInt, a0_3e15_3.toInt, a0_3e15_4.toInt]), (fl_nF [(fl_A fa0_3e0_5), (fl_A fa0_3e0_6), (fl_A fa0_3e1_5), (fl_A fa0_3e1_6), (fl_A fa0_3e2_5), (fl_A fa0_3e2_6), (fl_A fa0_3e3_5), (fl_A fa0_3e3_6), (fl_A fa0_3e4_5), (fl_A fa0_3e4_6), (fl_A fa0_3e5_5), (fl_A fa0_3e5_6), (fl_A v23nfa0_5), (fl_A v23nfa0_6), (fl_A fa0_3e7_5), (fl_A fa0_3e7_6), (fl_A fa0_3e8_5), (fl_A fa0_3e8_6), (fl_A fa0_3e9_5), (fl_A fa0_3e9_6), (fl_A fa0_3e10_5), (fl_A fa0_3e10_6), (fl_A fa0_3e11_5), (fl_A fa0_3e11_6), (fl_A fa0_3e12_5), (fl_A fa0_3e12_6), (fl_A fa0_3e13_5), (fl_A fa0_3e13_6), (fl_A fa0_3e14_5), (fl_A fa0_3e14_6), (fl_A fa0_3e15_5), (fl_A fa0_3e15_6)])) := hF0
    exact W.vret hx hb hr (fun t ht hW => ⟨⟨(), rfl, trivial, (fun i9 => ([x35, 6, a0_3e0_0, a0_3e0_1, a0_3e0_2, a0_3e0_3, a0_3e0_4, a0_3e1_0, a0_3e1_1, a0_3e1_2, a0_3e1_3, a0_3e1_4, a0_3e2_0, a0_3e2_1, a0_3e2_2, a0_3e2_3, a0_3e2_4, a0_3e3_0, a0_3e3_1, a0_3e3_2, a0_3e3_3, a0_3e3_4, a0_3e4_0, a0_3e4_1, a0_3e4_2, a0_3e4_3, a0_3e4_4, a0_3e5_0, a0_3e5_1, a0_3e5_2, a0_3e5_3, a0_3e5_4, v23na0_0, v23na0_1, v23na0_2, v23na0_3, v23na0_4, a0_3e7_0, a0_3e7_1, a0_3e7_2, a0_3e7_3, a0_3e7_4, a0_3e8_0, a0_3e8_1, a0_3e8_2, a0_3e8_3, a0_3e8_4, a0_3e9_0, a0_3e9_1, a0_3e9_2, a0_3e9_3, a0_3e9_4, a0_3e10_0, a0_3e10_1, a0_3e10_2, a0_3e10_3, a0_3e10_4, a0_3e11_0, a0_3e11_1, a0_3e11_2, a0_3e11_3, a0_3e11_4, a0_3e12_0, a0_3e12_1, a0_3e12_2, a0_3e12_3, a0_3e12_4, a0_3e13_0, a0_3e13_1, a0_3e13_2, a0_3e13_3, a0_3e13_4, a0_3e14_0, a0_3e14_1, a0_3e14_2, a0_3e14_3, a0_3e14_4, a0_3e15_0, a0_3e15_1, a0_3e15_2, a0_3e15_3, a0_3e15_4] : List Int32).getD i9 0), (fun i9 => ([fa0_3e0_5, fa0_3e0_6, fa0_3e1_5, fa0_3e1_6, fa0_3e2_5, fa0_3e2_6, fa0_3e3_5, fa0_3e3_6, fa0_3e4_5, fa0_3e4_6, fa0_3e5_5, fa0_3e5_6, v23nfa0_5, v23nfa0_6, fa0_3e7_5, fa0_3e7_6, fa0_3e8_5, fa0_3e8_6, fa0_3e9_5, fa0_3e9_6, fa0_3e10_5, fa0_3e10_6, fa0_3e11_5, fa0_3e11_6, fa0_3e12_5, fa0_3e12_6, fa0_3e13_5, fa0_3e13_6, fa0_3e14_5, fa0_3e14_6, fa0_3e15_5, fa0_3e15_6] : List (Nat → Int32)).getD i9 (fun _ => 0)), ⟨Int.le_trans (by decide) bx35.1, bx35.2⟩, ⟨Int.le_trans (by decide) zq15, Int.le_trans zq16 (by decide)⟩, ⟨ba0_3e0_1_l, ba0_3e0_1_u⟩, ⟨ba0_3e1_1_l, ba0_3e1_1_u⟩, ⟨ba0_3e2_1_l, ba0_3e2_1_u⟩, ⟨ba0_3e3_1_l, ba0_3e3_1_u⟩, ⟨ba0_3e4_1_l, ba0_3e4_1_u⟩, ⟨ba0_3e5_1_l, ba0_3e5_1_u⟩, ⟨bv23na0_1.1, bv23na0_1.2⟩, ⟨ba0_3e7_1_l, ba0_3e7_1_u⟩, ⟨ba0_3e8_1_l, ba0_3e8_1_u⟩, ⟨ba0_3e9_1_l, ba0_3e9_1_u⟩, ⟨ba0_3e10_1_l, ba0_3e10_1_u⟩, ⟨ba0_3e11_1_l, ba0_3e11_1_u⟩, ⟨ba0_3e12_1_l, ba0_3e12_1_u⟩, ⟨ba0_3e13_1_l, ba0_3e13_1_u⟩, ⟨ba0_3e14_1_l, ba0_3e14_1_u⟩, ⟨ba0_3e15_1_l, ba0_3e15_1_u⟩, (show (FX = (x35.toInt, (6 : Int32).toInt, (fl_nI [a0_3e0_0.toInt, a0_3e0_1.toInt, a0_3e0_2.toInt, a0_3e0_3.toInt, a0_3e0_4.toInt, a0_3e1_0.toInt, a0_3e1_1.toInt, a0_3e1_2.toInt, a0_3e1_3.toInt, a0_3e1_4.toInt, a0_3e2_0.toInt, a0_3e2_1.toInt, a0_3e2_2.toInt, a0_3e2_3.toInt, a0_3e2_4.toInt, a0_3e3_0.toInt, a0_3e3_1.toInt, a0_3e3_2.toInt, a0_3e3_3.toInt, a0_3e3_4.toInt, a0_3e4_0.toInt, a0_3e4_1.toInt, a0_3e4_2.toInt, a0_3e4_3.toInt, a0_3e4_4.toInt, a0_3e5_0.toInt, a0_3e5_1.toInt, a0_3e5_2.toInt, a0_3e5_3.toInt, a0_3e5_4.toInt, v23na0_0.toInt, v23na0_1.toInt, v23na0_2.toInt, v23na0_3.toInt, v23na0_4.toInt, a0_3e7_0.toInt, a0_3e7_1.toInt, a0_3e7_2.toInt, a0_3e7_3.toInt, a0_3e7_4.toInt, a0_3e8_0.toInt, a0_3e8_1.toInt, a0_3e8_2.toInt, a0_3e8_3.toInt, a0_3e8_4.toInt, a0_3e9_0.toInt, a0_3e9_1.toInt, a0_3e9_2.toInt, a0_3e9_3.toInt, a0_3e9_4.toInt, a0_3e10_0.toInt, a0_3e10_1.toInt, a0_3e10_2.toInt, a0_3e10_3.toInt, a0_3e10_4.toInt, a0_3e11_0.toInt, a0_3e11_1.toInt, a0_3e11_2.toInt, a0_3e11_3.toInt, a0_3e11_4.toInt, a0_3e12_0.toInt, a0_3e12_1.toInt, a0_3e12_2.toInt, a0_3e12_3.toInt, a0_3e12_4.toInt, a0_3e13_0.toInt, a0_3e13_1.toInt, a0_3e13_2.toInt, a0_3e13_3.toInt, a0_3e13_4.toInt, a0_3e14_0.toInt, a0_3e14_1.toInt, a0_3e14_2.toInt, a0_3e14_3.toInt, a0_3e14_4.toInt, a0_3e15_0.toInt, a0_3e15_1.toInt, a0_3e15_2.toInt, a0_3e15_3.toInt, a0_3e15_4.toInt]), (fl_nF [(fl_A fa0_3e0_5), (fl_A fa0_3e0_6), (fl_A fa0_3e1_5), (fl_A fa0_3e1_6), (fl_A fa0_3e2_5), (fl_A fa0_3e2_6), (fl_A fa0_3e3_5), (fl_A fa0_3e3_6), (fl_A fa0_3e4_5), (fl_A fa0_3e4_6), (fl_A fa0_3e5_5), (fl_A fa0_3e5_6), (fl_A v23nfa0_5), (fl_A v23nfa0_6), (fl_A fa0_3e7_5), (fl_A fa0_3e7_6), (fl_A fa0_3e8_5), (fl_A fa0_3e8_6), (fl_A fa0_3e9_5), (fl_A fa0_3e9_6), (fl_A fa0_3e10_5), (fl_A fa0_3e10_6), (fl_A fa0_3e11_5), (fl_A fa0_3e11_6), (fl_A fa0_3e12_5), (fl_A fa0_3e12_6), (fl_A fa0_3e13_5), (fl_A fa0_3e13_6), (fl_A fa0_3e14_5), (fl_A fa0_3e14_6), (fl_A fa0_3e15_5), (fl_A fa0_3e15_6)]))) from hFe), by rw [ht]; exact hP, va_K.moved hW.alike hK, hD⟩, hS.F ht⟩) hS.2.2 dX1_keep_41
  · subst hv21
    have hF0 := hF0.trans (if_neg (by decide))
    have hF0 := hF0.trans (if_neg (by decide))
    have hF0 := hF0.trans (if_neg (by decide))
    have hF0 := hF0.trans (if_neg (by decide))
    have hF0 := hF0.trans (if_neg (by decide))
    have hF0 := hF0.trans (if_neg (by decide))
    have hF0 := hF0.trans (if_neg (by decide))
    have hF0 := hF0.trans (if_pos (by decide))
    refine va_aldq hx hb hK hP 1 0 rfl rfl (i := 7) (by unfold vp_in; decide +kernel) dX1_keep_21 ?_
    refine ax_tv (.ref a0_3e7) rfl ?_
    refine lv_aload_n hx hb dX1_keep_22 rfl (lv_at hl 1 rfl) ?_
    refine zc_cutc (wc := [(a0_3e7, .inr (5, [.int a0_3e7_0, .int a0_3e7_1, .int a0_3e7_2, .int a0_3e7_3, .int a0_3e7_4, .ref a0_3e7_5, .ref a0_3e7_6])), (a1, .inr (5, [.int a1_0, .int a1_1, .int a1_2, .int a1_3, .int a1_4, .ref a1_5, .ref a1_6])), (a1_5, .inl (ka1_5, 9, .inl (fa1_5))), (a0_3e7_5, .inl (ka0_3e7_5, 9, .inl (fa0_3e7_5))), (a1_6, .inl (ka1_6, 9, .inl (fa1_6))), (a0_3e7_6, .inl (ka0_3e7_6, 9, .inl (fa0_3e7_6)))]) hP hD hS hA [26, 3, 4, 27, 6, 28] (by decide +kernel) rfl (fun hPc hDc hFc hCc => ?_)
    have hKc := hK.sub (tys' := [(ka1_5, .int), (ka0_3e7_5, .int), (ka1_6, .int), (ka0_3e7_6, .int)]) [1, 17, 3, 18] rfl
    refine va_callv (va_runV (As := [.ref a1]) (rest := []) ⟨hx, hb, hml, hown, hts⟩ (f_X5_copyFrom l dC dI H.size a0_3e7 a1 a0_3e7_0 a0_3e7_1 a0_3e7_2 a0_3e7_3 a0_3e7_4 a0_3e7_5 a0_3e7_6 a1_0 a1_1 a1_2 a1_3 a1_4 a1_5 a1_6 ka1_5 fa1_5 ka0_3e7_5 fa0_3e7_5 ka1_6 fa1_6 ka0_3e7_6 fa0_3e7_6 ba0_3e7_1_l ba0_3e7_1_u ba1_1_l ba1_1_u) (cwV 1 hts gX1_keep_X5_copyFrom rfl rfl rfl zd_X5_copyFrom ⟨Nat.le_of_ble_eq_true rfl, Nat.le_of_ble_eq_true rfl⟩) ⟨ax_blind (fun _ _ _ _ _ => trivial), zr_5 hKc hPc (q0 := 0) rfl, ax_pre hPc hKc hDc (fun _ _ => trivial)⟩ rfl rfl hl.1 rfl (lv_room (Nat.le_of_ble_eq_true rfl)) dX1_keep_23 ⟨Nat.le_of_ble_eq_true rfl, Nat.le_of_ble_eq_true rfl⟩) hS (fun q _ h => hFc q h) hFc (fun u t H locs ht hvm hw => zx_7 (fun v23na0_0 v23na0_1 v23na0_2 v23na0_3 v23na0_4 v23nfa0_5 v23nfa0_6 => zy_2 (fun bv23na0_1 hraw23_0 hB hz1 hk1 hS1 => zo hB ht hS1 (fun hP1 hK1 hD1 hS => ?_))))
    refine zc_backc (w := [(a0, .inr (1, [.int a0_0, a0g_1, .int 7, .ref a0_3, a0g_4])), (a0_3, .inl (ka0_3, 16, .inr (.inr (.inr (.inr (fun i9 => ([some a0_3e0, some a0_3e1, some a0_3e2, some a0_3e3, some a0_3e4, some a0_3e5, some a0_3e6, some a0_3e7, some a0_3e8, some a0_3e9, some a0_3e10, some a0_3e11, some a0_3e12, some a0_3e13, some a0_3e14, some a0_3e15] : List (Option Nat)).getD i9 none)))))), (a0_3e0, .inr (5, [.int a0_3e0_0, .int a0_3e0_1, .int a0_3e0_2, .int a0_3e0_3, .int a0_3e0_4, .ref a0_3e0_5, .ref a0_3e0_6])), (a1, .inr (5, [.int a1_0, .int a1_1, .int a1_2, .int a1_3, .int a1_4, .ref a1_5, .ref a1_6])), (a1_5, .inl (ka1_5, 9, .inl (fa1_5))), (a0_3e0_5, .inl (ka0_3e0_5, 9, .inl (fa0_3e0_5))), (a1_6, .inl (ka1_6, 9, .inl (fa1_6))), (a0_3e0_6, .inl (ka0_3e0_6, 9, .inl (fa0_3e0_6))), (a0_3e1, .inr (5, [.int a0_3e1_0, .int a0_3e1_1, .int a0_3e1_2, .int a0_3e1_3, .int a0_3e1_4, .ref a0_3e1_5, .ref a0_3e1_6])), (a0_3e1_5, .inl (ka0_3e1_5, 9, .inl (fa0_3e1_5))), (a0_3e1_6, .inl (ka0_3e1_6, 9, .inl (fa0_3e1_6))), (a0_3e2, .inr (5, [.int a0_3e2_0, .int a0_3e2_1, .int a0_3e2_2, .int a0_3e2_3, .int a0_3e2_4, .ref a0_3e2_5, .ref a0_3e2_6])), (a0_3e2_5, .inl (ka0_3e2_5, 9, .inl (fa0_3e2_5))), (a0_3e2_6, .inl (ka0_3e2_6, 9, .inl (fa0_3e2_6))), (a0_3e3, .inr (5, [.int a0_3e3_0, .int a0_3e3_1, .int a0_3e3_2, .int a0_3e3_3, .int a0_3e3_4, .ref a0_3e3_5, .ref a0_3e3_6])), (a0_3e3_5, .inl (ka0_3e3_5, 9, .inl (fa0_3e3_5))), (a0_3e3_6, .inl (ka0_3e3_6, 9, .inl (fa0_3e3_6))), (a0_3e4, .inr (5, [.int a0_3e4_0, .int a0_3e4_1, .int a0_3e4_2, .int a0_3e4_3, .int a0_3e4_4, .ref a0_3e4_5, .ref a0_3e4_6])), (a0_3e4_5, .inl (ka0_3e4_5, 9, .inl (fa0_3e4_5))), (a0_3e4_6, .inl (ka0_3e4_6, 9, .inl (fa0_3e4_6))), (a0_3e5, .inr (5, [.int a0_3e5_0, .int a0_3e5_1, .int a0_3e5_2, .int a0_3e5_3, .int a0_3e5_4, .ref a0_3e5_5, .ref a0_3e5_6])), (a0_3e5_5, .inl (ka0_3e5_5, 9, .inl (fa0_3e5_5))), (a0_3e5_6, .inl (ka0_3e5_6, 9, .inl (fa0_3e5_6))), (a0_3e6, .inr (5, [.int a0_3e6_0, .int a0_3e6_1, .int a0_3e6_2, .int a0_3e6_3, .int a0_3e6_4, .ref a0_3e6_5, .ref a0_3e6_6])), (a0_3e6_5, .inl (ka0_3e6_5, 9, .inl (fa0_3e6_5))), (a0_3e6_6, .inl (ka0_3e6_6, 9, .inl (fa0_3e6_6))), (a0_3e7, .inr (5, [.int v23na0_0, .int v23na0_1, .int v23na0_2, .int v23na0_3, .int v23na0_4, .ref a0_3e7_5, .ref a0_3e7_6])), (a0_3e7_5, .inl (ka0_3e7_5, 9, .inl (v23nfa0_5))), (a0_3e7_6, .inl (ka0_3e7_6, 9, .inl (v23nfa0_6))), (a0_3e8, .inr (5, [.int a0_3e8_0, .int a0_3e8_1, .int a0_3e8_2, .int a0_3e8_3, .int a0_3e8_4, .ref a0_3e8_5, .ref a0_3e8_6])), (a0_3e8_5, .inl (ka0_3e8_5, 9, .inl (fa0_3e8_5))), (a0_3e8_6, .inl (ka0_3e8_6, 9, .inl (fa0_3e8_6))), (a0_3e9, .inr (5, [.int a0_3e9_0, .int a0_3e9_1, .int a0_3e9_2, .int a0_3e9_3, .int a0_3e9_4, .ref a0_3e9_5, .ref a0_3e9_6])), (a0_3e9_5, .inl (ka0_3e9_5, 9, .inl (fa0_3e9_5))), (a0_3e9_6, .inl (ka0_3e9_6, 9, .inl (fa0_3e9_6))), (a0_3e10, .inr (5, [.int a0_3e10_0, .int a0_3e10_1, .int a0_3e10_2, .int a0_3e10_3, .int a0_3e10_4, .ref a0_3e10_5, .ref a0_3e10_6])), (a0_3e10_5, .inl (ka0_3e10_5, 9, .inl (fa0_3e10_5))), (a0_3e10_6, .inl (ka0_3e10_6, 9, .inl (fa0_3e10_6))), (a0_3e11, .inr (5, [.int a0_3e11_0, .int a0_3e11_1, .int a0_3e11_2, .int a0_3e11_3, .int a0_3e11_4, .ref a0_3e11_5, .ref a0_3e11_6])), (a0_3e11_5, .inl (ka0_3e11_5, 9, .inl (fa0_3e11_5))), (a0_3e11_6, .inl (ka0_3e11_6, 9, .inl (fa0_3e11_6))), (a0_3e12, .inr (5, [.int a0_3e12_0, .int a0_3e12_1, .int a0_3e12_2, .int a0_3e12_3, .int a0_3e12_4, .ref a0_3e12_5, .ref a0_3e12_6])), (a0_3e12_5, .inl (ka0_3e12_5, 9, .inl (fa0_3e12_5))), (a0_3e12_6, .inl (ka0_3e12_6, 9, .inl (fa0_3e12_6))), (a0_3e13, .inr (5, [.int a0_3e13_0, .int a0_3e13_1, .int a0_3e13_2, .int a0_3e13_3, .int a0_3e13_4, .ref a0_3e13_5, .ref a0_3e13_6])), (a0_3e13_5, .inl (ka0_3e13_5, 9, .inl (fa0_3e13_5))), (a0_3e13_6, .inl (ka0_3e13_6, 9, .inl (fa0_3e13_6))), (a0_3e14, .inr (5, [.int a0_3e14_0, .int a0_3e14_1, .int a0_3e14_2, .int a0_3e14_3, .int a0_3e14_4, .ref a0_3e14_5, .ref a0_3e14_6])), (a0_3e14_5, .inl (ka0_3e14_5, 9, .inl (fa0_3e14_5))), (a0_3e14_6, .inl (ka0_3e14_6, 9, .inl (fa0_3e14_6))), (a0_3e15, .inr (5, [.int a0_3e15_0, .int a0_3e15_1, .int a0_3e15_2, .int a0_3e15_3, .int a0_3e15_4, .ref a0_3e15_5, .ref a0_3e15_6])), (a0_3e15_5, .inl (ka0_3e15_5, 9, .inl (fa0_3e15_5))), (a0_3e15_6, .inl (ka0_3e15_6, 9, .inl (fa0_3e15_6)))]) hP hD hCc hk1 hFc hP1 hD1 [.inl 0, .inl 1, .inl 2, .inr 1, .inr 2, .inl 5, .inr 4, .inl 7, .inl 8, .inl 9, .inl 10, .inl 11, .inl 12, .inl 13, .inl 14, .inl 15, .inl 16, .inl 17, .inl 18, .inl 19, .inl 20, .inl 21, .inl 22, .inl 23, .inl 24, .inl 25, .inr 0, .inr 3, .inr 5, .inl 29, .inl 30, .inl 31, .inl 32, .inl 33, .inl 34, .inl 35, .inl 36, .inl 37, .inl 38, .inl 39, .inl 40, .inl 41, .inl 42, .inl 43, .inl 44, .inl 45, .inl 46, .inl 47, .inl 48, .inl 49, .inl 50, .inl 51, .inl 52] (by decide +kernel) rfl (fun hP hD => ?_)
    have hc23 : Ff_X5_copyFrom a1_0.toInt a1_1.toInt a1_2.toInt a1_3.toInt a1_4.toInt (fl_A fa1_5) (fl_A fa0_3e7_5) (fl_A fa1_6) (fl_A fa0_3e7_6) = (v23na0_0.toInt, v23na0_1.toInt, v23na0_2.toInt, v23na0_3.toInt, v23na0_4.toInt, (fl_A v23nfa0_5), (fl_A v23nfa0_6)) := hraw23_0
    have hF0 := hF0.trans (fl_c7_eq hc23)
    refine lv_aload_n hx hb dX1_keep_26 rfl (lv_at hl 0 rfl) ?_
    refine lv_aload_n hx hb dX1_keep_27 rfl (lv_at hl 0 rfl) ?_
    refine va_get (D := (dC, dI)) (ci := 1) (v := .int a0_0) (C := RX1) (T := TX1) (N := 5) hx hb hts zi_X1_keep_1 hown hK hP 0 rfl rfl 0 (by decide) (hts (.fieldLink RX1 21 "WaxTurns$History" "keptCount" "I") (List.mem_cons_of_mem _ (List.mem_append_left _ (List.mem_append_left _ (List.mem_of_getElem? (i := 2) rfl))))) (fun _ h9 => h9) rfl dX1_keep_28 ?_
    refine lv_iconst (v := 1) hx hb dX1_keep_31 zk_iconst_1 ?_
    refine lv_iadd hx hb dX1_keep_32 ?_
    refine lv_topi (fun x32 ex32 => ?_)
    have qx32 : x32.toInt = a0_0.toInt + (1 : Int32).toInt := ai_add ex32 ⟨ba0_0_l, ba0_0_u⟩ ⟨zq1, zq0⟩ (by decide) (by decide)
    have bx32 : (1 : Int) ≤ x32.toInt ∧ x32.toInt ≤ 17 := ⟨by rw [qx32]; exact Int.add_le_add ba0_0_l zq1, by rw [qx32]; exact Int.add_le_add ba0_0_u zq0⟩
    have wx32 : x32.toInt = a0_0.toInt + 1 := qx32
    have hF0 := hF0.trans (fl_lt_eq (show x32.toInt = a0_0.toInt + 1 from qx32))
    refine lv_bipush (v := 16) hx hb dX1_keep_33 zk_bipush_16 ?_
    refine va_mmin hx hb (by rw [hml]; exact hl.1.symm) hown (hts (.methodLink RX1 35 Lib.Math.min.name) (List.mem_cons_of_mem _ (List.mem_append_left _ (List.mem_append_left _ (List.mem_of_getElem? (i := 3) rfl))))) (hts (.static Lib.Math.min.name) (List.mem_cons_of_mem _ (List.mem_append_left _ (List.mem_append_left _ (List.mem_of_getElem? (i := 4) rfl))))) (hts (.initialized "java/lang/Math") (List.mem_cons_of_mem _ (List.mem_append_left _ (List.mem_append_left _ (List.mem_of_getElem? (i := 5) rfl))))) (hts _ mnX1_keep) (Nat.le_of_ble_eq_true rfl) (Nat.le_of_ble_eq_true rfl) (Nat.le_of_ble_eq_true rfl) (Nat.le_of_ble_eq_true rfl) dX1_keep_35 ?_
    refine lv_topi (fun x35 ex35 => ?_)
    have qx35 := ai_mmin ex35
    have bx35 : (1 : Int) ≤ x35.toInt ∧ x35.toInt ≤ 16 := by first | exact zg_mm qx35 bx32.1 zq110 bx32.2 zq111 (by decide) (by decide) (by decide) | exact zg_mm qx35 zq110 bx32.1 zq111 bx32.2 (by decide) (by decide) (by decide) | (have h1 := bx32.1; have h2 := zq110; have h3 := bx32.2; have h4 := zq111; omega)
    have fqx35 := fl_min_eq ex35
    have hF0 := hF0.trans (fl_lt_eq (show x35.toInt = fl_min x32.toInt 16 from fqx35))
    refine va_put (D := (dC, dI)) (ci := 1) (v := .int x35) (ty := .int) (C := RX1) (T := TX1) (N := 5) hx hb hts zi_X1_keep_1 tyX1 tyX1_ok nmX1 hown hK hP hD hS 0 rfl rfl 0 (by decide) (hts (.fieldLink RX1 21 "WaxTurns$History" "keptCount" "I") (List.mem_cons_of_mem _ (List.mem_append_left _ (List.mem_append_left _ (List.mem_of_getElem? (i := 2) rfl))))) (fun _ h9 => h9) rfl (tyX1_ok 0 (by decide)) rfl rfl (Nat.le_of_ble_eq_true rfl) dX1_keep_38 (fun H locs hP hD hS => ?_)
    refine zs_0 (y := (a0, .inr (1, [.int x35, a0g_1, .int 7, .ref a0_3, a0g_4]))) hP hD rfl (fun hP hD => ?_)
    have hFe : FX = (x35.toInt, 7, (fl_nI [a0_3e0_0.toInt, a0_3e0_1.toInt, a0_3e0_2.toInt, a0_3e0_3.toInt, a0_3e0_4.toInt, a0_3e1_0.toInt, a0_3e1_1.toInt, a0_3e1_2.toInt, a0_3e1_3.toInt, a0_3e1_4.toInt, a0_3e2_0.toInt, a0_3e2_1.toInt, a0_3e2_2.toInt, a0_3e2_3.toInt, a0_3e2_4.toInt, a0_3e3_0.toInt, a0_3e3_1.toInt, a0_3e3_2.toInt, a0_3e3_3.toInt, a0_3e3_4.toInt, a0_3e4_0.toInt, a0_3e4_1.toInt, a0_3e4_2.toInt, a0_3e4_3.toInt, a0_3e4_4.toInt, a0_3e5_0.toInt, a0_3e5_1.toInt, a0_3e5_2.toInt, a0_3e5_3.toInt, a0_3e5_4.toInt, a0_3e6_0.toInt, a0_3e6_1.toInt, a0_3e6_2.toInt, a0_3e6_3.toInt, a0_3e6_4.toInt, v23na0_0.toInt, v23na0_1.toInt, v23na0_2.toInt, v23na0_3.toInt, v23na0_4.toInt, a0_3e8_0.toInt, a0_3e8_1.toInt, a0_3e8_2.toInt, a0_3e8_3.toInt, a0_3e8_4.toInt, a0_3e9_0.toInt, a0_3e9_1.toInt, a0_3e9_2.toInt, a0_3e9_3.toInt, a0_3e9_4.toInt, a0_3e10_0.toInt, a0_3e10_1.toInt, a0_3e10_2.toInt, a0_3e10_3.toInt, a0_3e10_4.toInt, a0_3e11_0.toInt, a0_3e11_1.toInt, a0_3e11_2.toInt, a0_3e11_3.toInt, a0_3e11_4.toInt, a0_3e12_0.toInt, a0_3e12_1.toInt, a0_3e12_2.toInt, a0_3e12_3.toInt, a0_3e12_4.toInt, a0_3e13_0.toInt, a0_3e13_1.toInt, a0_3e13_2.toInt, a0_3e13_3.toInt, a0_3e13_4.toInt, a0_3e14_0.toInt, a0_3e14_1.toInt, a0_3e14_2.toInt, a0_3e14_3.toInt, a0_3e14_4.toInt, a0_3e15_0.toInt, a0_3e15_1.toInt, a0_3e15_2.toInt, a0_3e15_3.toInt, a0_3e15_4.toInt]), (fl_nF [(fl_A fa0_3e0_5), (fl_A fa0_3e0_6), (fl_A fa0_3e1_5), (fl_A fa0_3e1_6), (fl_A fa0_3e2_5), (fl_A fa0_3e2_6), (fl_A fa0_3e3_5), (fl_A fa0_3e3_6), (fl_A fa0_3e4_5), (fl_A fa0_3e4_6), (fl_A fa0_3e5_5), (fl_A fa0_3e5_6), (fl_A fa0_3e6_5), (fl_A fa0_3e6_6), (fl_A v23nfa0_5), (fl_A v23nfa0_6), (fl_A fa0_3e8_5), (fl_A fa0_3e8_6), (fl_A fa0_3e9_5), (fl_A fa0_3e9_6), (fl_A fa0_3e10_5), (fl_A fa0_3e10_6), (fl_A fa0_3e11_5), (fl_A fa0_3e11_6), (fl_A fa0_3e12_5), (fl_A fa0_3e12_6), (fl_A fa0_3e13_5), (fl_A fa0_3e13_6), (fl_A fa0_3e14_5), (fl_A fa0_3e14_6), (fl_A fa0_3e15_5), (fl_A fa0_3e15_6)])) := hF0
    exact W.vret hx hb hr (fun t ht hW => ⟨⟨(), rfl, trivial, (fun i9 => ([x35, 7, a0_3e0_0, a0_3e0_1, a0_3e0_2, a0_3e0_3, a0_3e0_4, a0_3e1_0, a0_3e1_1, a0_3e1_2, a0_3e1_3, a0_3e1_4, a0_3e2_0, a0_3e2_1, a0_3e2_2, a0_3e2_3, a0_3e2_4, a0_3e3_0, a0_3e3_1, a0_3e3_2, a0_3e3_3, a0_3e3_4, a0_3e4_0, a0_3e4_1, a0_3e4_2, a0_3e4_3, a0_3e4_4, a0_3e5_0, a0_3e5_1, a0_3e5_2, a0_3e5_3, a0_3e5_4, a0_3e6_0, a0_3e6_1, a0_3e6_2, a0_3e6_3, a0_3e6_4, v23na0_0, v23na0_1, v23na0_2, v23na0_3, v23na0_4, a0_3e8_0, a0_3e8_1, a0_3e8_2, a0_3e8_3, a0_3e8_4, a0_3e9_0, a0_3e9_1, a0_3e9_2, a0_3e9_3, a0_3e9_4, a0_3e10_0, a0_3e10_1, a0_3e10_2, a0_3e10_3, a0_3e10_4, a0_3e11_0, a0_3e11_1, a0_3e11_2, a0_3e11_3, a0_3e11_4, a0_3e12_0, a0_3e12_1, a0_3e12_2, a0_3e12_3, a0_3e12_4, a0_3e13_0, a0_3e13_1, a0_3e13_2, a0_3e13_3, a0_3e13_4, a0_3e14_0, a0_3e14_1, a0_3e14_2, a0_3e14_3, a0_3e14_4, a0_3e15_0, a0_3e15_1, a0_3e15_2, a0_3e15_3, a0_3e15_4] : List Int32).getD i9 0), (fun i9 => ([fa0_3e0_5, fa0_3e0_6, fa0_3e1_5, fa0_3e1_6, fa0_3e2_5, fa0_3e2_6, fa0_3e3_5, fa0_3e3_6, fa0_3e4_5, fa0_3e4_6, fa0_3e5_5, fa0_3e5_6, fa0_3e6_5, fa0_3e6_6, v23nfa0_5, v23nfa0_6, fa0_3e8_5, fa0_3e8_6, fa0_3e9_5, fa0_3e9_6, fa0_3e10_5, fa0_3e10_6, fa0_3e11_5, fa0_3e11_6, fa0_3e12_5, fa0_3e12_6, fa0_3e13_5, fa0_3e13_6, fa0_3e14_5, fa0_3e14_6, fa0_3e15_5, fa0_3e15_6] : List (Nat → Int32)).getD i9 (fun _ => 0)), ⟨Int.le_trans (by decide) bx35.1, bx35.2⟩, ⟨Int.le_trans (by decide) zq114, Int.le_trans zq115 (by decide)⟩, ⟨ba0_3e0_1_l, ba0_3e0_1_u⟩, ⟨ba0_3e1_1_l, ba0_3e1_1_u⟩, ⟨ba0_3e2_1_l, ba0_3e2_1_u⟩, ⟨ba0_3e3_1_l, ba0_3e3_1_u⟩, ⟨ba0_3e4_1_l, ba0_3e4_1_u⟩, ⟨ba0_3e5_1_l, ba0_3e5_1_u⟩, ⟨ba0_3e6_1_l, ba0_3e6_1_u⟩, ⟨bv23na0_1.1, bv23na0_1.2⟩, ⟨ba0_3e8_1_l, ba0_3e8_1_u⟩, ⟨ba0_3e9_1_l, ba0_3e9_1_u⟩, ⟨ba0_3e10_1_l, ba0_3e10_1_u⟩, ⟨ba0_3e11_1_l, ba0_3e11_1_u⟩, ⟨ba0_3e12_1_l, ba0_3e12_1_u⟩, ⟨ba0_3e13_1_l, ba0_3e13_1_u⟩, ⟨ba0_3e14_1_l, ba0_3e14_1_u⟩, ⟨ba0_3e15_1_l, ba0_3e15_1_u⟩, (show (FX = (x35.toInt, (7 : Int32).toInt, (fl_nI [a0_3e0_0.toInt, a0_3e0_1.toInt, a0_3e0_2.toInt, a0_3e0_3.toInt, a0_3e0_4.toInt, a0_3e1_0.toInt, a0_3e1_1.toInt, a0_3e1_2.toInt, a0_3e1_3.toInt, a0_3e1_4.toInt, a0_3e2_0.toInt, a0_3e2_1.toInt, a0_3e2_2.toInt, a0_3e2_3.toInt, a0_3e2_4.toInt, a0_3e3_0.toInt, a0_3e3_1.toInt, a0_3e3_2.toInt, a0_3e3_3.toInt, a0_3e3_4.toInt, a0_3e4_0.toInt, a0_3e4_1.toInt, a0_3e4_2.toInt, a0_3e4_3.toInt, a0_3e4_4.toInt, a0_3e5_0.toInt, a0_3e5_1.toInt, a0_3e5_2.toInt, a0_3e5_3.toInt, a0_3e5_4.toInt, a0_3e6_0.toInt, a0_3e6_1.toInt, a0_3e6_2.toInt, a0_3e6_3.toInt, a0_3e6_4.toInt, v23na0_0.toInt, v23na0_1.toInt, v23na0_2.toInt, v23na0_3.toInt, v23na0_4.toInt, a0_3e8_0.toInt, a0_3e8_1.toInt, a0_3e8_2.toInt, a0_3e8_3.toInt, a0_3e8_4.toInt, a0_3e9_0.toInt, a0_3e9_1.toInt, a0_3e9_2.toInt, a0_3e9_3.toInt, a0_3e9_4.toInt, a0_3e10_0.toInt, a0_3e10_1.toInt, a0_3e10_2.toInt, a0_3e10_3.toInt, a0_3e10_4.toInt, a0_3e11_0.toInt, a0_3e11_1.toInt, a0_3e11_2.toInt, a0_3e11_3.toInt, a0_3e11_4.toInt, a0_3e12_0.toInt, a0_3e12_1.toInt, a0_3e12_2.toInt, a0_3e12_3.toInt, a0_3e12_4.toInt, a0_3e13_0.toInt, a0_3e13_1.toInt, a0_3e13_2.toInt, a0_3e13_3.toInt, a0_3e13_4.toInt, a0_3e14_0.toInt, a0_3e14_1.toInt, a0_3e14_2.toInt, a0_3e14_3.toInt, a0_3e14_4.toInt, a0_3e15_0.toInt, a0_3e15_1.toInt, a0_3e15_2.toInt, a0_3e15_3.toInt, a0_3e15_4.toInt]), (fl_nF [(fl_A fa0_3e0_5), (fl_A fa0_3e0_6), (fl_A fa0_3e1_5), (fl_A fa0_3e1_6), (fl_A fa0_3e2_5), (fl_A fa0_3e2_6), (fl_A fa0_3e3_5), (fl_A fa0_3e3_6), (fl_A fa0_3e4_5), (fl_A fa0_3e4_6), (fl_A fa0_3e5_5), (fl_A fa0_3e5_6), (fl_A fa0_3e6_5), (fl_A fa0_3e6_6), (fl_A v23nfa0_5), (fl_A v23nfa0_6), (fl_A fa0_3e8_5), (fl_A fa0_3e8_6), (fl_A fa0_3e9_5), (fl_A fa0_3e9_6), (fl_A fa0_3e10_5), (fl_A fa0_3e10_6), (fl_A fa0_3e11_5), (fl_A fa0_3e11_6), (fl_A fa0_3e12_5), (fl_A fa0_3e12_6), (fl_A fa0_3e13_5), (fl_A fa0_3e13_6), (fl_A fa0_3e14_5), (fl_A fa0_3e14_6), (fl_A fa0_3e15_5), (fl_A fa0_3e15_6)]))) from hFe), by rw [ht]; exact hP, va_K.moved hW.alike hK, hD⟩, hS.F ht⟩) hS.2.2 dX1_keep_41
  · subst hv21
    have hF0 := hF0.trans (if_neg (by decide))
    have hF0 := hF0.trans (if_neg (by decide))
    have hF0 := hF0.trans (if_neg (by decide))
    have hF0 := hF0.trans (if_neg (by decide))
    have hF0 := hF0.trans (if_neg (by decide))
    have hF0 := hF0.trans (if_neg (by decide))
    have hF0 := hF0.trans (if_neg (by decide))
    have hF0 := hF0.trans (if_neg (by decide))
    have hF0 := hF0.trans (if_pos (by decide))
    refine va_aldq hx hb hK hP 1 0 rfl rfl (i := 8) (by unfold vp_in; decide +kernel) dX1_keep_21 ?_
    refine ax_tv (.ref a0_3e8) rfl ?_
    refine lv_aload_n hx hb dX1_keep_22 rfl (lv_at hl 1 rfl) ?_
    refine zc_cutc (wc := [(a0_3e8, .inr (5, [.int a0_3e8_0, .int a0_3e8_1, .int a0_3e8_2, .int a0_3e8_3, .int a0_3e8_4, .ref a0_3e8_5, .ref a0_3e8_6])), (a1, .inr (5, [.int a1_0, .int a1_1, .int a1_2, .int a1_3, .int a1_4, .ref a1_5, .ref a1_6])), (a1_5, .inl (ka1_5, 9, .inl (fa1_5))), (a0_3e8_5, .inl (ka0_3e8_5, 9, .inl (fa0_3e8_5))), (a1_6, .inl (ka1_6, 9, .inl (fa1_6))), (a0_3e8_6, .inl (ka0_3e8_6, 9, .inl (fa0_3e8_6)))]) hP hD hS hA [29, 3, 4, 30, 6, 31] (by decide +kernel) rfl (fun hPc hDc hFc hCc => ?_)
    have hKc := hK.sub (tys' := [(ka1_5, .int), (ka0_3e8_5, .int), (ka1_6, .int), (ka0_3e8_6, .int)]) [1, 19, 3, 20] rfl
    refine va_callv (va_runV (As := [.ref a1]) (rest := []) ⟨hx, hb, hml, hown, hts⟩ (f_X5_copyFrom l dC dI H.size a0_3e8 a1 a0_3e8_0 a0_3e8_1 a0_3e8_2 a0_3e8_3 a0_3e8_4 a0_3e8_5 a0_3e8_6 a1_0 a1_1 a1_2 a1_3 a1_4 a1_5 a1_6 ka1_5 fa1_5 ka0_3e8_5 fa0_3e8_5 ka1_6 fa1_6 ka0_3e8_6 fa0_3e8_6 ba0_3e8_1_l ba0_3e8_1_u ba1_1_l ba1_1_u) (cwV 1 hts gX1_keep_X5_copyFrom rfl rfl rfl zd_X5_copyFrom ⟨Nat.le_of_ble_eq_true rfl, Nat.le_of_ble_eq_true rfl⟩) ⟨ax_blind (fun _ _ _ _ _ => trivial), zr_5 hKc hPc (q0 := 0) rfl, ax_pre hPc hKc hDc (fun _ _ => trivial)⟩ rfl rfl hl.1 rfl (lv_room (Nat.le_of_ble_eq_true rfl)) dX1_keep_23 ⟨Nat.le_of_ble_eq_true rfl, Nat.le_of_ble_eq_true rfl⟩) hS (fun q _ h => hFc q h) hFc (fun u t H locs ht hvm hw => zx_7 (fun v23na0_0 v23na0_1 v23na0_2 v23na0_3 v23na0_4 v23nfa0_5 v23nfa0_6 => zy_2 (fun bv23na0_1 hraw23_0 hB hz1 hk1 hS1 => zo hB ht hS1 (fun hP1 hK1 hD1 hS => ?_))))
    refine zc_backc (w := [(a0, .inr (1, [.int a0_0, a0g_1, .int 8, .ref a0_3, a0g_4])), (a0_3, .inl (ka0_3, 16, .inr (.inr (.inr (.inr (fun i9 => ([some a0_3e0, some a0_3e1, some a0_3e2, some a0_3e3, some a0_3e4, some a0_3e5, some a0_3e6, some a0_3e7, some a0_3e8, some a0_3e9, some a0_3e10, some a0_3e11, some a0_3e12, some a0_3e13, some a0_3e14, some a0_3e15] : List (Option Nat)).getD i9 none)))))), (a0_3e0, .inr (5, [.int a0_3e0_0, .int a0_3e0_1, .int a0_3e0_2, .int a0_3e0_3, .int a0_3e0_4, .ref a0_3e0_5, .ref a0_3e0_6])), (a1, .inr (5, [.int a1_0, .int a1_1, .int a1_2, .int a1_3, .int a1_4, .ref a1_5, .ref a1_6])), (a1_5, .inl (ka1_5, 9, .inl (fa1_5))), (a0_3e0_5, .inl (ka0_3e0_5, 9, .inl (fa0_3e0_5))), (a1_6, .inl (ka1_6, 9, .inl (fa1_6))), (a0_3e0_6, .inl (ka0_3e0_6, 9, .inl (fa0_3e0_6))), (a0_3e1, .inr (5, [.int a0_3e1_0, .int a0_3e1_1, .int a0_3e1_2, .int a0_3e1_3, .int a0_3e1_4, .ref a0_3e1_5, .ref a0_3e1_6])), (a0_3e1_5, .inl (ka0_3e1_5, 9, .inl (fa0_3e1_5))), (a0_3e1_6, .inl (ka0_3e1_6, 9, .inl (fa0_3e1_6))), (a0_3e2, .inr (5, [.int a0_3e2_0, .int a0_3e2_1, .int a0_3e2_2, .int a0_3e2_3, .int a0_3e2_4, .ref a0_3e2_5, .ref a0_3e2_6])), (a0_3e2_5, .inl (ka0_3e2_5, 9, .inl (fa0_3e2_5))), (a0_3e2_6, .inl (ka0_3e2_6, 9, .inl (fa0_3e2_6))), (a0_3e3, .inr (5, [.int a0_3e3_0, .int a0_3e3_1, .int a0_3e3_2, .int a0_3e3_3, .int a0_3e3_4, .ref a0_3e3_5, .ref a0_3e3_6])), (a0_3e3_5, .inl (ka0_3e3_5, 9, .inl (fa0_3e3_5))), (a0_3e3_6, .inl (ka0_3e3_6, 9, .inl (fa0_3e3_6))), (a0_3e4, .inr (5, [.int a0_3e4_0, .int a0_3e4_1, .int a0_3e4_2, .int a0_3e4_3, .int a0_3e4_4, .ref a0_3e4_5, .ref a0_3e4_6])), (a0_3e4_5, .inl (ka0_3e4_5, 9, .inl (fa0_3e4_5))), (a0_3e4_6, .inl (ka0_3e4_6, 9, .inl (fa0_3e4_6))), (a0_3e5, .inr (5, [.int a0_3e5_0, .int a0_3e5_1, .int a0_3e5_2, .int a0_3e5_3, .int a0_3e5_4, .ref a0_3e5_5, .ref a0_3e5_6])), (a0_3e5_5, .inl (ka0_3e5_5, 9, .inl (fa0_3e5_5))), (a0_3e5_6, .inl (ka0_3e5_6, 9, .inl (fa0_3e5_6))), (a0_3e6, .inr (5, [.int a0_3e6_0, .int a0_3e6_1, .int a0_3e6_2, .int a0_3e6_3, .int a0_3e6_4, .ref a0_3e6_5, .ref a0_3e6_6])), (a0_3e6_5, .inl (ka0_3e6_5, 9, .inl (fa0_3e6_5))), (a0_3e6_6, .inl (ka0_3e6_6, 9, .inl (fa0_3e6_6))), (a0_3e7, .inr (5, [.int a0_3e7_0, .int a0_3e7_1, .int a0_3e7_2, .int a0_3e7_3, .int a0_3e7_4, .ref a0_3e7_5, .ref a0_3e7_6])), (a0_3e7_5, .inl (ka0_3e7_5, 9, .inl (fa0_3e7_5))), (a0_3e7_6, .inl (ka0_3e7_6, 9, .inl (fa0_3e7_6))), (a0_3e8, .inr (5, [.int v23na0_0, .int v23na0_1, .int v23na0_2, .int v23na0_3, .int v23na0_4, .ref a0_3e8_5, .ref a0_3e8_6])), (a0_3e8_5, .inl (ka0_3e8_5, 9, .inl (v23nfa0_5))), (a0_3e8_6, .inl (ka0_3e8_6, 9, .inl (v23nfa0_6))), (a0_3e9, .inr (5, [.int a0_3e9_0, .int a0_3e9_1, .int a0_3e9_2, .int a0_3e9_3, .int a0_3e9_4, .ref a0_3e9_5, .ref a0_3e9_6])), (a0_3e9_5, .inl (ka0_3e9_5, 9, .inl (fa0_3e9_5))), (a0_3e9_6, .inl (ka0_3e9_6, 9, .inl (fa0_3e9_6))), (a0_3e10, .inr (5, [.int a0_3e10_0, .int a0_3e10_1, .int a0_3e10_2, .int a0_3e10_3, .int a0_3e10_4, .ref a0_3e10_5, .ref a0_3e10_6])), (a0_3e10_5, .inl (ka0_3e10_5, 9, .inl (fa0_3e10_5))), (a0_3e10_6, .inl (ka0_3e10_6, 9, .inl (fa0_3e10_6))), (a0_3e11, .inr (5, [.int a0_3e11_0, .int a0_3e11_1, .int a0_3e11_2, .int a0_3e11_3, .int a0_3e11_4, .ref a0_3e11_5, .ref a0_3e11_6])), (a0_3e11_5, .inl (ka0_3e11_5, 9, .inl (fa0_3e11_5))), (a0_3e11_6, .inl (ka0_3e11_6, 9, .inl (fa0_3e11_6))), (a0_3e12, .inr (5, [.int a0_3e12_0, .int a0_3e12_1, .int a0_3e12_2, .int a0_3e12_3, .int a0_3e12_4, .ref a0_3e12_5, .ref a0_3e12_6])), (a0_3e12_5, .inl (ka0_3e12_5, 9, .inl (fa0_3e12_5))), (a0_3e12_6, .inl (ka0_3e12_6, 9, .inl (fa0_3e12_6))), (a0_3e13, .inr (5, [.int a0_3e13_0, .int a0_3e13_1, .int a0_3e13_2, .int a0_3e13_3, .int a0_3e13_4, .ref a0_3e13_5, .ref a0_3e13_6])), (a0_3e13_5, .inl (ka0_3e13_5, 9, .inl (fa0_3e13_5))), (a0_3e13_6, .inl (ka0_3e13_6, 9, .inl (fa0_3e13_6))), (a0_3e14, .inr (5, [.int a0_3e14_0, .int a0_3e14_1, .int a0_3e14_2, .int a0_3e14_3, .int a0_3e14_4, .ref a0_3e14_5, .ref a0_3e14_6])), (a0_3e14_5, .inl (ka0_3e14_5, 9, .inl (fa0_3e14_5))), (a0_3e14_6, .inl (ka0_3e14_6, 9, .inl (fa0_3e14_6))), (a0_3e15, .inr (5, [.int a0_3e15_0, .int a0_3e15_1, .int a0_3e15_2, .int a0_3e15_3, .int a0_3e15_4, .ref a0_3e15_5, .ref a0_3e15_6])), (a0_3e15_5, .inl (ka0_3e15_5, 9, .inl (fa0_3e15_5))), (a0_3e15_6, .inl (ka0_3e15_6, 9, .inl (fa0_3e15_6)))]) hP hD hCc hk1 hFc hP1 hD1 [.inl 0, .inl 1, .inl 2, .inr 1, .inr 2, .inl 5, .inr 4, .inl 7, .inl 8, .inl 9, .inl 10, .inl 11, .inl 12, .inl 13, .inl 14, .inl 15, .inl 16, .inl 17, .inl 18, .inl 19, .inl 20, .inl 21, .inl 22, .inl 23, .inl 24, .inl 25, .inl 26, .inl 27, .inl 28, .inr 0, .inr 3, .inr 5, .inl 32, .inl 33, .inl 34, .inl 35, .inl 36, .inl 37, .inl 38, .inl 39, .inl 40, .inl 41, .inl 42, .inl 43, .inl 44, .inl 45, .inl 46, .inl 47, .inl 48, .inl 49, .inl 50, .inl 51, .inl 52] (by decide +kernel) rfl (fun hP hD => ?_)
    have hc23 : Ff_X5_copyFrom a1_0.toInt a1_1.toInt a1_2.toInt a1_3.toInt a1_4.toInt (fl_A fa1_5) (fl_A fa0_3e8_5) (fl_A fa1_6) (fl_A fa0_3e8_6) = (v23na0_0.toInt, v23na0_1.toInt, v23na0_2.toInt, v23na0_3.toInt, v23na0_4.toInt, (fl_A v23nfa0_5), (fl_A v23nfa0_6)) := hraw23_0
    have hF0 := hF0.trans (fl_c7_eq hc23)
    refine lv_aload_n hx hb dX1_keep_26 rfl (lv_at hl 0 rfl) ?_
    refine lv_aload_n hx hb dX1_keep_27 rfl (lv_at hl 0 rfl) ?_
    refine va_get (D := (dC, dI)) (ci := 1) (v := .int a0_0) (C := RX1) (T := TX1) (N := 5) hx hb hts zi_X1_keep_1 hown hK hP 0 rfl rfl 0 (by decide) (hts (.fieldLink RX1 21 "WaxTurns$History" "keptCount" "I") (List.mem_cons_of_mem _ (List.mem_append_left _ (List.mem_append_left _ (List.mem_of_getElem? (i := 2) rfl))))) (fun _ h9 => h9) rfl dX1_keep_28 ?_
    refine lv_iconst (v := 1) hx hb dX1_keep_31 zk_iconst_1 ?_
    refine lv_iadd hx hb dX1_keep_32 ?_
    refine lv_topi (fun x32 ex32 => ?_)
    have qx32 : x32.toInt = a0_0.toInt + (1 : Int32).toInt := ai_add ex32 ⟨ba0_0_l, ba0_0_u⟩ ⟨zq1, zq0⟩ (by decide) (by decide)
    have bx32 : (1 : Int) ≤ x32.toInt ∧ x32.toInt ≤ 17 := ⟨by rw [qx32]; exact Int.add_le_add ba0_0_l zq1, by rw [qx32]; exact Int.add_le_add ba0_0_u zq0⟩
    have wx32 : x32.toInt = a0_0.toInt + 1 := qx32
    have hF0 := hF0.trans (fl_lt_eq (show x32.toInt = a0_0.toInt + 1 from qx32))
    refine lv_bipush (v := 16) hx hb dX1_keep_33 zk_bipush_16 ?_
    refine va_mmin hx hb (by rw [hml]; exact hl.1.symm) hown (hts (.methodLink RX1 35 Lib.Math.min.name) (List.mem_cons_of_mem _ (List.mem_append_left _ (List.mem_append_left _ (List.mem_of_getElem? (i := 3) rfl))))) (hts (.static Lib.Math.min.name) (List.mem_cons_of_mem _ (List.mem_append_left _ (List.mem_append_left _ (List.mem_of_getElem? (i := 4) rfl))))) (hts (.initialized "java/lang/Math") (List.mem_cons_of_mem _ (List.mem_append_left _ (List.mem_append_left _ (List.mem_of_getElem? (i := 5) rfl))))) (hts _ mnX1_keep) (Nat.le_of_ble_eq_true rfl) (Nat.le_of_ble_eq_true rfl) (Nat.le_of_ble_eq_true rfl) (Nat.le_of_ble_eq_true rfl) dX1_keep_35 ?_
    refine lv_topi (fun x35 ex35 => ?_)
    have qx35 := ai_mmin ex35
    have bx35 : (1 : Int) ≤ x35.toInt ∧ x35.toInt ≤ 16 := by first | exact zg_mm qx35 bx32.1 zq110 bx32.2 zq111 (by decide) (by decide) (by decide) | exact zg_mm qx35 zq110 bx32.1 zq111 bx32.2 (by decide) (by decide) (by decide) | (have h1 := bx32.1; have h2 := zq110; have h3 := bx32.2; have h4 := zq111; omega)
    have fqx35 := fl_min_eq ex35
    have hF0 := hF0.trans (fl_lt_eq (show x35.toInt = fl_min x32.toInt 16 from fqx35))
    refine va_put (D := (dC, dI)) (ci := 1) (v := .int x35) (ty := .int) (C := RX1) (T := TX1) (N := 5) hx hb hts zi_X1_keep_1 tyX1 tyX1_ok nmX1 hown hK hP hD hS 0 rfl rfl 0 (by decide) (hts (.fieldLink RX1 21 "WaxTurns$History" "keptCount" "I") (List.mem_cons_of_mem _ (List.mem_append_left _ (List.mem_append_left _ (List.mem_of_getElem? (i := 2) rfl))))) (fun _ h9 => h9) rfl (tyX1_ok 0 (by decide)) rfl rfl (Nat.le_of_ble_eq_true rfl) dX1_keep_38 (fun H locs hP hD hS => ?_)
    refine zs_0 (y := (a0, .inr (1, [.int x35, a0g_1, .int 8, .ref a0_3, a0g_4]))) hP hD rfl (fun hP hD => ?_)
    have hFe : FX = (x35.toInt, 8, (fl_nI [a0_3e0_0.toInt, a0_3e0_1.toInt, a0_3e0_2.toInt, a0_3e0_3.toInt, a0_3e0_4.toInt, a0_3e1_0.toInt, a0_3e1_1.toInt, a0_3e1_2.toInt, a0_3e1_3.toInt, a0_3e1_4.toInt, a0_3e2_0.toInt, a0_3e2_1.toInt, a0_3e2_2.toInt, a0_3e2_3.toInt, a0_3e2_4.toInt, a0_3e3_0.toInt, a0_3e3_1.toInt, a0_3e3_2.toInt, a0_3e3_3.toInt, a0_3e3_4.toInt, a0_3e4_0.toInt, a0_3e4_1.toInt, a0_3e4_2.toInt, a0_3e4_3.toInt, a0_3e4_4.toInt, a0_3e5_0.toInt, a0_3e5_1.toInt, a0_3e5_2.toInt, a0_3e5_3.toInt, a0_3e5_4.toInt, a0_3e6_0.toInt, a0_3e6_1.toInt, a0_3e6_2.toInt, a0_3e6_3.toInt, a0_3e6_4.toInt, a0_3e7_0.toInt, a0_3e7_1.toInt, a0_3e7_2.toInt, a0_3e7_3.toInt, a0_3e7_4.toInt, v23na0_0.toInt, v23na0_1.toInt, v23na0_2.toInt, v23na0_3.toInt, v23na0_4.toInt, a0_3e9_0.toInt, a0_3e9_1.toInt, a0_3e9_2.toInt, a0_3e9_3.toInt, a0_3e9_4.toInt, a0_3e10_0.toInt, a0_3e10_1.toInt, a0_3e10_2.toInt, a0_3e10_3.toInt, a0_3e10_4.toInt, a0_3e11_0.toInt, a0_3e11_1.toInt, a0_3e11_2.toInt, a0_3e11_3.toInt, a0_3e11_4.toInt, a0_3e12_0.toInt, a0_3e12_1.toInt, a0_3e12_2.toInt, a0_3e12_3.toInt, a0_3e12_4.toInt, a0_3e13_0.toInt, a0_3e13_1.toInt, a0_3e13_2.toInt, a0_3e13_3.toInt, a0_3e13_4.toInt, a0_3e14_0.toInt, a0_3e14_1.toInt, a0_3e14_2.toInt, a0_3e14_3.toInt, a0_3e14_4.toInt, a0_3e15_0.toInt, a0_3e15_1.toInt, a0_3e15_2.toInt, a0_3e15_3.toInt, a0_3e15_4.toInt]), (fl_nF [(fl_A fa0_3e0_5), (fl_A fa0_3e0_6), (fl_A fa0_3e1_5), (fl_A fa0_3e1_6), (fl_A fa0_3e2_5), (fl_A fa0_3e2_6), (fl_A fa0_3e3_5), (fl_A fa0_3e3_6), (fl_A fa0_3e4_5), (fl_A fa0_3e4_6), (fl_A fa0_3e5_5), (fl_A fa0_3e5_6), (fl_A fa0_3e6_5), (fl_A fa0_3e6_6), (fl_A fa0_3e7_5), (fl_A fa0_3e7_6), (fl_A v23nfa0_5), (fl_A v23nfa0_6), (fl_A fa0_3e9_5), (fl_A fa0_3e9_6), (fl_A fa0_3e10_5), (fl_A fa0_3e10_6), (fl_A fa0_3e11_5), (fl_A fa0_3e11_6), (fl_A fa0_3e12_5), (fl_A fa0_3e12_6), (fl_A fa0_3e13_5), (fl_A fa0_3e13_6), (fl_A fa0_3e14_5), (fl_A fa0_3e14_6), (fl_A fa0_3e15_5), (fl_A fa0_3e15_6)])) := hF0
    exact W.vret hx hb hr (fun t ht hW => ⟨⟨(), rfl, trivial, (fun i9 => ([x35, 8, a0_3e0_0, a0_3e0_1, a0_3e0_2, a0_3e0_3, a0_3e0_4, a0_3e1_0, a0_3e1_1, a0_3e1_2, a0_3e1_3, a0_3e1_4, a0_3e2_0, a0_3e2_1, a0_3e2_2, a0_3e2_3, a0_3e2_4, a0_3e3_0, a0_3e3_1, a0_3e3_2, a0_3e3_3, a0_3e3_4, a0_3e4_0, a0_3e4_1, a0_3e4_2, a0_3e4_3, a0_3e4_4, a0_3e5_0, a0_3e5_1, a0_3e5_2, a0_3e5_3, a0_3e5_4, a0_3e6_0, a0_3e6_1, a0_3e6_2, a0_3e6_3, a0_3e6_4, a0_3e7_0, a0_3e7_1, a0_3e7_2, a0_3e7_3, a0_3e7_4, v23na0_0, v23na0_1, v23na0_2, v23na0_3, v23na0_4, a0_3e9_0, a0_3e9_1, a0_3e9_2, a0_3e9_3, a0_3e9_4, a0_3e10_0, a0_3e10_1, a0_3e10_2, a0_3e10_3, a0_3e10_4, a0_3e11_0, a0_3e11_1, a0_3e11_2, a0_3e11_3, a0_3e11_4, a0_3e12_0, a0_3e12_1, a0_3e12_2, a0_3e12_3, a0_3e12_4, a0_3e13_0, a0_3e13_1, a0_3e13_2, a0_3e13_3, a0_3e13_4, a0_3e14_0, a0_3e14_1, a0_3e14_2, a0_3e14_3, a0_3e14_4, a0_3e15_0, a0_3e15_1, a0_3e15_2, a0_3e15_3, a0_3e15_4] : List Int32).getD i9 0), (fun i9 => ([fa0_3e0_5, fa0_3e0_6, fa0_3e1_5, fa0_3e1_6, fa0_3e2_5, fa0_3e2_6, fa0_3e3_5, fa0_3e3_6, fa0_3e4_5, fa0_3e4_6, fa0_3e5_5, fa0_3e5_6, fa0_3e6_5, fa0_3e6_6, fa0_3e7_5, fa0_3e7_6, v23nfa0_5, v23nfa0_6, fa0_3e9_5, fa0_3e9_6, fa0_3e10_5, fa0_3e10_6, fa0_3e11_5, fa0_3e11_6, fa0_3e12_5, fa0_3e12_6, fa0_3e13_5, fa0_3e13_6, fa0_3e14_5, fa0_3e14_6, fa0_3e15_5, fa0_3e15_6] : List (Nat → Int32)).getD i9 (fun _ => 0)), ⟨Int.le_trans (by decide) bx35.1, bx35.2⟩, ⟨Int.le_trans (by decide) zq116, Int.le_trans zq28 (by decide)⟩, ⟨ba0_3e0_1_l, ba0_3e0_1_u⟩, ⟨ba0_3e1_1_l, ba0_3e1_1_u⟩, ⟨ba0_3e2_1_l, ba0_3e2_1_u⟩, ⟨ba0_3e3_1_l, ba0_3e3_1_u⟩, ⟨ba0_3e4_1_l, ba0_3e4_1_u⟩, ⟨ba0_3e5_1_l, ba0_3e5_1_u⟩, ⟨ba0_3e6_1_l, ba0_3e6_1_u⟩, ⟨ba0_3e7_1_l, ba0_3e7_1_u⟩, ⟨bv23na0_1.1, bv23na0_1.2⟩, ⟨ba0_3e9_1_l, ba0_3e9_1_u⟩, ⟨ba0_3e10_1_l, ba0_3e10_1_u⟩, ⟨ba0_3e11_1_l, ba0_3e11_1_u⟩, ⟨ba0_3e12_1_l, ba0_3e12_1_u⟩, ⟨ba0_3e13_1_l, ba0_3e13_1_u⟩, ⟨ba0_3e14_1_l, ba0_3e14_1_u⟩, ⟨ba0_3e15_1_l, ba0_3e15_1_u⟩, (show (FX = (x35.toInt, (8 : Int32).toInt, (fl_nI [a0_3e0_0.toInt, a0_3e0_1.toInt, a0_3e0_2.toInt, a0_3e0_3.toInt, a0_3e0_4.toInt, a0_3e1_0.toInt, a0_3e1_1.toInt, a0_3e1_2.toInt, a0_3e1_3.toInt, a0_3e1_4.toInt, a0_3e2_0.toInt, a0_3e2_1.toInt, a0_3e2_2.toInt, a0_3e2_3.toInt, a0_3e2_4.toInt, a0_3e3_0.toInt, a0_3e3_1.toInt, a0_3e3_2.toInt, a0_3e3_3.toInt, a0_3e3_4.toInt, a0_3e4_0.toInt, a0_3e4_1.toInt, a0_3e4_2.toInt, a0_3e4_3.toInt, a0_3e4_4.toInt, a0_3e5_0.toInt, a0_3e5_1.toInt, a0_3e5_2.toInt, a0_3e5_3.toInt, a0_3e5_4.toInt, a0_3e6_0.toInt, a0_3e6_1.toInt, a0_3e6_2.toInt, a0_3e6_3.toInt, a0_3e6_4.toInt, a0_3e7_0.toInt, a0_3e7_1.toInt, a0_3e7_2.toInt, a0_3e7_3.toInt, a0_3e7_4.toInt, v23na0_0.toInt, v23na0_1.toInt, v23na0_2.toInt, v23na0_3.toInt, v23na0_4.toInt, a0_3e9_0.toInt, a0_3e9_1.toInt, a0_3e9_2.toInt, a0_3e9_3.toInt, a0_3e9_4.toInt, a0_3e10_0.toInt, a0_3e10_1.toInt, a0_3e10_2.toInt, a0_3e10_3.toInt, a0_3e10_4.toInt, a0_3e11_0.toInt, a0_3e11_1.toInt, a0_3e11_2.toInt, a0_3e11_3.toInt, a0_3e11_4.toInt, a0_3e12_0.toInt, a0_3e12_1.toInt, a0_3e12_2.toInt, a0_3e12_3.toInt, a0_3e12_4.toInt, a0_3e13_0.toInt, a0_3e13_1.toInt, a0_3e13_2.toInt, a0_3e13_3.toInt, a0_3e13_4.toInt, a0_3e14_0.toInt, a0_3e14_1.toInt, a0_3e14_2.toInt, a0_3e14_3.toInt, a0_3e14_4.toInt, a0_3e15_0.toInt, a0_3e15_1.toInt, a0_3e15_2.toInt, a0_3e15_3.toInt, a0_3e15_4.toInt]), (fl_nF [(fl_A fa0_3e0_5), (fl_A fa0_3e0_6), (fl_A fa0_3e1_5), (fl_A fa0_3e1_6), (fl_A fa0_3e2_5), (fl_A fa0_3e2_6), (fl_A fa0_3e3_5), (fl_A fa0_3e3_6), (fl_A fa0_3e4_5), (fl_A fa0_3e4_6), (fl_A fa0_3e5_5), (fl_A fa0_3e5_6), (fl_A fa0_3e6_5), (fl_A fa0_3e6_6), (fl_A fa0_3e7_5), (fl_A fa0_3e7_6), (fl_A v23nfa0_5), (fl_A v23nfa0_6), (fl_A fa0_3e9_5), (fl_A fa0_3e9_6), (fl_A fa0_3e10_5), (fl_A fa0_3e10_6), (fl_A fa0_3e11_5), (fl_A fa0_3e11_6), (fl_A fa0_3e12_5), (fl_A fa0_3e12_6), (fl_A fa0_3e13_5), (fl_A fa0_3e13_6), (fl_A fa0_3e14_5), (fl_A fa0_3e14_6), (fl_A fa0_3e15_5), (fl_A fa0_3e15_6)]))) from hFe), by rw [ht]; exact hP, va_K.moved hW.alike hK, hD⟩, hS.F ht⟩) hS.2.2 dX1_keep_41
  · subst hv21
    have hF0 := hF0.trans (if_neg (by decide))
    have hF0 := hF0.trans (if_neg (by decide))
    have hF0 := hF0.trans (if_neg (by decide))
    have hF0 := hF0.trans (if_neg (by decide))
    have hF0 := hF0.trans (if_neg (by decide))
    have hF0 := hF0.trans (if_neg (by decide))
    have hF0 := hF0.trans (if_neg (by decide))
    have hF0 := hF0.trans (if_neg (by decide))
    have hF0 := hF0.trans (if_neg (by decide))
    have hF0 := hF0.trans (if_pos (by decide))
    refine va_aldq hx hb hK hP 1 0 rfl rfl (i := 9) (by unfold vp_in; decide +kernel) dX1_keep_21 ?_
    refine ax_tv (.ref a0_3e9) rfl ?_
    refine lv_aload_n hx hb dX1_keep_22 rfl (lv_at hl 1 rfl) ?_
    refine zc_cutc (wc := [(a0_3e9, .inr (5, [.int a0_3e9_0, .int a0_3e9_1, .int a0_3e9_2, .int a0_3e9_3, .int a0_3e9_4, .ref a0_3e9_5, .ref a0_3e9_6])), (a1, .inr (5, [.int a1_0, .int a1_1, .int a1_2, .int a1_3, .int a1_4, .ref a1_5, .ref a1_6])), (a1_5, .inl (ka1_5, 9, .inl (fa1_5))), (a0_3e9_5, .inl (ka0_3e9_5, 9, .inl (fa0_3e9_5))), (a1_6, .inl (ka1_6, 9, .inl (fa1_6))), (a0_3e9_6, .inl (ka0_3e9_6, 9, .inl (fa0_3e9_6)))]) hP hD hS hA [32, 3, 4, 33, 6, 34] (by decide +kernel) rfl (fun hPc hDc hFc hCc => ?_)
    have hKc := hK.sub (tys' := [(ka1_5, .int), (ka0_3e9_5, .int), (ka1_6, .int), (ka0_3e9_6, .int)]) [1, 21, 3, 22] rfl
    refine va_callv (va_runV (As := [.ref a1]) (rest := []) ⟨hx, hb, hml, hown, hts⟩ (f_X5_copyFrom l dC dI H.size a0_3e9 a1 a0_3e9_0 a0_3e9_1 a0_3e9_2 a0_3e9_3 a0_3e9_4 a0_3e9_5 a0_3e9_6 a1_0 a1_1 a1_2 a1_3 a1_4 a1_5 a1_6 ka1_5 fa1_5 ka0_3e9_5 fa0_3e9_5 ka1_6 fa1_6 ka0_3e9_6 fa0_3e9_6 ba0_3e9_1_l ba0_3e9_1_u ba1_1_l ba1_1_u) (cwV 1 hts gX1_keep_X5_copyFrom rfl rfl rfl zd_X5_copyFrom ⟨Nat.le_of_ble_eq_true rfl, Nat.le_of_ble_eq_true rfl⟩) ⟨ax_blind (fun _ _ _ _ _ => trivial), zr_5 hKc hPc (q0 := 0) rfl, ax_pre hPc hKc hDc (fun _ _ => trivial)⟩ rfl rfl hl.1 rfl (lv_room (Nat.le_of_ble_eq_true rfl)) dX1_keep_23 ⟨Nat.le_of_ble_eq_true rfl, Nat.le_of_ble_eq_true rfl⟩) hS (fun q _ h => hFc q h) hFc (fun u t H locs ht hvm hw => zx_7 (fun v23na0_0 v23na0_1 v23na0_2 v23na0_3 v23na0_4 v23nfa0_5 v23nfa0_6 => zy_2 (fun bv23na0_1 hraw23_0 hB hz1 hk1 hS1 => zo hB ht hS1 (fun hP1 hK1 hD1 hS => ?_))))
    refine zc_backc (w := [(a0, .inr (1, [.int a0_0, a0g_1, .int 9, .ref a0_3, a0g_4])), (a0_3, .inl (ka0_3, 16, .inr (.inr (.inr (.inr (fun i9 => ([some a0_3e0, some a0_3e1, some a0_3e2, some a0_3e3, some a0_3e4, some a0_3e5, some a0_3e6, some a0_3e7, some a0_3e8, some a0_3e9, some a0_3e10, some a0_3e11, some a0_3e12, some a0_3e13, some a0_3e14, some a0_3e15] : List (Option Nat)).getD i9 none)))))), (a0_3e0, .inr (5, [.int a0_3e0_0, .int a0_3e0_1, .int a0_3e0_2, .int a0_3e0_3, .int a0_3e0_4, .ref a0_3e0_5, .ref a0_3e0_6])), (a1, .inr (5, [.int a1_0, .int a1_1, .int a1_2, .int a1_3, .int a1_4, .ref a1_5, .ref a1_6])), (a1_5, .inl (ka1_5, 9, .inl (fa1_5))), (a0_3e0_5, .inl (ka0_3e0_5, 9, .inl (fa0_3e0_5))), (a1_6, .inl (ka1_6, 9, .inl (fa1_6))), (a0_3e0_6, .inl (ka0_3e0_6, 9, .inl (fa0_3e0_6))), (a0_3e1, .inr (5, [.int a0_3e1_0, .int a0_3e1_1, .int a0_3e1_2, .int a0_3e1_3, .int a0_3e1_4, .ref a0_3e1_5, .ref a0_3e1_6])), (a0_3e1_5, .inl (ka0_3e1_5, 9, .inl (fa0_3e1_5))), (a0_3e1_6, .inl (ka0_3e1_6, 9, .inl (fa0_3e1_6))), (a0_3e2, .inr (5, [.int a0_3e2_0, .int a0_3e2_1, .int a0_3e2_2, .int a0_3e2_3, .int a0_3e2_4, .ref a0_3e2_5, .ref a0_3e2_6])), (a0_3e2_5, .inl (ka0_3e2_5, 9, .inl (fa0_3e2_5))), (a0_3e2_6, .inl (ka0_3e2_6, 9, .inl (fa0_3e2_6))), (a0_3e3, .inr (5, [.int a0_3e3_0, .int a0_3e3_1, .int a0_3e3_2, .int a0_3e3_3, .int a0_3e3_4, .ref a0_3e3_5, .ref a0_3e3_6])), (a0_3e3_5, .inl (ka0_3e3_5, 9, .inl (fa0_3e3_5))), (a0_3e3_6, .inl (ka0_3e3_6, 9, .inl (fa0_3e3_6))), (a0_3e4, .inr (5, [.int a0_3e4_0, .int a0_3e4_1, .int a0_3e4_2, .int a0_3e4_3, .int a0_3e4_4, .ref a0_3e4_5, .ref a0_3e4_6])), (a0_3e4_5, .inl (ka0_3e4_5, 9, .inl (fa0_3e4_5))), (a0_3e4_6, .inl (ka0_3e4_6, 9, .inl (fa0_3e4_6))), (a0_3e5, .inr (5, [.int a0_3e5_0, .int a0_3e5_1, .int a0_3e5_2, .int a0_3e5_3, .int a0_3e5_4, .ref a0_3e5_5, .ref a0_3e5_6])), (a0_3e5_5, .inl (ka0_3e5_5, 9, .inl (fa0_3e5_5))), (a0_3e5_6, .inl (ka0_3e5_6, 9, .inl (fa0_3e5_6))), (a0_3e6, .inr (5, [.int a0_3e6_0, .int a0_3e6_1, .int a0_3e6_2, .int a0_3e6_3, .int a0_3e6_4, .ref a0_3e6_5, .ref a0_3e6_6])), (a0_3e6_5, .inl (ka0_3e6_5, 9, .inl (fa0_3e6_5))), (a0_3e6_6, .inl (ka0_3e6_6, 9, .inl (fa0_3e6_6))), (a0_3e7, .inr (5, [.int a0_3e7_0, .int a0_3e7_1, .int a0_3e7_2, .int a0_3e7_3, .int a0_3e7_4, .ref a0_3e7_5, .ref a0_3e7_6])), (a0_3e7_5, .inl (ka0_3e7_5, 9, .inl (fa0_3e7_5))), (a0_3e7_6, .inl (ka0_3e7_6, 9, .inl (fa0_3e7_6))), (a0_3e8, .inr (5, [.int a0_3e8_0, .int a0_3e8_1, .int a0_3e8_2, .int a0_3e8_3, .int a0_3e8_4, .ref a0_3e8_5, .ref a0_3e8_6])), (a0_3e8_5, .inl (ka0_3e8_5, 9, .inl (fa0_3e8_5))), (a0_3e8_6, .inl (ka0_3e8_6, 9, .inl (fa0_3e8_6))), (a0_3e9, .inr (5, [.int v23na0_0, .int v23na0_1, .int v23na0_2, .int v23na0_3, .int v23na0_4, .ref a0_3e9_5, .ref a0_3e9_6])), (a0_3e9_5, .inl (ka0_3e9_5, 9, .inl (v23nfa0_5))), (a0_3e9_6, .inl (ka0_3e9_6, 9, .inl (v23nfa0_6))), (a0_3e10, .inr (5, [.int a0_3e10_0, .int a0_3e10_1, .int a0_3e10_2, .int a0_3e10_3, .int a0_3e10_4, .ref a0_3e10_5, .ref a0_3e10_6])), (a0_3e10_5, .inl (ka0_3e10_5, 9, .inl (fa0_3e10_5))), (a0_3e10_6, .inl (ka0_3e10_6, 9, .inl (fa0_3e10_6))), (a0_3e11, .inr (5, [.int a0_3e11_0, .int a0_3e11_1, .int a0_3e11_2, .int a0_3e11_3, .int a0_3e11_4, .ref a0_3e11_5, .ref a0_3e11_6])), (a0_3e11_5, .inl (ka0_3e11_5, 9, .inl (fa0_3e11_5))), (a0_3e11_6, .inl (ka0_3e11_6, 9, .inl (fa0_3e11_6))), (a0_3e12, .inr (5, [.int a0_3e12_0, .int a0_3e12_1, .int a0_3e12_2, .int a0_3e12_3, .int a0_3e12_4, .ref a0_3e12_5, .ref a0_3e12_6])), (a0_3e12_5, .inl (ka0_3e12_5, 9, .inl (fa0_3e12_5))), (a0_3e12_6, .inl (ka0_3e12_6, 9, .inl (fa0_3e12_6))), (a0_3e13, .inr (5, [.int a0_3e13_0, .int a0_3e13_1, .int a0_3e13_2, .int a0_3e13_3, .int a0_3e13_4, .ref a0_3e13_5, .ref a0_3e13_6])), (a0_3e13_5, .inl (ka0_3e13_5, 9, .inl (fa0_3e13_5))), (a0_3e13_6, .inl (ka0_3e13_6, 9, .inl (fa0_3e13_6))), (a0_3e14, .inr (5, [.int a0_3e14_0, .int a0_3e14_1, .int a0_3e14_2, .int a0_3e14_3, .int a0_3e14_4, .ref a0_3e14_5, .ref a0_3e14_6])), (a0_3e14_5, .inl (ka0_3e14_5, 9, .inl (fa0_3e14_5))), (a0_3e14_6, .inl (ka0_3e14_6, 9, .inl (fa0_3e14_6))), (a0_3e15, .inr (5, [.int a0_3e15_0, .int a0_3e15_1, .int a0_3e15_2, .int a0_3e15_3, .int a0_3e15_4, .ref a0_3e15_5, .ref a0_3e15_6])), (a0_3e15_5, .inl (ka0_3e15_5, 9, .inl (fa0_3e15_5))), (a0_3e15_6, .inl (ka0_3e15_6, 9, .inl (fa0_3e15_6)))]) hP hD hCc hk1 hFc hP1 hD1 [.inl 0, .inl 1, .inl 2, .inr 1, .inr 2, .inl 5, .inr 4, .inl 7, .inl 8, .inl 9, .inl 10, .inl 11, .inl 12, .inl 13, .inl 14, .inl 15, .inl 16, .inl 17, .inl 18, .inl 19, .inl 20, .inl 21, .inl 22, .inl 23, .inl 24, .inl 25, .inl 26, .inl 27, .inl 28, .inl 29, .inl 30, .inl 31, .inr 0, .inr 3, .inr 5, .inl 35, .inl 36, .inl 37, .inl 38, .inl 39, .inl 40, .inl 41, .inl 42, .inl 43, .inl 44, .inl 45, .inl 46, .inl 47, .inl 48, .inl 49, .inl 50, .inl 51, .inl 52] (by decide +kernel) rfl (fun hP hD => ?_)
    have hc23 : Ff_X5_copyFrom a1_0.toInt a1_1.toInt a1_2.toInt a1_3.toInt a1_4.toInt (fl_A fa1_5) (fl_A fa0_3e9_5) (fl_A fa1_6) (fl_A fa0_3e9_6) = (v23na0_0.toInt, v23na0_1.toInt, v23na0_2.toInt, v23na0_3.toInt, v23na0_4.toInt, (fl_A v23nfa0_5), (fl_A v23nfa0_6)) := hraw23_0
    have hF0 := hF0.trans (fl_c7_eq hc23)
    refine lv_aload_n hx hb dX1_keep_26 rfl (lv_at hl 0 rfl) ?_
    refine lv_aload_n hx hb dX1_keep_27 rfl (lv_at hl 0 rfl) ?_
    refine va_get (D := (dC, dI)) (ci := 1) (v := .int a0_0) (C := RX1) (T := TX1) (N := 5) hx hb hts zi_X1_keep_1 hown hK hP 0 rfl rfl 0 (by decide) (hts (.fieldLink RX1 21 "WaxTurns$History" "keptCount" "I") (List.mem_cons_of_mem _ (List.mem_append_left _ (List.mem_append_left _ (List.mem_of_getElem? (i := 2) rfl))))) (fun _ h9 => h9) rfl dX1_keep_28 ?_
    refine lv_iconst (v := 1) hx hb dX1_keep_31 zk_iconst_1 ?_
    refine lv_iadd hx hb dX1_keep_32 ?_
    refine lv_topi (fun x32 ex32 => ?_)
    have qx32 : x32.toInt = a0_0.toInt + (1 : Int32).toInt := ai_add ex32 ⟨ba0_0_l, ba0_0_u⟩ ⟨zq1, zq0⟩ (by decide) (by decide)
    have bx32 : (1 : Int) ≤ x32.toInt ∧ x32.toInt ≤ 17 := ⟨by rw [qx32]; exact Int.add_le_add ba0_0_l zq1, by rw [qx32]; exact Int.add_le_add ba0_0_u zq0⟩
    have wx32 : x32.toInt = a0_0.toInt + 1 := qx32
    have hF0 := hF0.trans (fl_lt_eq (show x32.toInt = a0_0.toInt + 1 from qx32))
    refine lv_bipush (v := 16) hx hb dX1_keep_33 zk_bipush_16 ?_
    refine va_mmin hx hb (by rw [hml]; exact hl.1.symm) hown (hts (.methodLink RX1 35 Lib.Math.min.name) (List.mem_cons_of_mem _ (List.mem_append_left _ (List.mem_append_left _ (List.mem_of_getElem? (i := 3) rfl))))) (hts (.static Lib.Math.min.name) (List.mem_cons_of_mem _ (List.mem_append_left _ (List.mem_append_left _ (List.mem_of_getElem? (i := 4) rfl))))) (hts (.initialized "java/lang/Math") (List.mem_cons_of_mem _ (List.mem_append_left _ (List.mem_append_left _ (List.mem_of_getElem? (i := 5) rfl))))) (hts _ mnX1_keep) (Nat.le_of_ble_eq_true rfl) (Nat.le_of_ble_eq_true rfl) (Nat.le_of_ble_eq_true rfl) (Nat.le_of_ble_eq_true rfl) dX1_keep_35 ?_
    refine lv_topi (fun x35 ex35 => ?_)
    have qx35 := ai_mmin ex35
    have bx35 : (1 : Int) ≤ x35.toInt ∧ x35.toInt ≤ 16 := by first | exact zg_mm qx35 bx32.1 zq110 bx32.2 zq111 (by decide) (by decide) (by decide) | exact zg_mm qx35 zq110 bx32.1 zq111 bx32.2 (by decide) (by decide) (by decide) | (have h1 := bx32.1; have h2 := zq110; have h3 := bx32.2; have h4 := zq111; omega)
    have fqx35 := fl_min_eq ex35
    have hF0 := hF0.trans (fl_lt_eq (show x35.toInt = fl_min x32.toInt 16 from fqx35))
    refine va_put (D := (dC, dI)) (ci := 1) (v := .int x35) (ty := .int) (C := RX1) (T := TX1) (N := 5) hx hb hts zi_X1_keep_1 tyX1 tyX1_ok nmX1 hown hK hP hD hS 0 rfl rfl 0 (by decide) (hts (.fieldLink RX1 21 "WaxTurns$History" "keptCount" "I") (List.mem_cons_of_mem _ (List.mem_append_left _ (List.mem_append_left _ (List.mem_of_getElem? (i := 2) rfl))))) (fun _ h9 => h9) rfl (tyX1_ok 0 (by decide)) rfl rfl (Nat.le_of_ble_eq_true rfl) dX1_keep_38 (fun H locs hP hD hS => ?_)
    refine zs_0 (y := (a0, .inr (1, [.int x35, a0g_1, .int 9, .ref a0_3, a0g_4]))) hP hD rfl (fun hP hD => ?_)
    have hFe : FX = (x35.toInt, 9, (fl_nI [a0_3e0_0.toInt, a0_3e0_1.toInt, a0_3e0_2.toInt, a0_3e0_3.toInt, a0_3e0_4.toInt, a0_3e1_0.toInt, a0_3e1_1.toInt, a0_3e1_2.toInt, a0_3e1_3.toInt, a0_3e1_4.toInt, a0_3e2_0.toInt, a0_3e2_1.toInt, a0_3e2_2.toInt, a0_3e2_3.toInt, a0_3e2_4.toInt, a0_3e3_0.toInt, a0_3e3_1.toInt, a0_3e3_2.toInt, a0_3e3_3.toInt, a0_3e3_4.toInt, a0_3e4_0.toInt, a0_3e4_1.toInt, a0_3e4_2.toInt, a0_3e4_3.toInt, a0_3e4_4.toInt, a0_3e5_0.toInt, a0_3e5_1.toInt, a0_3e5_2.toInt, a0_3e5_3.toInt, a0_3e5_4.toInt, a0_3e6_0.toInt, a0_3e6_1.toInt, a0_3e6_2.toInt, a0_3e6_3.toInt, a0_3e6_4.toInt, a0_3e7_0.toInt, a0_3e7_1.toInt, a0_3e7_2.toInt, a0_3e7_3.toInt, a0_3e7_4.toInt, a0_3e8_0.toInt, a0_3e8_1.toInt, a0_3e8_2.toInt, a0_3e8_3.toInt, a0_3e8_4.toInt, v23na0_0.toInt, v23na0_1.toInt, v23na0_2.toInt, v23na0_3.toInt, v23na0_4.toInt, a0_3e10_0.toInt, a0_3e10_1.toInt, a0_3e10_2.toInt, a0_3e10_3.toInt, a0_3e10_4.toInt, a0_3e11_0.toInt, a0_3e11_1.toInt, a0_3e11_2.toInt, a0_3e11_3.toInt, a0_3e11_4.toInt, a0_3e12_0.toInt, a0_3e12_1.toInt, a0_3e12_2.toInt, a0_3e12_3.toInt, a0_3e12_4.toInt, a0_3e13_0.toInt, a0_3e13_1.toInt, a0_3e13_2.toInt, a0_3e13_3.toInt, a0_3e13_4.toInt, a0_3e14_0.toInt, a0_3e14_1.toInt, a0_3e14_2.toInt, a0_3e14_3.toInt, a0_3e14_4.toInt, a0_3e15_0.toInt, a0_3e15_1.toInt, a0_3e15_2.toInt, a0_3e15_3.toInt, a0_3e15_4.toInt]), (fl_nF [(fl_A fa0_3e0_5), (fl_A fa0_3e0_6), (fl_A fa0_3e1_5), (fl_A fa0_3e1_6), (fl_A fa0_3e2_5), (fl_A fa0_3e2_6), (fl_A fa0_3e3_5), (fl_A fa0_3e3_6), (fl_A fa0_3e4_5), (fl_A fa0_3e4_6), (fl_A fa0_3e5_5), (fl_A fa0_3e5_6), (fl_A fa0_3e6_5), (fl_A fa0_3e6_6), (fl_A fa0_3e7_5), (fl_A fa0_3e7_6), (fl_A fa0_3e8_5), (fl_A fa0_3e8_6), (fl_A v23nfa0_5), (fl_A v23nfa0_6), (fl_A fa0_3e10_5), (fl_A fa0_3e10_6), (fl_A fa0_3e11_5), (fl_A fa0_3e11_6), (fl_A fa0_3e12_5), (fl_A fa0_3e12_6), (fl_A fa0_3e13_5), (fl_A fa0_3e13_6), (fl_A fa0_3e14_5), (fl_A fa0_3e14_6), (fl_A fa0_3e15_5), (fl_A fa0_3e15_6)])) := hF0
    exact W.vret hx hb hr (fun t ht hW => ⟨⟨(), rfl, trivial, (fun i9 => ([x35, 9, a0_3e0_0, a0_3e0_1, a0_3e0_2, a0_3e0_3, a0_3e0_4, a0_3e1_0, a0_3e1_1, a0_3e1_2, a0_3e1_3, a0_3e1_4, a0_3e2_0, a0_3e2_1, a0_3e2_2, a0_3e2_3, a0_3e2_4, a0_3e3_0, a0_3e3_1, a0_3e3_2, a0_3e3_3, a0_3e3_4, a0_3e4_0, a0_3e4_1, a0_3e4_2, a0_3e4_3, a0_3e4_4, a0_3e5_0, a0_3e5_1, a0_3e5_2, a0_3e5_3, a0_3e5_4, a0_3e6_0, a0_3e6_1, a0_3e6_2, a0_3e6_3, a0_3e6_4, a0_3e7_0, a0_3e7_1, a0_3e7_2, a0_3e7_3, a0_3e7_4, a0_3e8_0, a0_3e8_1, a0_3e8_2, a0_3e8_3, a0_3e8_4, v23na0_0, v23na0_1, v23na0_2, v23na0_3, v23na0_4, a0_3e10_0, a0_3e10_1, a0_3e10_2, a0_3e10_3, a0_3e10_4, a0_3e11_0, a0_3e11_1, a0_3e11_2, a0_3e11_3, a0_3e11_4, a0_3e12_0, a0_3e12_1, a0_3e12_2, a0_3e12_3, a0_3e12_4, a0_3e13_0, a0_3e13_1, a0_3e13_2, a0_3e13_3, a0_3e13_4, a0_3e14_0, a0_3e14_1, a0_3e14_2, a0_3e14_3, a0_3e14_4, a0_3e15_0, a0_3e15_1, a0_3e15_2, a0_3e15_3, a0_3e15_4] : List Int32).getD i9 0), (fun i9 => ([fa0_3e0_5, fa0_3e0_6, fa0_3e1_5, fa0_3e1_6, fa0_3e2_5, fa0_3e2_6, fa0_3e3_5, fa0_3e3_6, fa0_3e4_5, fa0_3e4_6, fa0_3e5_5, fa0_3e5_6, fa0_3e6_5, fa0_3e6_6, fa0_3e7_5, fa0_3e7_6, fa0_3e8_5, fa0_3e8_6, v23nfa0_5, v23nfa0_6, fa0_3e10_5, fa0_3e10_6, fa0_3e11_5, fa0_3e11_6, fa0_3e12_5, fa0_3e12_6, fa0_3e13_5, fa0_3e13_6, fa0_3e14_5, fa0_3e14_6, fa0_3e15_5, fa0_3e15_6] : List (Nat → Int32)).getD i9 (fun _ => 0)), ⟨Int.le_trans (by decide) bx35.1, bx35.2⟩, ⟨Int.le_trans (by decide) zq2, Int.le_trans zq3 (by decide)⟩, ⟨ba0_3e0_1_l, ba0_3e0_1_u⟩, ⟨ba0_3e1_1_l, ba0_3e1_1_u⟩, ⟨ba0_3e2_1_l, ba0_3e2_1_u⟩, ⟨ba0_3e3_1_l, ba0_3e3_1_u⟩, ⟨ba0_3e4_1_l, ba0_3e4_1_u⟩, ⟨ba0_3e5_1_l, ba0_3e5_1_u⟩, ⟨ba0_3e6_1_l, ba0_3e6_1_u⟩, ⟨ba0_3e7_1_l, ba0_3e7_1_u⟩, ⟨ba0_3e8_1_l, ba0_3e8_1_u⟩, ⟨bv23na0_1.1, bv23na0_1.2⟩, ⟨ba0_3e10_1_l, ba0_3e10_1_u⟩, ⟨ba0_3e11_1_l, ba0_3e11_1_u⟩, ⟨ba0_3e12_1_l, ba0_3e12_1_u⟩, ⟨ba0_3e13_1_l, ba0_3e13_1_u⟩, ⟨ba0_3e14_1_l, ba0_3e14_1_u⟩, ⟨ba0_3e15_1_l, ba0_3e15_1_u⟩, (show (FX = (x35.toInt, (9 : Int32).toInt, (fl_nI [a0_3e0_0.toInt, a0_3e0_1.toInt, a0_3e0_2.toInt, a0_3e0_3.toInt, a0_3e0_4.toInt, a0_3e1_0.toInt, a0_3e1_1.toInt, a0_3e1_2.toInt, a0_3e1_3.toInt, a0_3e1_4.toInt, a0_3e2_0.toInt, a0_3e2_1.toInt, a0_3e2_2.toInt, a0_3e2_3.toInt, a0_3e2_4.toInt, a0_3e3_0.toInt, a0_3e3_1.toInt, a0_3e3_2.toInt, a0_3e3_3.toInt, a0_3e3_4.toInt, a0_3e4_0.toInt, a0_3e4_1.toInt, a0_3e4_2.toInt, a0_3e4_3.toInt, a0_3e4_4.toInt, a0_3e5_0.toInt, a0_3e5_1.toInt, a0_3e5_2.toInt, a0_3e5_3.toInt, a0_3e5_4.toInt, a0_3e6_0.toInt, a0_3e6_1.toInt, a0_3e6_2.toInt, a0_3e6_3.toInt, a0_3e6_4.toInt, a0_3e7_0.toInt, a0_3e7_1.toInt, a0_3e7_2.toInt, a0_3e7_3.toInt, a0_3e7_4.toInt, a0_3e8_0.toInt, a0_3e8_1.toInt, a0_3e8_2.toInt, a0_3e8_3.toInt, a0_3e8_4.toInt, v23na0_0.toInt, v23na0_1.toInt, v23na0_2.toInt, v23na0_3.toInt, v23na0_4.toInt, a0_3e10_0.toInt, a0_3e10_1.toInt, a0_3e10_2.toInt, a0_3e10_3.toInt, a0_3e10_4.toInt, a0_3e11_0.toInt, a0_3e11_1.toInt, a0_3e11_2.toInt, a0_3e11_3.toInt, a0_3e11_4.toInt, a0_3e12_0.toInt, a0_3e12_1.toInt, a0_3e12_2.toInt, a0_3e12_3.toInt, a0_3e12_4.toInt, a0_3e13_0.toInt, a0_3e13_1.toInt, a0_3e13_2.toInt, a0_3e13_3.toInt, a0_3e13_4.toInt, a0_3e14_0.toInt, a0_3e14_1.toInt, a0_3e14_2.toInt, a0_3e14_3.toInt, a0_3e14_4.toInt, a0_3e15_0.toInt, a0_3e15_1.toInt, a0_3e15_2.toInt, a0_3e15_3.toInt, a0_3e15_4.toInt]), (fl_nF [(fl_A fa0_3e0_5), (fl_A fa0_3e0_6), (fl_A fa0_3e1_5), (fl_A fa0_3e1_6), (fl_A fa0_3e2_5), (fl_A fa0_3e2_6), (fl_A fa0_3e3_5), (fl_A fa0_3e3_6), (fl_A fa0_3e4_5), (fl_A fa0_3e4_6), (fl_A fa0_3e5_5), (fl_A fa0_3e5_6), (fl_A fa0_3e6_5), (fl_A fa0_3e6_6), (fl_A fa0_3e7_5), (fl_A fa0_3e7_6), (fl_A fa0_3e8_5), (fl_A fa0_3e8_6), (fl_A v23nfa0_5), (fl_A v23nfa0_6), (fl_A fa0_3e10_5), (fl_A fa0_3e10_6), (fl_A fa0_3e11_5), (fl_A fa0_3e11_6), (fl_A fa0_3e12_5), (fl_A fa0_3e12_6), (fl_A fa0_3e13_5), (fl_A fa0_3e13_6), (fl_A fa0_3e14_5), (fl_A fa0_3e14_6), (fl_A fa0_3e15_5), (fl_A fa0_3e15_6)]))) from hFe), by rw [ht]; exact hP, va_K.moved hW.alike hK, hD⟩, hS.F ht⟩) hS.2.2 dX1_keep_41
  · subst hv21
    have hF0 := hF0.trans (if_neg (by decide))
    have hF0 := hF0.trans (if_neg (by decide))
    have hF0 := hF0.trans (if_neg (by decide))
    have hF0 := hF0.trans (if_neg (by decide))
    have hF0 := hF0.trans (if_neg (by decide))
    have hF0 := hF0.trans (if_neg (by decide))
    have hF0 := hF0.trans (if_neg (by decide))
    have hF0 := hF0.trans (if_neg (by decide))
    have hF0 := hF0.trans (if_neg (by decide))
    have hF0 := hF0.trans (if_neg (by decide))
    have hF0 := hF0.trans (if_pos (by decide))
    refine va_aldq hx hb hK hP 1 0 rfl rfl (i := 10) (by unfold vp_in; decide +kernel) dX1_keep_21 ?_
    refine ax_tv (.ref a0_3e10) rfl ?_
    refine lv_aload_n hx hb dX1_keep_22 rfl (lv_at hl 1 rfl) ?_
    refine zc_cutc (wc := [(a0_3e10, .inr (5, [.int a0_3e10_0, .int a0_3e10_1, .int a0_3e10_2, .int a0_3e10_3, .int a0_3e10_4, .ref a0_3e10_5, .ref a0_3e10_6])), (a1, .inr (5, [.int a1_0, .int a1_1, .int a1_2, .int a1_3, .int a1_4, .ref a1_5, .ref a1_6])), (a1_5, .inl (ka1_5, 9, .inl (fa1_5))), (a0_3e10_5, .inl (ka0_3e10_5, 9, .inl (fa0_3e10_5))), (a1_6, .inl (ka1_6, 9, .inl (fa1_6))), (a0_3e10_6, .inl (ka0_3e10_6, 9, .inl (fa0_3e10_6)))]) hP hD hS hA [35, 3, 4, 36, 6, 37] (by decide +kernel) rfl (fun hPc hDc hFc hCc => ?_)
    have hKc := hK.sub (tys' := [(ka1_5, .int), (ka0_3e10_5, .int), (ka1_6, .int), (ka0_3e10_6, .int)]) [1, 23, 3, 24] rfl
    refine va_callv (va_runV (As := [.ref a1]) (rest := []) ⟨hx, hb, hml, hown, hts⟩ (f_X5_copyFrom l dC dI H.size a0_3e10 a1 a0_3e10_0 a0_3e10_1 a0_3e10_2 a0_3e10_3 a0_3e10_4 a0_3e10_5 a0_3e10_6 a1_0 a1_1 a1_2 a1_3 a1_4 a1_5 a1_6 ka1_5 fa1_5 ka0_3e10_5 fa0_3e10_5 ka1_6 fa1_6 ka0_3e10_6 fa0_3e10_6 ba0_3e10_1_l ba0_3e10_1_u ba1_1_l ba1_1_u) (cwV 1 hts gX1_keep_X5_copyFrom rfl rfl rfl zd_X5_copyFrom ⟨Nat.le_of_ble_eq_true rfl, Nat.le_of_ble_eq_true rfl⟩) ⟨ax_blind (fun _ _ _ _ _ => trivial), zr_5 hKc hPc (q0 := 0) rfl, ax_pre hPc hKc hDc (fun _ _ => trivial)⟩ rfl rfl hl.1 rfl (lv_room (Nat.le_of_ble_eq_true rfl)) dX1_keep_23 ⟨Nat.le_of_ble_eq_true rfl, Nat.le_of_ble_eq_true rfl⟩) hS (fun q _ h => hFc q h) hFc (fun u t H locs ht hvm hw => zx_7 (fun v23na0_0 v23na0_1 v23na0_2 v23na0_3 v23na0_4 v23nfa0_5 v23nfa0_6 => zy_2 (fun bv23na0_1 hraw23_0 hB hz1 hk1 hS1 => zo hB ht hS1 (fun hP1 hK1 hD1 hS => ?_))))
    refine zc_backc (w := [(a0, .inr (1, [.int a0_0, a0g_1, .int 10, .ref a0_3, a0g_4])), (a0_3, .inl (ka0_3, 16, .inr (.inr (.inr (.inr (fun i9 => ([some a0_3e0, some a0_3e1, some a0_3e2, some a0_3e3, some a0_3e4, some a0_3e5, some a0_3e6, some a0_3e7, some a0_3e8, some a0_3e9, some a0_3e10, some a0_3e11, some a0_3e12, some a0_3e13, some a0_3e14, some a0_3e15] : List (Option Nat)).getD i9 none)))))), (a0_3e0, .inr (5, [.int a0_3e0_0, .int a0_3e0_1, .int a0_3e0_2, .int a0_3e0_3, .int a0_3e0_4, .ref a0_3e0_5, .ref a0_3e0_6])), (a1, .inr (5, [.int a1_0, .int a1_1, .int a1_2, .int a1_3, .int a1_4, .ref a1_5, .ref a1_6])), (a1_5, .inl (ka1_5, 9, .inl (fa1_5))), (a0_3e0_5, .inl (ka0_3e0_5, 9, .inl (fa0_3e0_5))), (a1_6, .inl (ka1_6, 9, .inl (fa1_6))), (a0_3e0_6, .inl (ka0_3e0_6, 9, .inl (fa0_3e0_6))), (a0_3e1, .inr (5, [.int a0_3e1_0, .int a0_3e1_1, .int a0_3e1_2, .int a0_3e1_3, .int a0_3e1_4, .ref a0_3e1_5, .ref a0_3e1_6])), (a0_3e1_5, .inl (ka0_3e1_5, 9, .inl (fa0_3e1_5))), (a0_3e1_6, .inl (ka0_3e1_6, 9, .inl (fa0_3e1_6))), (a0_3e2, .inr (5, [.int a0_3e2_0, .int a0_3e2_1, .int a0_3e2_2, .int a0_3e2_3, .int a0_3e2_4, .ref a0_3e2_5, .ref a0_3e2_6])), (a0_3e2_5, .inl (ka0_3e2_5, 9, .inl (fa0_3e2_5))), (a0_3e2_6, .inl (ka0_3e2_6, 9, .inl (fa0_3e2_6))), (a0_3e3, .inr (5, [.int a0_3e3_0, .int a0_3e3_1, .int a0_3e3_2, .int a0_3e3_3, .int a0_3e3_4, .ref a0_3e3_5, .ref a0_3e3_6])), (a0_3e3_5, .inl (ka0_3e3_5, 9, .inl (fa0_3e3_5))), (a0_3e3_6, .inl (ka0_3e3_6, 9, .inl (fa0_3e3_6))), (a0_3e4, .inr (5, [.int a0_3e4_0, .int a0_3e4_1, .int a0_3e4_2, .int a0_3e4_3, .int a0_3e4_4, .ref a0_3e4_5, .ref a0_3e4_6])), (a0_3e4_5, .inl (ka0_3e4_5, 9, .inl (fa0_3e4_5))), (a0_3e4_6, .inl (ka0_3e4_6, 9, .inl (fa0_3e4_6))), (a0_3e5, .inr (5, [.int a0_3e5_0, .int a0_3e5_1, .int a0_3e5_2, .int a0_3e5_3, .int a0_3e5_4, .ref a0_3e5_5, .ref a0_3e5_6])), (a0_3e5_5, .inl (ka0_3e5_5, 9, .inl (fa0_3e5_5))), (a0_3e5_6, .inl (ka0_3e5_6, 9, .inl (fa0_3e5_6))), (a0_3e6, .inr (5, [.int a0_3e6_0, .int a0_3e6_1, .int a0_3e6_2, .int a0_3e6_3, .int a0_3e6_4, .ref a0_3e6_5, .ref a0_3e6_6])), (a0_3e6_5, .inl (ka0_3e6_5, 9, .inl (fa0_3e6_5))), (a0_3e6_6, .inl (ka0_3e6_6, 9, .inl (fa0_3e6_6))), (a0_3e7, .inr (5, [.int a0_3e7_0, .int a0_3e7_1, .int a0_3e7_2, .int a0_3e7_3, .int a0_3e7_4, .ref a0_3e7_5, .ref a0_3e7_6])), (a0_3e7_5, .inl (ka0_3e7_5, 9, .inl (fa0_3e7_5))), (a0_3e7_6, .inl (ka0_3e7_6, 9, .inl (fa0_3e7_6))), (a0_3e8, .inr (5, [.int a0_3e8_0, .int a0_3e8_1, .int a0_3e8_2, .int a0_3e8_3, .int a0_3e8_4, .ref a0_3e8_5, .ref a0_3e8_6])), (a0_3e8_5, .inl (ka0_3e8_5, 9, .inl (fa0_3e8_5))), (a0_3e8_6, .inl (ka0_3e8_6, 9, .inl (fa0_3e8_6))), (a0_3e9, .inr (5, [.int a0_3e9_0, .int a0_3e9_1, .int a0_3e9_2, .int a0_3e9_3, .int a0_3e9_4, .ref a0_3e9_5, .ref a0_3e9_6])), (a0_3e9_5, .inl (ka0_3e9_5, 9, .inl (fa0_3e9_5))), (a0_3e9_6, .inl (ka0_3e9_6, 9, .inl (fa0_3e9_6))), (a0_3e10, .inr (5, [.int v23na0_0, .int v23na0_1, .int v23na0_2, .int v23na0_3, .int v23na0_4, .ref a0_3e10_5, .ref a0_3e10_6])), (a0_3e10_5, .inl (ka0_3e10_5, 9, .inl (v23nfa0_5))), (a0_3e10_6, .inl (ka0_3e10_6, 9, .inl (v23nfa0_6))), (a0_3e11, .inr (5, [.int a0_3e11_0, .int a0_3e11_1, .int a0_3e11_2, .int a0_3e11_3, .int a0_3e11_4, .ref a0_3e11_5, .ref a0_3e11_6])), (a0_3e11_5, .inl (ka0_3e11_5, 9, .inl (fa0_3e11_5))), (a0_3e11_6, .inl (ka0_3e11_6, 9, .inl (fa0_3e11_6))), (a0_3e12, .inr (5, [.int a0_3e12_0, .int a0_3e12_1, .int a0_3e12_2, .int a0_3e12_3, .int a0_3e12_4, .ref a0_3e12_5, .ref a0_3e12_6])), (a0_3e12_5, .inl (ka0_3e12_5, 9, .inl (fa0_3e12_5))), (a0_3e12_6, .inl (ka0_3e12_6, 9, .inl (fa0_3e12_6))), (a0_3e13, .inr (5, [.int a0_3e13_0, .int a0_3e13_1, .int a0_3e13_2, .int a0_3e13_3, .int a0_3e13_4, .ref a0_3e13_5, .ref a0_3e13_6])), (a0_3e13_5, .inl (ka0_3e13_5, 9, .inl (fa0_3e13_5))), (a0_3e13_6, .inl (ka0_3e13_6, 9, .inl (fa0_3e13_6))), (a0_3e14, .inr (5, [.int a0_3e14_0, .int a0_3e14_1, .int a0_3e14_2, .int a0_3e14_3, .int a0_3e14_4, .ref a0_3e14_5, .ref a0_3e14_6])), (a0_3e14_5, .inl (ka0_3e14_5, 9, .inl (fa0_3e14_5))), (a0_3e14_6, .inl (ka0_3e14_6, 9, .inl (fa0_3e14_6))), (a0_3e15, .inr (5, [.int a0_3e15_0, .int a0_3e15_1, .int a0_3e15_2, .int a0_3e15_3, .int a0_3e15_4, .ref a0_3e15_5, .ref a0_3e15_6])), (a0_3e15_5, .inl (ka0_3e15_5, 9, .inl (fa0_3e15_5))), (a0_3e15_6, .inl (ka0_3e15_6, 9, .inl (fa0_3e15_6)))]) hP hD hCc hk1 hFc hP1 hD1 [.inl 0, .inl 1, .inl 2, .inr 1, .inr 2, .inl 5, .inr 4, .inl 7, .inl 8, .inl 9, .inl 10, .inl 11, .inl 12, .inl 13, .inl 14, .inl 15, .inl 16, .inl 17, .inl 18, .inl 19, .inl 20, .inl 21, .inl 22, .inl 23, .inl 24, .inl 25, .inl 26, .inl 27, .inl 28, .inl 29, .inl 30, .inl 31, .inl 32, .inl 33, .inl 34, .inr 0, .inr 3, .inr 5, .inl 38, .inl 39, .inl 40, .inl 41, .inl 42, .inl 43, .inl 44, .inl 45, .inl 46, .inl 47, .inl 48, .inl 49, .inl 50, .inl 51, .inl 52] (by decide +kernel) rfl (fun hP hD => ?_)
    have hc23 : Ff_X5_copyFrom a1_0.toInt a1_1.toInt a1_2.toInt a1_3.toInt a1_4.toInt (fl_A fa1_5) (fl_A fa0_3e10_5) (fl_A fa1_6) (fl_A fa0_3e10_6) = (v23na0_0.toInt, v23na0_1.toInt, v23na0_2.toInt, v23na0_3.toInt, v23na0_4.toInt, (fl_A v23nfa0_5), (fl_A v23nfa0_6)) := hraw23_0
    have hF0 := hF0.trans (fl_c7_eq hc23)
    refine lv_aload_n hx hb dX1_keep_26 rfl (lv_at hl 0 rfl) ?_
    refine lv_aload_n hx hb dX1_keep_27 rfl (lv_at hl 0 rfl) ?_
    refine va_get (D := (dC, dI)) (ci := 1) (v := .int a0_0) (C := RX1) (T := TX1) (N := 5) hx hb hts zi_X1_keep_1 hown hK hP 0 rfl rfl 0 (by decide) (hts (.fieldLink RX1 21 "WaxTurns$History" "keptCount" "I") (List.mem_cons_of_mem _ (List.mem_append_left _ (List.mem_append_left _ (List.mem_of_getElem? (i := 2) rfl))))) (fun _ h9 => h9) rfl dX1_keep_28 ?_
    refine lv_iconst (v := 1) hx hb dX1_keep_31 zk_iconst_1 ?_
    refine lv_iadd hx hb dX1_keep_32 ?_
    refine lv_topi (fun x32 ex32 => ?_)
    have qx32 : x32.toInt = a0_0.toInt + (1 : Int32).toInt := ai_add ex32 ⟨ba0_0_l, ba0_0_u⟩ ⟨zq1, zq0⟩ (by decide) (by decide)
    have bx32 : (1 : Int) ≤ x32.toInt ∧ x32.toInt ≤ 17 := ⟨by rw [qx32]; exact Int.add_le_add ba0_0_l zq1, by rw [qx32]; exact Int.add_le_add ba0_0_u zq0⟩
    have wx32 : x32.toInt = a0_0.toInt + 1 := qx32
    have hF0 := hF0.trans (fl_lt_eq (show x32.toInt = a0_0.toInt + 1 from qx32))
    refine lv_bipush (v := 16) hx hb dX1_keep_33 zk_bipush_16 ?_
    refine va_mmin hx hb (by rw [hml]; exact hl.1.symm) hown (hts (.methodLink RX1 35 Lib.Math.min.name) (List.mem_cons_of_mem _ (List.mem_append_left _ (List.mem_append_left _ (List.mem_of_getElem? (i := 3) rfl))))) (hts (.static Lib.Math.min.name) (List.mem_cons_of_mem _ (List.mem_append_left _ (List.mem_append_left _ (List.mem_of_getElem? (i := 4) rfl))))) (hts (.initialized "java/lang/Math") (List.mem_cons_of_mem _ (List.mem_append_left _ (List.mem_append_left _ (List.mem_of_getElem? (i := 5) rfl))))) (hts _ mnX1_keep) (Nat.le_of_ble_eq_true rfl) (Nat.le_of_ble_eq_true rfl) (Nat.le_of_ble_eq_true rfl) (Nat.le_of_ble_eq_true rfl) dX1_keep_35 ?_
    refine lv_topi (fun x35 ex35 => ?_)
    have qx35 := ai_mmin ex35
    have bx35 : (1 : Int) ≤ x35.toInt ∧ x35.toInt ≤ 16 := by first | exact zg_mm qx35 bx32.1 zq110 bx32.2 zq111 (by decide) (by decide) (by decide) | exact zg_mm qx35 zq110 bx32.1 zq111 bx32.2 (by decide) (by decide) (by decide) | (have h1 := bx32.1; have h2 := zq110; have h3 := bx32.2; have h4 := zq111; omega)
    have fqx35 := fl_min_eq ex35
    have hF0 := hF0.trans (fl_lt_eq (show x35.toInt = fl_min x32.toInt 16 from fqx35))
    refine va_put (D := (dC, dI)) (ci := 1) (v := .int x35) (ty := .int) (C := RX1) (T := TX1) (N := 5) hx hb hts zi_X1_keep_1 tyX1 tyX1_ok nmX1 hown hK hP hD hS 0 rfl rfl 0 (by decide) (hts (.fieldLink RX1 21 "WaxTurns$History" "keptCount" "I") (List.mem_cons_of_mem _ (List.mem_append_left _ (List.mem_append_left _ (List.mem_of_getElem? (i := 2) rfl))))) (fun _ h9 => h9) rfl (tyX1_ok 0 (by decide)) rfl rfl (Nat.le_of_ble_eq_true rfl) dX1_keep_38 (fun H locs hP hD hS => ?_)
    refine zs_0 (y := (a0, .inr (1, [.int x35, a0g_1, .int 10, .ref a0_3, a0g_4]))) hP hD rfl (fun hP hD => ?_)
    have hFe : FX = (x35.toInt, 10, (fl_nI [a0_3e0_0.toInt, a0_3e0_1.toInt, a0_3e0_2.toInt, a0_3e0_3.toInt, a0_3e0_4.toInt, a0_3e1_0.toInt, a0_3e1_1.toInt, a0_3e1_2.toInt, a0_3e1_3.toInt, a0_3e1_4.toInt, a0_3e2_0.toInt, a0_3e2_1.toInt, a0_3e2_2.toInt, a0_3e2_3.toInt, a0_3e2_4.toInt, a0_3e3_0.toInt, a0_3e3_1.toInt, a0_3e3_2.toInt, a0_3e3_3.toInt, a0_3e3_4.toInt, a0_3e4_0.toInt, a0_3e4_1.toInt, a0_3e4_2.toInt, a0_3e4_3.toInt, a0_3e4_4.toInt, a0_3e5_0.toInt, a0_3e5_1.toInt, a0_3e5_2.toInt, a0_3e5_3.toInt, a0_3e5_4.toInt, a0_3e6_0.toInt, a0_3e6_1.toInt, a0_3e6_2.toInt, a0_3e6_3.toInt, a0_3e6_4.toInt, a0_3e7_0.toInt, a0_3e7_1.toInt, a0_3e7_2.toInt, a0_3e7_3.toInt, a0_3e7_4.toInt, a0_3e8_0.toInt, a0_3e8_1.toInt, a0_3e8_2.toInt, a0_3e8_3.toInt, a0_3e8_4.toInt, a0_3e9_0.toInt, a0_3e9_1.toInt, a0_3e9_2.toInt, a0_3e9_3.toInt, a0_3e9_4.toInt, v23na0_0.toInt, v23na0_1.toInt, v23na0_2.toInt, v23na0_3.toInt, v23na0_4.toInt, a0_3e11_0.toInt, a0_3e11_1.toInt, a0_3e11_2.toInt, a0_3e11_3.toInt, a0_3e11_4.toInt, a0_3e12_0.toInt, a0_3e12_1.toInt, a0_3e12_2.toInt, a0_3e12_3.toInt, a0_3e12_4.toInt, a0_3e13_0.toInt, a0_3e13_1.toInt, a0_3e13_2.toInt, a0_3e13_3.toInt, a0_3e13_4.toInt, a0_3e14_0.toInt, a0_3e14_1.toInt, a0_3e14_2.toInt, a0_3e14_3.toInt, a0_3e14_4.toInt, a0_3e15_0.toInt, a0_3e15_1.toInt, a0_3e15_2.toInt, a0_3e15_3.toInt, a0_3e15_4.toInt]), (fl_nF [(fl_A fa0_3e0_5), (fl_A fa0_3e0_6), (fl_A fa0_3e1_5), (fl_A fa0_3e1_6), (fl_A fa0_3e2_5), (fl_A fa0_3e2_6), (fl_A fa0_3e3_5), (fl_A fa0_3e3_6), (fl_A fa0_3e4_5), (fl_A fa0_3e4_6), (fl_A fa0_3e5_5), (fl_A fa0_3e5_6), (fl_A fa0_3e6_5), (fl_A fa0_3e6_6), (fl_A fa0_3e7_5), (fl_A fa0_3e7_6), (fl_A fa0_3e8_5), (fl_A fa0_3e8_6), (fl_A fa0_3e9_5), (fl_A fa0_3e9_6), (fl_A v23nfa0_5), (fl_A v23nfa0_6), (fl_A fa0_3e11_5), (fl_A fa0_3e11_6), (fl_A fa0_3e12_5), (fl_A fa0_3e12_6), (fl_A fa0_3e13_5), (fl_A fa0_3e13_6), (fl_A fa0_3e14_5), (fl_A fa0_3e14_6), (fl_A fa0_3e15_5), (fl_A fa0_3e15_6)])) := hF0
    exact W.vret hx hb hr (fun t ht hW => ⟨⟨(), rfl, trivial, (fun i9 => ([x35, 10, a0_3e0_0, a0_3e0_1, a0_3e0_2, a0_3e0_3, a0_3e0_4, a0_3e1_0, a0_3e1_1, a0_3e1_2, a0_3e1_3, a0_3e1_4, a0_3e2_0, a0_3e2_1, a0_3e2_2, a0_3e2_3, a0_3e2_4, a0_3e3_0, a0_3e3_1, a0_3e3_2, a0_3e3_3, a0_3e3_4, a0_3e4_0, a0_3e4_1, a0_3e4_2, a0_3e4_3, a0_3e4_4, a0_3e5_0, a0_3e5_1, a0_3e5_2, a0_3e5_3, a0_3e5_4, a0_3e6_0, a0_3e6_1, a0_3e6_2, a0_3e6_3, a0_3e6_4, a0_3e7_0, a0_3e7_1, a0_3e7_2, a0_3e7_3, a0_3e7_4, a0_3e8_0, a0_3e8_1, a0_3e8_2, a0_3e8_3, a0_3e8_4, a0_3e9_0, a0_3e9_1, a0_3e9_2, a0_3e9_3, a0_3e9_4, v23na0_0, v23na0_1, v23na0_2, v23na0_3, v23na0_4, a0_3e11_0, a0_3e11_1, a0_3e11_2, a0_3e11_3, a0_3e11_4, a0_3e12_0, a0_3e12_1, a0_3e12_2, a0_3e12_3, a0_3e12_4, a0_3e13_0, a0_3e13_1, a0_3e13_2, a0_3e13_3, a0_3e13_4, a0_3e14_0, a0_3e14_1, a0_3e14_2, a0_3e14_3, a0_3e14_4, a0_3e15_0, a0_3e15_1, a0_3e15_2, a0_3e15_3, a0_3e15_4] : List Int32).getD i9 0), (fun i9 => ([fa0_3e0_5, fa0_3e0_6, fa0_3e1_5, fa0_3e1_6, fa0_3e2_5, fa0_3e2_6, fa0_3e3_5, fa0_3e3_6, fa0_3e4_5, fa0_3e4_6, fa0_3e5_5, fa0_3e5_6, fa0_3e6_5, fa0_3e6_6, fa0_3e7_5, fa0_3e7_6, fa0_3e8_5, fa0_3e8_6, fa0_3e9_5, fa0_3e9_6, v23nfa0_5, v23nfa0_6, fa0_3e11_5, fa0_3e11_6, fa0_3e12_5, fa0_3e12_6, fa0_3e13_5, fa0_3e13_6, fa0_3e14_5, fa0_3e14_6, fa0_3e15_5, fa0_3e15_6] : List (Nat → Int32)).getD i9 (fun _ => 0)), ⟨Int.le_trans (by decide) bx35.1, bx35.2⟩, ⟨Int.le_trans (by decide) zq26, Int.le_trans zq27 (by decide)⟩, ⟨ba0_3e0_1_l, ba0_3e0_1_u⟩, ⟨ba0_3e1_1_l, ba0_3e1_1_u⟩, ⟨ba0_3e2_1_l, ba0_3e2_1_u⟩, ⟨ba0_3e3_1_l, ba0_3e3_1_u⟩, ⟨ba0_3e4_1_l, ba0_3e4_1_u⟩, ⟨ba0_3e5_1_l, ba0_3e5_1_u⟩, ⟨ba0_3e6_1_l, ba0_3e6_1_u⟩, ⟨ba0_3e7_1_l, ba0_3e7_1_u⟩, ⟨ba0_3e8_1_l, ba0_3e8_1_u⟩, ⟨ba0_3e9_1_l, ba0_3e9_1_u⟩, ⟨bv23na0_1.1, bv23na0_1.2⟩, ⟨ba0_3e11_1_l, ba0_3e11_1_u⟩, ⟨ba0_3e12_1_l, ba0_3e12_1_u⟩, ⟨ba0_3e13_1_l, ba0_3e13_1_u⟩, ⟨ba0_3e14_1_l, ba0_3e14_1_u⟩, ⟨ba0_3e15_1_l, ba0_3e15_1_u⟩, (show (FX = (x35.toInt, (10 : Int32).toInt, (fl_nI [a0_3e0_0.toInt, a0_3e0_1.toInt, a0_3e0_2.toInt, a0_3e0_3.toInt, a0_3e0_4.toInt, a0_3e1_0.toInt, a0_3e1_1.toInt, a0_3e1_2.toInt, a0_3e1_3.toInt, a0_3e1_4.toInt, a0_3e2_0.toInt, a0_3e2_1.toInt, a0_3e2_2.toInt, a0_3e2_3.toInt, a0_3e2_4.toInt, a0_3e3_0.toInt, a0_3e3_1.toInt, a0_3e3_2.toInt, a0_3e3_3.toInt, a0_3e3_4.toInt, a0_3e4_0.toInt, a0_3e4_1.toInt, a0_3e4_2.toInt, a0_3e4_3.toInt, a0_3e4_4.toInt, a0_3e5_0.toInt, a0_3e5_1.toInt, a0_3e5_2.toInt, a0_3e5_3.toInt, a0_3e5_4.toInt, a0_3e6_0.toInt, a0_3e6_1.toInt, a0_3e6_2.toInt, a0_3e6_3.toInt, a0_3e6_4.toInt, a0_3e7_0.toInt, a0_3e7_1.toInt, a0_3e7_2.toInt, a0_3e7_3.toInt, a0_3e7_4.toInt, a0_3e8_0.toInt, a0_3e8_1.toInt, a0_3e8_2.toInt, a0_3e8_3.toInt, a0_3e8_4.toInt, a0_3e9_0.toInt, a0_3e9_1.toInt, a0_3e9_2.toInt, a0_3e9_3.toInt, a0_3e9_4.toInt, v23na0_0.toInt, v23na0_1.toInt, v23na0_2.toInt, v23na0_3.toInt, v23na0_4.toInt, a0_3e11_0.toInt, a0_3e11_1.toInt, a0_3e11_2.toInt, a0_3e11_3.toInt, a0_3e11_4.toInt, a0_3e12_0.toInt, a0_3e12_1.toInt, a0_3e12_2.toInt, a0_3e12_3.toInt, a0_3e12_4.toInt, a0_3e13_0.toInt, a0_3e13_1.toInt, a0_3e13_2.toInt, a0_3e13_3.toInt, a0_3e13_4.toInt, a0_3e14_0.toInt, a0_3e14_1.toInt, a0_3e14_2.toInt, a0_3e14_3.toInt, a0_3e14_4.toInt, a0_3e15_0.toInt, a0_3e15_1.toInt, a0_3e15_2.toInt, a0_3e15_3.toInt, a0_3e15_4.toInt]), (fl_nF [(fl_A fa0_3e0_5), (fl_A fa0_3e0_6), (fl_A fa0_3e1_5), (fl_A fa0_3e1_6), (fl_A fa0_3e2_5), (fl_A fa0_3e2_6), (fl_A fa0_3e3_5), (fl_A fa0_3e3_6), (fl_A fa0_3e4_5), (fl_A fa0_3e4_6), (fl_A fa0_3e5_5), (fl_A fa0_3e5_6), (fl_A fa0_3e6_5), (fl_A fa0_3e6_6), (fl_A fa0_3e7_5), (fl_A fa0_3e7_6), (fl_A fa0_3e8_5), (fl_A fa0_3e8_6), (fl_A fa0_3e9_5), (fl_A fa0_3e9_6), (fl_A v23nfa0_5), (fl_A v23nfa0_6), (fl_A fa0_3e11_5), (fl_A fa0_3e11_6), (fl_A fa0_3e12_5), (fl_A fa0_3e12_6), (fl_A fa0_3e13_5), (fl_A fa0_3e13_6), (fl_A fa0_3e14_5), (fl_A fa0_3e14_6), (fl_A fa0_3e15_5), (fl_A fa0_3e15_6)]))) from hFe), by rw [ht]; exact hP, va_K.moved hW.alike hK, hD⟩, hS.F ht⟩) hS.2.2 dX1_keep_41
  · subst hv21
    have hF0 := hF0.trans (if_neg (by decide))
    have hF0 := hF0.trans (if_neg (by decide))
    have hF0 := hF0.trans (if_neg (by decide))
    have hF0 := hF0.trans (if_neg (by decide))
    have hF0 := hF0.trans (if_neg (by decide))
    have hF0 := hF0.trans (if_neg (by decide))
    have hF0 := hF0.trans (if_neg (by decide))
    have hF0 := hF0.trans (if_neg (by decide))
    have hF0 := hF0.trans (if_neg (by decide))
    have hF0 := hF0.trans (if_neg (by decide))
    have hF0 := hF0.trans (if_neg (by decide))
    have hF0 := hF0.trans (if_pos (by decide))
    refine va_aldq hx hb hK hP 1 0 rfl rfl (i := 11) (by unfold vp_in; decide +kernel) dX1_keep_21 ?_
    refine ax_tv (.ref a0_3e11) rfl ?_
    refine lv_aload_n hx hb dX1_keep_22 rfl (lv_at hl 1 rfl) ?_
    refine zc_cutc (wc := [(a0_3e11, .inr (5, [.int a0_3e11_0, .int a0_3e11_1, .int a0_3e11_2, .int a0_3e11_3, .int a0_3e11_4, .ref a0_3e11_5, .ref a0_3e11_6])), (a1, .inr (5, [.int a1_0, .int a1_1, .int a1_2, .int a1_3, .int a1_4, .ref a1_5, .ref a1_6])), (a1_5, .inl (ka1_5, 9, .inl (fa1_5))), (a0_3e11_5, .inl (ka0_3e11_5, 9, .inl (fa0_3e11_5))), (a1_6, .inl (ka1_6, 9, .inl (fa1_6))), (a0_3e11_6, .inl (ka0_3e11_6, 9, .inl (fa0_3e11_6)))]) hP hD hS hA [38, 3, 4, 39, 6, 40] (by decide +kernel) rfl (fun hPc hDc hFc hCc => ?_)
    have hKc := hK.sub (tys' := [(ka1_5, .int), (ka0_3e11_5, .int), (ka1_6, .int), (ka0_3e11_6, .int)]) [1, 25, 3, 26] rfl
    refine va_callv (va_runV (As := [.ref a1]) (rest := []) ⟨hx, hb, hml, hown, hts⟩ (f_X5_copyFrom l dC dI H.size a0_3e11 a1 a0_3e11_0 a0_3e11_1 a0_3e11_2 a0_3e11_3 a0_3e11_4 a0_3e11_5 a0_3e11_6 a1_0 a1_1 a1_2 a1_3 a1_4 a1_5 a1_6 ka1_5 fa1_5 ka0_3e11_5 fa0_3e11_5 ka1_6 fa1_6 ka0_3e11_6 fa0_3e11_6 ba0_3e11_1_l ba0_3e11_1_u ba1_1_l ba1_1_u) (cwV 1 hts gX1_keep_X5_copyFrom rfl rfl rfl zd_X5_copyFrom ⟨Nat.le_of_ble_eq_true rfl, Nat.le_of_ble_eq_true rfl⟩) ⟨ax_blind (fun _ _ _ _ _ => trivial), zr_5 hKc hPc (q0 := 0) rfl, ax_pre hPc hKc hDc (fun _ _ => trivial)⟩ rfl rfl hl.1 rfl (lv_room (Nat.le_of_ble_eq_true rfl)) dX1_keep_23 ⟨Nat.le_of_ble_eq_true rfl, Nat.le_of_ble_eq_true rfl⟩) hS (fun q _ h => hFc q h) hFc (fun u t H locs ht hvm hw => zx_7 (fun v23na0_0 v23na0_1 v23na0_2 v23na0_3 v23na0_4 v23nfa0_5 v23nfa0_6 => zy_2 (fun bv23na0_1 hraw23_0 hB hz1 hk1 hS1 => zo hB ht hS1 (fun hP1 hK1 hD1 hS => ?_))))
    refine zc_backc (w := [(a0, .inr (1, [.int a0_0, a0g_1, .int 11, .ref a0_3, a0g_4])), (a0_3, .inl (ka0_3, 16, .inr (.inr (.inr (.inr (fun i9 => ([some a0_3e0, some a0_3e1, some a0_3e2, some a0_3e3, some a0_3e4, some a0_3e5, some a0_3e6, some a0_3e7, some a0_3e8, some a0_3e9, some a0_3e10, some a0_3e11, some a0_3e12, some a0_3e13, some a0_3e14, some a0_3e15] : List (Option Nat)).getD i9 none)))))), (a0_3e0, .inr (5, [.int a0_3e0_0, .int a0_3e0_1, .int a0_3e0_2, .int a0_3e0_3, .int a0_3e0_4, .ref a0_3e0_5, .ref a0_3e0_6])), (a1, .inr (5, [.int a1_0, .int a1_1, .int a1_2, .int a1_3, .int a1_4, .ref a1_5, .ref a1_6])), (a1_5, .inl (ka1_5, 9, .inl (fa1_5))), (a0_3e0_5, .inl (ka0_3e0_5, 9, .inl (fa0_3e0_5))), (a1_6, .inl (ka1_6, 9, .inl (fa1_6))), (a0_3e0_6, .inl (ka0_3e0_6, 9, .inl (fa0_3e0_6))), (a0_3e1, .inr (5, [.int a0_3e1_0, .int a0_3e1_1, .int a0_3e1_2, .int a0_3e1_3, .int a0_3e1_4, .ref a0_3e1_5, .ref a0_3e1_6])), (a0_3e1_5, .inl (ka0_3e1_5, 9, .inl (fa0_3e1_5))), (a0_3e1_6, .inl (ka0_3e1_6, 9, .inl (fa0_3e1_6))), (a0_3e2, .inr (5, [.int a0_3e2_0, .int a0_3e2_1, .int a0_3e2_2, .int a0_3e2_3, .int a0_3e2_4, .ref a0_3e2_5, .ref a0_3e2_6])), (a0_3e2_5, .inl (ka0_3e2_5, 9, .inl (fa0_3e2_5))), (a0_3e2_6, .inl (ka0_3e2_6, 9, .inl (fa0_3e2_6))), (a0_3e3, .inr (5, [.int a0_3e3_0, .int a0_3e3_1, .int a0_3e3_2, .int a0_3e3_3, .int a0_3e3_4, .ref a0_3e3_5, .ref a0_3e3_6])), (a0_3e3_5, .inl (ka0_3e3_5, 9, .inl (fa0_3e3_5))), (a0_3e3_6, .inl (ka0_3e3_6, 9, .inl (fa0_3e3_6))), (a0_3e4, .inr (5, [.int a0_3e4_0, .int a0_3e4_1, .int a0_3e4_2, .int a0_3e4_3, .int a0_3e4_4, .ref a0_3e4_5, .ref a0_3e4_6])), (a0_3e4_5, .inl (ka0_3e4_5, 9, .inl (fa0_3e4_5))), (a0_3e4_6, .inl (ka0_3e4_6, 9, .inl (fa0_3e4_6))), (a0_3e5, .inr (5, [.int a0_3e5_0, .int a0_3e5_1, .int a0_3e5_2, .int a0_3e5_3, .int a0_3e5_4, .ref a0_3e5_5, .ref a0_3e5_6])), (a0_3e5_5, .inl (ka0_3e5_5, 9, .inl (fa0_3e5_5))), (a0_3e5_6, .inl (ka0_3e5_6, 9, .inl (fa0_3e5_6))), (a0_3e6, .inr (5, [.int a0_3e6_0, .int a0_3e6_1, .int a0_3e6_2, .int a0_3e6_3, .int a0_3e6_4, .ref a0_3e6_5, .ref a0_3e6_6])), (a0_3e6_5, .inl (ka0_3e6_5, 9, .inl (fa0_3e6_5))), (a0_3e6_6, .inl (ka0_3e6_6, 9, .inl (fa0_3e6_6))), (a0_3e7, .inr (5, [.int a0_3e7_0, .int a0_3e7_1, .int a0_3e7_2, .int a0_3e7_3, .int a0_3e7_4, .ref a0_3e7_5, .ref a0_3e7_6])), (a0_3e7_5, .inl (ka0_3e7_5, 9, .inl (fa0_3e7_5))), (a0_3e7_6, .inl (ka0_3e7_6, 9, .inl (fa0_3e7_6))), (a0_3e8, .inr (5, [.int a0_3e8_0, .int a0_3e8_1, .int a0_3e8_2, .int a0_3e8_3, .int a0_3e8_4, .ref a0_3e8_5, .ref a0_3e8_6])), (a0_3e8_5, .inl (ka0_3e8_5, 9, .inl (fa0_3e8_5))), (a0_3e8_6, .inl (ka0_3e8_6, 9, .inl (fa0_3e8_6))), (a0_3e9, .inr (5, [.int a0_3e9_0, .int a0_3e9_1, .int a0_3e9_2, .int a0_3e9_3, .int a0_3e9_4, .ref a0_3e9_5, .ref a0_3e9_6])), (a0_3e9_5, .inl (ka0_3e9_5, 9, .inl (fa0_3e9_5))), (a0_3e9_6, .inl (ka0_3e9_6, 9, .inl (fa0_3e9_6))), (a0_3e10, .inr (5, [.int a0_3e10_0, .int a0_3e10_1, .int a0_3e10_2, .int a0_3e10_3, .int a0_3e10_4, .ref a0_3e10_5, .ref a0_3e10_6])), (a0_3e10_5, .inl (ka0_3e10_5, 9, .inl (fa0_3e10_5))), (a0_3e10_6, .inl (ka0_3e10_6, 9, .inl (fa0_3e10_6))), (a0_3e11, .inr (5, [.int v23na0_0, .int v23na0_1, .int v23na0_2, .int v23na0_3, .int v23na0_4, .ref a0_3e11_5, .ref a0_3e11_6])), (a0_3e11_5, .inl (ka0_3e11_5, 9, .inl (v23nfa0_5))), (a0_3e11_6, .inl (ka0_3e11_6, 9, .inl (v23nfa0_6))), (a0_3e12, .inr (5, [.int a0_3e12_0, .int a0_3e12_1, .int a0_3e12_2, .int a0_3e12_3, .int a0_3e12_4, .ref a0_3e12_5, .ref a0_3e12_6])), (a0_3e12_5, .inl (ka0_3e12_5, 9, .inl (fa0_3e12_5))), (a0_3e12_6, .inl (ka0_3e12_6, 9, .inl (fa0_3e12_6))), (a0_3e13, .inr (5, [.int a0_3e13_0, .int a0_3e13_1, .int a0_3e13_2, .int a0_3e13_3, .int a0_3e13_4, .ref a0_3e13_5, .ref a0_3e13_6])), (a0_3e13_5, .inl (ka0_3e13_5, 9, .inl (fa0_3e13_5))), (a0_3e13_6, .inl (ka0_3e13_6, 9, .inl (fa0_3e13_6))), (a0_3e14, .inr (5, [.int a0_3e14_0, .int a0_3e14_1, .int a0_3e14_2, .int a0_3e14_3, .int a0_3e14_4, .ref a0_3e14_5, .ref a0_3e14_6])), (a0_3e14_5, .inl (ka0_3e14_5, 9, .inl (fa0_3e14_5))), (a0_3e14_6, .inl (ka0_3e14_6, 9, .inl (fa0_3e14_6))), (a0_3e15, .inr (5, [.int a0_3e15_0, .int a0_3e15_1, .int a0_3e15_2, .int a0_3e15_3, .int a0_3e15_4, .ref a0_3e15_5, .ref a0_3e15_6])), (a0_3e15_5, .inl (ka0_3e15_5, 9, .inl (fa0_3e15_5))), (a0_3e15_6, .inl (ka0_3e15_6, 9, .inl (fa0_3e15_6)))]) hP hD hCc hk1 hFc hP1 hD1 [.inl 0, .inl 1, .inl 2, .inr 1, .inr 2, .inl 5, .inr 4, .inl 7, .inl 8, .inl 9, .inl 10, .inl 11, .inl 12, .inl 13, .inl 14, .inl 15, .inl 16, .inl 17, .inl 18, .inl 19, .inl 20, .inl 21, .inl 22, .inl 23, .inl 24, .inl 25, .inl 26, .inl 27, .inl 28, .inl 29, .inl 30, .inl 31, .inl 32, .inl 33, .inl 34, .inl 35, .inl 36, .inl 37, .inr 0, .inr 3, .inr 5, .inl 41, .inl 42, .inl 43, .inl 44, .inl 45, .inl 46, .inl 47, .inl 48, .inl 49, .inl 50, .inl 51, .inl 52] (by decide +kernel) rfl (fun hP hD => ?_)
    have hc23 : Ff_X5_copyFrom a1_0.toInt a1_1.toInt a1_2.toInt a1_3.toInt a1_4.toInt (fl_A fa1_5) (fl_A fa0_3e11_5) (fl_A fa1_6) (fl_A fa0_3e11_6) = (v23na0_0.toInt, v23na0_1.toInt, v23na0_2.toInt, v23na0_3.toInt, v23na0_4.toInt, (fl_A v23nfa0_5), (fl_A v23nfa0_6)) := hraw23_0
    have hF0 := hF0.trans (fl_c7_eq hc23)
    refine lv_aload_n hx hb dX1_keep_26 rfl (lv_at hl 0 rfl) ?_
    refine lv_aload_n hx hb dX1_keep_27 rfl (lv_at hl 0 rfl) ?_
    refine va_get (D := (dC, dI)) (ci := 1) (v := .int a0_0) (C := RX1) (T := TX1) (N := 5) hx hb hts zi_X1_keep_1 hown hK hP 0 rfl rfl 0 (by decide) (hts (.fieldLink RX1 21 "WaxTurns$History" "keptCount" "I") (List.mem_cons_of_mem _ (List.mem_append_left _ (List.mem_append_left _ (List.mem_of_getElem? (i := 2) rfl))))) (fun _ h9 => h9) rfl dX1_keep_28 ?_
    refine lv_iconst (v := 1) hx hb dX1_keep_31 zk_iconst_1 ?_
    refine lv_iadd hx hb dX1_keep_32 ?_
    refine lv_topi (fun x32 ex32 => ?_)
    have qx32 : x32.toInt = a0_0.toInt + (1 : Int32).toInt := ai_add ex32 ⟨ba0_0_l, ba0_0_u⟩ ⟨zq1, zq0⟩ (by decide) (by decide)
    have bx32 : (1 : Int) ≤ x32.toInt ∧ x32.toInt ≤ 17 := ⟨by rw [qx32]; exact Int.add_le_add ba0_0_l zq1, by rw [qx32]; exact Int.add_le_add ba0_0_u zq0⟩
    have wx32 : x32.toInt = a0_0.toInt + 1 := qx32
    have hF0 := hF0.trans (fl_lt_eq (show x32.toInt = a0_0.toInt + 1 from qx32))
    refine lv_bipush (v := 16) hx hb dX1_keep_33 zk_bipush_16 ?_
    refine va_mmin hx hb (by rw [hml]; exact hl.1.symm) hown (hts (.methodLink RX1 35 Lib.Math.min.name) (List.mem_cons_of_mem _ (List.mem_append_left _ (List.mem_append_left _ (List.mem_of_getElem? (i := 3) rfl))))) (hts (.static Lib.Math.min.name) (List.mem_cons_of_mem _ (List.mem_append_left _ (List.mem_append_left _ (List.mem_of_getElem? (i := 4) rfl))))) (hts (.initialized "java/lang/Math") (List.mem_cons_of_mem _ (List.mem_append_left _ (List.mem_append_left _ (List.mem_of_getElem? (i := 5) rfl))))) (hts _ mnX1_keep) (Nat.le_of_ble_eq_true rfl) (Nat.le_of_ble_eq_true rfl) (Nat.le_of_ble_eq_true rfl) (Nat.le_of_ble_eq_true rfl) dX1_keep_35 ?_
    refine lv_topi (fun x35 ex35 => ?_)
    have qx35 := ai_mmin ex35
    have bx35 : (1 : Int) ≤ x35.toInt ∧ x35.toInt ≤ 16 := by first | exact zg_mm qx35 bx32.1 zq110 bx32.2 zq111 (by decide) (by decide) (by decide) | exact zg_mm qx35 zq110 bx32.1 zq111 bx32.2 (by decide) (by decide) (by decide) | (have h1 := bx32.1; have h2 := zq110; have h3 := bx32.2; have h4 := zq111; omega)
    have fqx35 := fl_min_eq ex35
    have hF0 := hF0.trans (fl_lt_eq (show x35.toInt = fl_min x32.toInt 16 from fqx35))
    refine va_put (D := (dC, dI)) (ci := 1) (v := .int x35) (ty := .int) (C := RX1) (T := TX1) (N := 5) hx hb hts zi_X1_keep_1 tyX1 tyX1_ok nmX1 hown hK hP hD hS 0 rfl rfl 0 (by decide) (hts (.fieldLink RX1 21 "WaxTurns$History" "keptCount" "I") (List.mem_cons_of_mem _ (List.mem_append_left _ (List.mem_append_left _ (List.mem_of_getElem? (i := 2) rfl))))) (fun _ h9 => h9) rfl (tyX1_ok 0 (by decide)) rfl rfl (Nat.le_of_ble_eq_true rfl) dX1_keep_38 (fun H locs hP hD hS => ?_)
    refine zs_0 (y := (a0, .inr (1, [.int x35, a0g_1, .int 11, .ref a0_3, a0g_4]))) hP hD rfl (fun hP hD => ?_)
    have hFe : FX = (x35.toInt, 11, (fl_nI [a0_3e0_0.toInt, a0_3e0_1.toInt, a0_3e0_2.toInt, a0_3e0_3.toInt, a0_3e0_4.toInt, a0_3e1_0.toInt, a0_3e1_1.toInt, a0_3e1_2.toInt, a0_3e1_3.toInt, a0_3e1_4.toInt, a0_3e2_0.toInt, a0_3e2_1.toInt, a0_3e2_2.toInt, a0_3e2_3.toInt, a0_3e2_4.toInt, a0_3e3_0.toInt, a0_3e3_1.toInt, a0_3e3_2.toInt, a0_3e3_3.toInt, a0_3e3_4.toInt, a0_3e4_0.toInt, a0_3e4_1.toInt, a0_3e4_2.toInt, a0_3e4_3.toInt, a0_3e4_4.toInt, a0_3e5_0.toInt, a0_3e5_1.toInt, a0_3e5_2.toInt, a0_3e5_3.toInt, a0_3e5_4.toInt, a0_3e6_0.toInt, a0_3e6_1.toInt, a0_3e6_2.toInt, a0_3e6_3.toInt, a0_3e6_4.toInt, a0_3e7_0.toInt, a0_3e7_1.toInt, a0_3e7_2.toInt, a0_3e7_3.toInt, a0_3e7_4.toInt, a0_3e8_0.toInt, a0_3e8_1.toInt, a0_3e8_2.toInt, a0_3e8_3.toInt, a0_3e8_4.toInt, a0_3e9_0.toInt, a0_3e9_1.toInt, a0_3e9_2.toInt, a0_3e9_3.toInt, a0_3e9_4.toInt, a0_3e10_0.toInt, a0_3e10_1.toInt, a0_3e10_2.toInt, a0_3e10_3.toInt, a0_3e10_4.toInt, v23na0_0.toInt, v23na0_1.toInt, v23na0_2.toInt, v23na0_3.toInt, v23na0_4.toInt, a0_3e12_0.toInt, a0_3e12_1.toInt, a0_3e12_2.toInt, a0_3e12_3.toInt, a0_3e12_4.toInt, a0_3e13_0.toInt, a0_3e13_1.toInt, a0_3e13_2.toInt, a0_3e13_3.toInt, a0_3e13_4.toInt, a0_3e14_0.toInt, a0_3e14_1.toInt, a0_3e14_2.toInt, a0_3e14_3.toInt, a0_3e14_4.toInt, a0_3e15_0.toInt, a0_3e15_1.toInt, a0_3e15_2.toInt, a0_3e15_3.toInt, a0_3e15_4.toInt]), (fl_nF [(fl_A fa0_3e0_5), (fl_A fa0_3e0_6), (fl_A fa0_3e1_5), (fl_A fa0_3e1_6), (fl_A fa0_3e2_5), (fl_A fa0_3e2_6), (fl_A fa0_3e3_5), (fl_A fa0_3e3_6), (fl_A fa0_3e4_5), (fl_A fa0_3e4_6), (fl_A fa0_3e5_5), (fl_A fa0_3e5_6), (fl_A fa0_3e6_5), (fl_A fa0_3e6_6), (fl_A fa0_3e7_5), (fl_A fa0_3e7_6), (fl_A fa0_3e8_5), (fl_A fa0_3e8_6), (fl_A fa0_3e9_5), (fl_A fa0_3e9_6), (fl_A fa0_3e10_5), (fl_A fa0_3e10_6), (fl_A v23nfa0_5), (fl_A v23nfa0_6), (fl_A fa0_3e12_5), (fl_A fa0_3e12_6), (fl_A fa0_3e13_5), (fl_A fa0_3e13_6), (fl_A fa0_3e14_5), (fl_A fa0_3e14_6), (fl_A fa0_3e15_5), (fl_A fa0_3e15_6)])) := hF0
    exact W.vret hx hb hr (fun t ht hW => ⟨⟨(), rfl, trivial, (fun i9 => ([x35, 11, a0_3e0_0, a0_3e0_1, a0_3e0_2, a0_3e0_3, a0_3e0_4, a0_3e1_0, a0_3e1_1, a0_3e1_2, a0_3e1_3, a0_3e1_4, a0_3e2_0, a0_3e2_1, a0_3e2_2, a0_3e2_3, a0_3e2_4, a0_3e3_0, a0_3e3_1, a0_3e3_2, a0_3e3_3, a0_3e3_4, a0_3e4_0, a0_3e4_1, a0_3e4_2, a0_3e4_3, a0_3e4_4, a0_3e5_0, a0_3e5_1, a0_3e5_2, a0_3e5_3, a0_3e5_4, a0_3e6_0, a0_3e6_1, a0_3e6_2, a0_3e6_3, a0_3e6_4, a0_3e7_0, a0_3e7_1, a0_3e7_2, a0_3e7_3, a0_3e7_4, a0_3e8_0, a0_3e8_1, a0_3e8_2, a0_3e8_3, a0_3e8_4, a0_3e9_0, a0_3e9_1, a0_3e9_2, a0_3e9_3, a0_3e9_4, a0_3e10_0, a0_3e10_1, a0_3e10_2, a0_3e10_3, a0_3e10_4, v23na0_0, v23na0_1, v23na0_2, v23na0_3, v23na0_4, a0_3e12_0, a0_3e12_1, a0_3e12_2, a0_3e12_3, a0_3e12_4, a0_3e13_0, a0_3e13_1, a0_3e13_2, a0_3e13_3, a0_3e13_4, a0_3e14_0, a0_3e14_1, a0_3e14_2, a0_3e14_3, a0_3e14_4, a0_3e15_0, a0_3e15_1, a0_3e15_2, a0_3e15_3, a0_3e15_4] : List Int32).getD i9 0), (fun i9 => ([fa0_3e0_5, fa0_3e0_6, fa0_3e1_5, fa0_3e1_6, fa0_3e2_5, fa0_3e2_6, fa0_3e3_5, fa0_3e3_6, fa0_3e4_5, fa0_3e4_6, fa0_3e5_5, fa0_3e5_6, fa0_3e6_5, fa0_3e6_6, fa0_3e7_5, fa0_3e7_6, fa0_3e8_5, fa0_3e8_6, fa0_3e9_5, fa0_3e9_6, fa0_3e10_5, fa0_3e10_6, v23nfa0_5, v23nfa0_6, fa0_3e12_5, fa0_3e12_6, fa0_3e13_5, fa0_3e13_6, fa0_3e14_5, fa0_3e14_6, fa0_3e15_5, fa0_3e15_6] : List (Nat → Int32)).getD i9 (fun _ => 0)), ⟨Int.le_trans (by decide) bx35.1, bx35.2⟩, ⟨Int.le_trans (by decide) zq117, Int.le_trans zq118 (by decide)⟩, ⟨ba0_3e0_1_l, ba0_3e0_1_u⟩, ⟨ba0_3e1_1_l, ba0_3e1_1_u⟩, ⟨ba0_3e2_1_l, ba0_3e2_1_u⟩, ⟨ba0_3e3_1_l, ba0_3e3_1_u⟩, ⟨ba0_3e4_1_l, ba0_3e4_1_u⟩, ⟨ba0_3e5_1_l, ba0_3e5_1_u⟩, ⟨ba0_3e6_1_l, ba0_3e6_1_u⟩, ⟨ba0_3e7_1_l, ba0_3e7_1_u⟩, ⟨ba0_3e8_1_l, ba0_3e8_1_u⟩, ⟨ba0_3e9_1_l, ba0_3e9_1_u⟩, ⟨ba0_3e10_1_l, ba0_3e10_1_u⟩, ⟨bv23na0_1.1, bv23na0_1.2⟩, ⟨ba0_3e12_1_l, ba0_3e12_1_u⟩, ⟨ba0_3e13_1_l, ba0_3e13_1_u⟩, ⟨ba0_3e14_1_l, ba0_3e14_1_u⟩, ⟨ba0_3e15_1_l, ba0_3e15_1_u⟩, (show (FX = (x35.toInt, (11 : Int32).toInt, (fl_nI [a0_3e0_0.toInt, a0_3e0_1.toInt, a0_3e0_2.toInt, a0_3e0_3.toInt, a0_3e0_4.toInt, a0_3e1_0.toInt, a0_3e1_1.toInt, a0_3e1_2.toInt, a0_3e1_3.toInt, a0_3e1_4.toInt, a0_3e2_0.toInt, a0_3e2_1.toInt, a0_3e2_2.toInt, a0_3e2_3.toInt, a0_3e2_4.toInt, a0_3e3_0.toInt, a0_3e3_1.toInt, a0_3e3_2.toInt, a0_3e3_3.toInt, a0_3e3_4.toInt, a0_3e4_0.toInt, a0_3e4_1.toInt, a0_3e4_2.toInt, a0_3e4_3.toInt, a0_3e4_4.toInt, a0_3e5_0.toInt, a0_3e5_1.toInt, a0_3e5_2.toInt, a0_3e5_3.toInt, a0_3e5_4.toInt, a0_3e6_0.toInt, a0_3e6_1.toInt, a0_3e6_2.toInt, a0_3e6_3.toInt, a0_3e6_4.toInt, a0_3e7_0.toInt, a0_3e7_1.toInt, a0_3e7_2.toInt, a0_3e7_3.toInt, a0_3e7_4.toInt, a0_3e8_0.toInt, a0_3e8_1.toInt, a0_3e8_2.toInt, a0_3e8_3.toInt, a0_3e8_4.toInt, a0_3e9_0.toInt, a0_3e9_1.toInt, a0_3e9_2.toInt, a0_3e9_3.toInt, a0_3e9_4.toInt, a0_3e10_0.toInt, a0_3e10_1.toInt, a0_3e10_2.toInt, a0_3e10_3.toInt, a0_3e10_4.toInt, v23na0_0.toInt, v23na0_1.toInt, v23na0_2.toInt, v23na0_3.toInt, v23na0_4.toInt, a0_3e12_0.toInt, a0_3e12_1.toInt, a0_3e12_2.toInt, a0_3e12_3.toInt, a0_3e12_4.toInt, a0_3e13_0.toInt, a0_3e13_1.toInt, a0_3e13_2.toInt, a0_3e13_3.toInt, a0_3e13_4.toInt, a0_3e14_0.toInt, a0_3e14_1.toInt, a0_3e14_2.toInt, a0_3e14_3.toInt, a0_3e14_4.toInt, a0_3e15_0.toInt, a0_3e15_1.toInt, a0_3e15_2.toInt, a0_3e15_3.toInt, a0_3e15_4.toInt]), (fl_nF [(fl_A fa0_3e0_5), (fl_A fa0_3e0_6), (fl_A fa0_3e1_5), (fl_A fa0_3e1_6), (fl_A fa0_3e2_5), (fl_A fa0_3e2_6), (fl_A fa0_3e3_5), (fl_A fa0_3e3_6), (fl_A fa0_3e4_5), (fl_A fa0_3e4_6), (fl_A fa0_3e5_5), (fl_A fa0_3e5_6), (fl_A fa0_3e6_5), (fl_A fa0_3e6_6), (fl_A fa0_3e7_5), (fl_A fa0_3e7_6), (fl_A fa0_3e8_5), (fl_A fa0_3e8_6), (fl_A fa0_3e9_5), (fl_A fa0_3e9_6), (fl_A fa0_3e10_5), (fl_A fa0_3e10_6), (fl_A v23nfa0_5), (fl_A v23nfa0_6), (fl_A fa0_3e12_5), (fl_A fa0_3e12_6), (fl_A fa0_3e13_5), (fl_A fa0_3e13_6), (fl_A fa0_3e14_5), (fl_A fa0_3e14_6), (fl_A fa0_3e15_5), (fl_A fa0_3e15_6)]))) from hFe), by rw [ht]; exact hP, va_K.moved hW.alike hK, hD⟩, hS.F ht⟩) hS.2.2 dX1_keep_41
  · subst hv21
    have hF0 := hF0.trans (if_neg (by decide))
    have hF0 := hF0.trans (if_neg (by decide))
    have hF0 := hF0.trans (if_neg (by decide))
    have hF0 := hF0.trans (if_neg (by decide))
    have hF0 := hF0.trans (if_neg (by decide))
    have hF0 := hF0.trans (if_neg (by decide))
    have hF0 := hF0.trans (if_neg (by decide))
    have hF0 := hF0.trans (if_neg (by decide))
    have hF0 := hF0.trans (if_neg (by decide))
    have hF0 := hF0.trans (if_neg (by decide))
    have hF0 := hF0.trans (if_neg (by decide))
    have hF0 := hF0.trans (if_neg (by decide))
    have hF0 := hF0.trans (if_pos (by decide))
    refine va_aldq hx hb hK hP 1 0 rfl rfl (i := 12) (by unfold vp_in; decide +kernel) dX1_keep_21 ?_
    refine ax_tv (.ref a0_3e12) rfl ?_
    refine lv_aload_n hx hb dX1_keep_22 rfl (lv_at hl 1 rfl) ?_
    refine zc_cutc (wc := [(a0_3e12, .inr (5, [.int a0_3e12_0, .int a0_3e12_1, .int a0_3e12_2, .int a0_3e12_3, .int a0_3e12_4, .ref a0_3e12_5, .ref a0_3e12_6])), (a1, .inr (5, [.int a1_0, .int a1_1, .int a1_2, .int a1_3, .int a1_4, .ref a1_5, .ref a1_6])), (a1_5, .inl (ka1_5, 9, .inl (fa1_5))), (a0_3e12_5, .inl (ka0_3e12_5, 9, .inl (fa0_3e12_5))), (a1_6, .inl (ka1_6, 9, .inl (fa1_6))), (a0_3e12_6, .inl (ka0_3e12_6, 9, .inl (fa0_3e12_6)))]) hP hD hS hA [41, 3, 4, 42, 6, 43] (by decide +kernel) rfl (fun hPc hDc hFc hCc => ?_)
    have hKc := hK.sub (tys' := [(ka1_5, .int), (ka0_3e12_5, .int), (ka1_6, .int), (ka0_3e12_6, .int)]) [1, 27, 3, 28] rfl
    refine va_callv (va_runV (As := [.ref a1]) (rest := []) ⟨hx, hb, hml, hown, hts⟩ (f_X5_copyFrom l dC dI H.size a0_3e12 a1 a0_3e12_0 a0_3e12_1 a0_3e12_2 a0_3e12_3 a0_3e12_4 a0_3e12_5 a0_3e12_6 a1_0 a1_1 a1_2 a1_3 a1_4 a1_5 a1_6 ka1_5 fa1_5 ka0_3e12_5 fa0_3e12_5 ka1_6 fa1_6 ka0_3e12_6 fa0_3e12_6 ba0_3e12_1_l ba0_3e12_1_u ba1_1_l ba1_1_u) (cwV 1 hts gX1_keep_X5_copyFrom rfl rfl rfl zd_X5_copyFrom ⟨Nat.le_of_ble_eq_true rfl, Nat.le_of_ble_eq_true rfl⟩) ⟨ax_blind (fun _ _ _ _ _ => trivial), zr_5 hKc hPc (q0 := 0) rfl, ax_pre hPc hKc hDc (fun _ _ => trivial)⟩ rfl rfl hl.1 rfl (lv_room (Nat.le_of_ble_eq_true rfl)) dX1_keep_23 ⟨Nat.le_of_ble_eq_true rfl, Nat.le_of_ble_eq_true rfl⟩) hS (fun q _ h => hFc q h) hFc (fun u t H locs ht hvm hw => zx_7 (fun v23na0_0 v23na0_1 v23na0_2 v23na0_3 v23na0_4 v23nfa0_5 v23nfa0_6 => zy_2 (fun bv23na0_1 hraw23_0 hB hz1 hk1 hS1 => zo hB ht hS1 (fun hP1 hK1 hD1 hS => ?_))))
    refine zc_backc (w := [(a0, .inr (1, [.int a0_0, a0g_1, .int 12, .ref a0_3, a0g_4])), (a0_3, .inl (ka0_3, 16, .inr (.inr (.inr (.inr (fun i9 => ([some a0_3e0, some a0_3e1, some a0_3e2, some a0_3e3, some a0_3e4, some a0_3e5, some a0_3e6, some a0_3e7, some a0_3e8, some a0_3e9, some a0_3e10, some a0_3e11, some a0_3e12, some a0_3e13, some a0_3e14, some a0_3e15] : List (Option Nat)).getD i9 none)))))), (a0_3e0, .inr (5, [.int a0_3e0_0, .int a0_3e0_1, .int a0_3e0_2, .int a0_3e0_3, .int a0_3e0_4, .ref a0_3e0_5, .ref a0_3e0_6])), (a1, .inr (5, [.int a1_0, .int a1_1, .int a1_2, .int a1_3, .int a1_4, .ref a1_5, .ref a1_6])), (a1_5, .inl (ka1_5, 9, .inl (fa1_5))), (a0_3e0_5, .inl (ka0_3e0_5, 9, .inl (fa0_3e0_5))), (a1_6, .inl (ka1_6, 9, .inl (fa1_6))), (a0_3e0_6, .inl (ka0_3e0_6, 9, .inl (fa0_3e0_6))), (a0_3e1, .inr (5, [.int a0_3e1_0, .int a0_3e1_1, .int a0_3e1_2, .int a0_3e1_3, .int a0_3e1_4, .ref a0_3e1_5, .ref a0_3e1_6])), (a0_3e1_5, .inl (ka0_3e1_5, 9, .inl (fa0_3e1_5))), (a0_3e1_6, .inl (ka0_3e1_6, 9, .inl (fa0_3e1_6))), (a0_3e2, .inr (5, [.int a0_3e2_0, .int a0_3e2_1, .int a0_3e2_2, .int a0_3e2_3, .int a0_3e2_4, .ref a0_3e2_5, .ref a0_3e2_6])), (a0_3e2_5, .inl (ka0_3e2_5, 9, .inl (fa0_3e2_5))), (a0_3e2_6, .inl (ka0_3e2_6, 9, .inl (fa0_3e2_6))), (a0_3e3, .inr (5, [.int a0_3e3_0, .int a0_3e3_1, .int a0_3e3_2, .int a0_3e3_3, .int a0_3e3_4, .ref a0_3e3_5, .ref a0_3e3_6])), (a0_3e3_5, .inl (ka0_3e3_5, 9, .inl (fa0_3e3_5))), (a0_3e3_6, .inl (ka0_3e3_6, 9, .inl (fa0_3e3_6))), (a0_3e4, .inr (5, [.int a0_3e4_0, .int a0_3e4_1, .int a0_3e4_2, .int a0_3e4_3, .int a0_3e4_4, .ref a0_3e4_5, .ref a0_3e4_6])), (a0_3e4_5, .inl (ka0_3e4_5, 9, .inl (fa0_3e4_5))), (a0_3e4_6, .inl (ka0_3e4_6, 9, .inl (fa0_3e4_6))), (a0_3e5, .inr (5, [.int a0_3e5_0, .int a0_3e5_1, .int a0_3e5_2, .int a0_3e5_3, .int a0_3e5_4, .ref a0_3e5_5, .ref a0_3e5_6])), (a0_3e5_5, .inl (ka0_3e5_5, 9, .inl (fa0_3e5_5))), (a0_3e5_6, .inl (ka0_3e5_6, 9, .inl (fa0_3e5_6))), (a0_3e6, .inr (5, [.int a0_3e6_0, .int a0_3e6_1, .int a0_3e6_2, .int a0_3e6_3, .int a0_3e6_4, .ref a0_3e6_5, .ref a0_3e6_6])), (a0_3e6_5, .inl (ka0_3e6_5, 9, .inl (fa0_3e6_5))), (a0_3e6_6, .inl (ka0_3e6_6, 9, .inl (fa0_3e6_6))), (a0_3e7, .inr (5, [.int a0_3e7_0, .int a0_3e7_1, .int a0_3e7_2, .int a0_3e7_3, .int a0_3e7_4, .ref a0_3e7_5, .ref a0_3e7_6])), (a0_3e7_5, .inl (ka0_3e7_5, 9, .inl (fa0_3e7_5))), (a0_3e7_6, .inl (ka0_3e7_6, 9, .inl (fa0_3e7_6))), (a0_3e8, .inr (5, [.int a0_3e8_0, .int a0_3e8_1, .int a0_3e8_2, .int a0_3e8_3, .int a0_3e8_4, .ref a0_3e8_5, .ref a0_3e8_6])), (a0_3e8_5, .inl (ka0_3e8_5, 9, .inl (fa0_3e8_5))), (a0_3e8_6, .inl (ka0_3e8_6, 9, .inl (fa0_3e8_6))), (a0_3e9, .inr (5, [.int a0_3e9_0, .int a0_3e9_1, .int a0_3e9_2, .int a0_3e9_3, .int a0_3e9_4, .ref a0_3e9_5, .ref a0_3e9_6])), (a0_3e9_5, .inl (ka0_3e9_5, 9, .inl (fa0_3e9_5))), (a0_3e9_6, .inl (ka0_3e9_6, 9, .inl (fa0_3e9_6))), (a0_3e10, .inr (5, [.int a0_3e10_0, .int a0_3e10_1, .int a0_3e10_2, .int a0_3e10_3, .int a0_3e10_4, .ref a0_3e10_5, .ref a0_3e10_6])), (a0_3e10_5, .inl (ka0_3e10_5, 9, .inl (fa0_3e10_5))), (a0_3e10_6, .inl (ka0_3e10_6, 9, .inl (fa0_3e10_6))), (a0_3e11, .inr (5, [.int a0_3e11_0, .int a0_3e11_1, .int a0_3e11_2, .int a0_3e11_3, .int a0_3e11_4, .ref a0_3e11_5, .ref a0_3e11_6])), (a0_3e11_5, .inl (ka0_3e11_5, 9, .inl (fa0_3e11_5))), (a0_3e11_6, .inl (ka0_3e11_6, 9, .inl (fa0_3e11_6))), (a0_3e12, .inr (5, [.int v23na0_0, .int v23na0_1, .int v23na0_2, .int v23na0_3, .int v23na0_4, .ref a0_3e12_5, .ref a0_3e12_6])), (a0_3e12_5, .inl (ka0_3e12_5, 9, .inl (v23nfa0_5))), (a0_3e12_6, .inl (ka0_3e12_6, 9, .inl (v23nfa0_6))), (a0_3e13, .inr (5, [.int a0_3e13_0, .int a0_3e13_1, .int a0_3e13_2, .int a0_3e13_3, .int a0_3e13_4, .ref a0_3e13_5, .ref a0_3e13_6])), (a0_3e13_5, .inl (ka0_3e13_5, 9, .inl (fa0_3e13_5))), (a0_3e13_6, .inl (ka0_3e13_6, 9, .inl (fa0_3e13_6))), (a0_3e14, .inr (5, [.int a0_3e14_0, .int a0_3e14_1, .int a0_3e14_2, .int a0_3e14_3, .int a0_3e14_4, .ref a0_3e14_5, .ref a0_3e14_6])), (a0_3e14_5, .inl (ka0_3e14_5, 9, .inl (fa0_3e14_5))), (a0_3e14_6, .inl (ka0_3e14_6, 9, .inl (fa0_3e14_6))), (a0_3e15, .inr (5, [.int a0_3e15_0, .int a0_3e15_1, .int a0_3e15_2, .int a0_3e15_3, .int a0_3e15_4, .ref a0_3e15_5, .ref a0_3e15_6])), (a0_3e15_5, .inl (ka0_3e15_5, 9, .inl (fa0_3e15_5))), (a0_3e15_6, .inl (ka0_3e15_6, 9, .inl (fa0_3e15_6)))]) hP hD hCc hk1 hFc hP1 hD1 [.inl 0, .inl 1, .inl 2, .inr 1, .inr 2, .inl 5, .inr 4, .inl 7, .inl 8, .inl 9, .inl 10, .inl 11, .inl 12, .inl 13, .inl 14, .inl 15, .inl 16, .inl 17, .inl 18, .inl 19, .inl 20, .inl 21, .inl 22, .inl 23, .inl 24, .inl 25, .inl 26, .inl 27, .inl 28, .inl 29, .inl 30, .inl 31, .inl 32, .inl 33, .inl 34, .inl 35, .inl 36, .inl 37, .inl 38, .inl 39, .inl 40, .inr 0, .inr 3, .inr 5, .inl 44, .inl 45, .inl 46, .inl 47, .inl 48, .inl 49, .inl 50, .inl 51, .inl 52] (by decide +kernel) rfl (fun hP hD => ?_)
    have hc23 : Ff_X5_copyFrom a1_0.toInt a1_1.toInt a1_2.toInt a1_3.toInt a1_4.toInt (fl_A fa1_5) (fl_A fa0_3e12_5) (fl_A fa1_6) (fl_A fa0_3e12_6) = (v23na0_0.toInt, v23na0_1.toInt, v23na0_2.toInt, v23na0_3.toInt, v23na0_4.toInt, (fl_A v23nfa0_5), (fl_A v23nfa0_6)) := hraw23_0
    have hF0 := hF0.trans (fl_c7_eq hc23)
    refine lv_aload_n hx hb dX1_keep_26 rfl (lv_at hl 0 rfl) ?_
    refine lv_aload_n hx hb dX1_keep_27 rfl (lv_at hl 0 rfl) ?_
    refine va_get (D := (dC, dI)) (ci := 1) (v := .int a0_0) (C := RX1) (T := TX1) (N := 5) hx hb hts zi_X1_keep_1 hown hK hP 0 rfl rfl 0 (by decide) (hts (.fieldLink RX1 21 "WaxTurns$History" "keptCount" "I") (List.mem_cons_of_mem _ (List.mem_append_left _ (List.mem_append_left _ (List.mem_of_getElem? (i := 2) rfl))))) (fun _ h9 => h9) rfl dX1_keep_28 ?_
    refine lv_iconst (v := 1) hx hb dX1_keep_31 zk_iconst_1 ?_
    refine lv_iadd hx hb dX1_keep_32 ?_
    refine lv_topi (fun x32 ex32 => ?_)
    have qx32 : x32.toInt = a0_0.toInt + (1 : Int32).toInt := ai_add ex32 ⟨ba0_0_l, ba0_0_u⟩ ⟨zq1, zq0⟩ (by decide) (by decide)
    have bx32 : (1 : Int) ≤ x32.toInt ∧ x32.toInt ≤ 17 := ⟨by rw [qx32]; exact Int.add_le_add ba0_0_l zq1, by rw [qx32]; exact Int.add_le_add ba0_0_u zq0⟩
    have wx32 : x32.toInt = a0_0.toInt + 1 := qx32
    have hF0 := hF0.trans (fl_lt_eq (show x32.toInt = a0_0.toInt + 1 from qx32))
    refine lv_bipush (v := 16) hx hb dX1_keep_33 zk_bipush_16 ?_
    refine va_mmin hx hb (by rw [hml]; exact hl.1.symm) hown (hts (.methodLink RX1 35 Lib.Math.min.name) (List.mem_cons_of_mem _ (List.mem_append_left _ (List.mem_append_left _ (List.mem_of_getElem? (i := 3) rfl))))) (hts (.static Lib.Math.min.name) (List.mem_cons_of_mem _ (List.mem_append_left _ (List.mem_append_left _ (List.mem_of_getElem? (i := 4) rfl))))) (hts (.initialized "java/lang/Math") (List.mem_cons_of_mem _ (List.mem_append_left _ (List.mem_append_left _ (List.mem_of_getElem? (i := 5) rfl))))) (hts _ mnX1_keep) (Nat.le_of_ble_eq_true rfl) (Nat.le_of_ble_eq_true rfl) (Nat.le_of_ble_eq_true rfl) (Nat.le_of_ble_eq_true rfl) dX1_keep_35 ?_
    refine lv_topi (fun x35 ex35 => ?_)
    have qx35 := ai_mmin ex35
    have bx35 : (1 : Int) ≤ x35.toInt ∧ x35.toInt ≤ 16 := by first | exact zg_mm qx35 bx32.1 zq110 bx32.2 zq111 (by decide) (by decide) (by decide) | exact zg_mm qx35 zq110 bx32.1 zq111 bx32.2 (by decide) (by decide) (by decide) | (have h1 := bx32.1; have h2 := zq110; have h3 := bx32.2; have h4 := zq111; omega)
    have fqx35 := fl_min_eq ex35
    have hF0 := hF0.trans (fl_lt_eq (show x35.toInt = fl_min x32.toInt 16 from fqx35))
    refine va_put (D := (dC, dI)) (ci := 1) (v := .int x35) (ty := .int) (C := RX1) (T := TX1) (N := 5) hx hb hts zi_X1_keep_1 tyX1 tyX1_ok nmX1 hown hK hP hD hS 0 rfl rfl 0 (by decide) (hts (.fieldLink RX1 21 "WaxTurns$History" "keptCount" "I") (List.mem_cons_of_mem _ (List.mem_append_left _ (List.mem_append_left _ (List.mem_of_getElem? (i := 2) rfl))))) (fun _ h9 => h9) rfl (tyX1_ok 0 (by decide)) rfl rfl (Nat.le_of_ble_eq_true rfl) dX1_keep_38 (fun H locs hP hD hS => ?_)
    refine zs_0 (y := (a0, .inr (1, [.int x35, a0g_1, .int 12, .ref a0_3, a0g_4]))) hP hD rfl (fun hP hD => ?_)
    have hFe : FX = (x35.toInt, 12, (fl_nI [a0_3e0_0.toInt, a0_3e0_1.toInt, a0_3e0_2.toInt, a0_3e0_3.toInt, a0_3e0_4.toInt, a0_3e1_0.toInt, a0_3e1_1.toInt, a0_3e1_2.toInt, a0_3e1_3.toInt, a0_3e1_4.toInt, a0_3e2_0.toInt, a0_3e2_1.toInt, a0_3e2_2.toInt, a0_3e2_3.toInt, a0_3e2_4.toInt, a0_3e3_0.toInt, a0_3e3_1.toInt, a0_3e3_2.toInt, a0_3e3_3.toInt, a0_3e3_4.toInt, a0_3e4_0.toInt, a0_3e4_1.toInt, a0_3e4_2.toInt, a0_3e4_3.toInt, a0_3e4_4.toInt, a0_3e5_0.toInt, a0_3e5_1.toInt, a0_3e5_2.toInt, a0_3e5_3.toInt, a0_3e5_4.toInt, a0_3e6_0.toInt, a0_3e6_1.toInt, a0_3e6_2.toInt, a0_3e6_3.toInt, a0_3e6_4.toInt, a0_3e7_0.toInt, a0_3e7_1.toInt, a0_3e7_2.toInt, a0_3e7_3.toInt, a0_3e7_4.toInt, a0_3e8_0.toInt, a0_3e8_1.toInt, a0_3e8_2.toInt, a0_3e8_3.toInt, a0_3e8_4.toInt, a0_3e9_0.toInt, a0_3e9_1.toInt, a0_3e9_2.toInt, a0_3e9_3.toInt, a0_3e9_4.toInt, a0_3e10_0.toInt, a0_3e10_1.toInt, a0_3e10_2.toInt, a0_3e10_3.toInt, a0_3e10_4.toInt, a0_3e11_0.toInt, a0_3e11_1.toInt, a0_3e11_2.toInt, a0_3e11_3.toInt, a0_3e11_4.toInt, v23na0_0.toInt, v23na0_1.toInt, v23na0_2.toInt, v23na0_3.toInt, v23na0_4.toInt, a0_3e13_0.toInt, a0_3e13_1.toInt, a0_3e13_2.toInt, a0_3e13_3.toInt, a0_3e13_4.toInt, a0_3e14_0.toInt, a0_3e14_1.toInt, a0_3e14_2.toInt, a0_3e14_3.toInt, a0_3e14_4.toInt, a0_3e15_0.toInt, a0_3e15_1.toInt, a0_3e15_2.toInt, a0_3e15_3.toInt, a0_3e15_4.toInt]), (fl_nF [(fl_A fa0_3e0_5), (fl_A fa0_3e0_6), (fl_A fa0_3e1_5), (fl_A fa0_3e1_6), (fl_A fa0_3e2_5), (fl_A fa0_3e2_6), (fl_A fa0_3e3_5), (fl_A fa0_3e3_6), (fl_A fa0_3e4_5), (fl_A fa0_3e4_6), (fl_A fa0_3e5_5), (fl_A fa0_3e5_6), (fl_A fa0_3e6_5), (fl_A fa0_3e6_6), (fl_A fa0_3e7_5), (fl_A fa0_3e7_6), (fl_A fa0_3e8_5), (fl_A fa0_3e8_6), (fl_A fa0_3e9_5), (fl_A fa0_3e9_6), (fl_A fa0_3e10_5), (fl_A fa0_3e10_6), (fl_A fa0_3e11_5), (fl_A fa0_3e11_6), (fl_A v23nfa0_5), (fl_A v23nfa0_6), (fl_A fa0_3e13_5), (fl_A fa0_3e13_6), (fl_A fa0_3e14_5), (fl_A fa0_3e14_6), (fl_A fa0_3e15_5), (fl_A fa0_3e15_6)])) := hF0
    exact W.vret hx hb hr (fun t ht hW => ⟨⟨(), rfl, trivial, (fun i9 => ([x35, 12, a0_3e0_0, a0_3e0_1, a0_3e0_2, a0_3e0_3, a0_3e0_4, a0_3e1_0, a0_3e1_1, a0_3e1_2, a0_3e1_3, a0_3e1_4, a0_3e2_0, a0_3e2_1, a0_3e2_2, a0_3e2_3, a0_3e2_4, a0_3e3_0, a0_3e3_1, a0_3e3_2, a0_3e3_3, a0_3e3_4, a0_3e4_0, a0_3e4_1, a0_3e4_2, a0_3e4_3, a0_3e4_4, a0_3e5_0, a0_3e5_1, a0_3e5_2, a0_3e5_3, a0_3e5_4, a0_3e6_0, a0_3e6_1, a0_3e6_2, a0_3e6_3, a0_3e6_4, a0_3e7_0, a0_3e7_1, a0_3e7_2, a0_3e7_3, a0_3e7_4, a0_3e8_0, a0_3e8_1, a0_3e8_2, a0_3e8_3, a0_3e8_4, a0_3e9_0, a0_3e9_1, a0_3e9_2, a0_3e9_3, a0_3e9_4, a0_3e10_0, a0_3e10_1, a0_3e10_2, a0_3e10_3, a0_3e10_4, a0_3e11_0, a0_3e11_1, a0_3e11_2, a0_3e11_3, a0_3e11_4, v23na0_0, v23na0_1, v23na0_2, v23na0_3, v23na0_4, a0_3e13_0, a0_3e13_1, a0_3e13_2, a0_3e13_3, a0_3e13_4, a0_3e14_0, a0_3e14_1, a0_3e14_2, a0_3e14_3, a0_3e14_4, a0_3e15_0, a0_3e15_1, a0_3e15_2, a0_3e15_3, a0_3e15_4] : List Int32).getD i9 0), (fun i9 => ([fa0_3e0_5, fa0_3e0_6, fa0_3e1_5, fa0_3e1_6, fa0_3e2_5, fa0_3e2_6, fa0_3e3_5, fa0_3e3_6, fa0_3e4_5, fa0_3e4_6, fa0_3e5_5, fa0_3e5_6, fa0_3e6_5, fa0_3e6_6, fa0_3e7_5, fa0_3e7_6, fa0_3e8_5, fa0_3e8_6, fa0_3e9_5, fa0_3e9_6, fa0_3e10_5, fa0_3e10_6, fa0_3e11_5, fa0_3e11_6, v23nfa0_5, v23nfa0_6, fa0_3e13_5, fa0_3e13_6, fa0_3e14_5, fa0_3e14_6, fa0_3e15_5, fa0_3e15_6] : List (Nat → Int32)).getD i9 (fun _ => 0)), ⟨Int.le_trans (by decide) bx35.1, bx35.2⟩, ⟨Int.le_trans (by decide) zq119, Int.le_trans zq120 (by decide)⟩, ⟨ba0_3e0_1_l, ba0_3e0_1_u⟩, ⟨ba0_3e1_1_l, ba0_3e1_1_u⟩, ⟨ba0_3e2_1_l, ba0_3e2_1_u⟩, ⟨ba0_3e3_1_l, ba0_3e3_1_u⟩, ⟨ba0_3e4_1_l, ba0_3e4_1_u⟩, ⟨ba0_3e5_1_l, ba0_3e5_1_u⟩, ⟨ba0_3e6_1_l, ba0_3e6_1_u⟩, ⟨ba0_3e7_1_l, ba0_3e7_1_u⟩, ⟨ba0_3e8_1_l, ba0_3e8_1_u⟩, ⟨ba0_3e9_1_l, ba0_3e9_1_u⟩, ⟨ba0_3e10_1_l, ba0_3e10_1_u⟩, ⟨ba0_3e11_1_l, ba0_3e11_1_u⟩, ⟨bv23na0_1.1, bv23na0_1.2⟩, ⟨ba0_3e13_1_l, ba0_3e13_1_u⟩, ⟨ba0_3e14_1_l, ba0_3e14_1_u⟩, ⟨ba0_3e15_1_l, ba0_3e15_1_u⟩, (show (FX = (x35.toInt, (12 : Int32).toInt, (fl_nI [a0_3e0_0.toInt, a0_3e0_1.toInt, a0_3e0_2.toInt, a0_3e0_3.toInt, a0_3e0_4.toInt, a0_3e1_0.toInt, a0_3e1_1.toInt, a0_3e1_2.toInt, a0_3e1_3.toInt, a0_3e1_4.toInt, a0_3e2_0.toInt, a0_3e2_1.toInt, a0_3e2_2.toInt, a0_3e2_3.toInt, a0_3e2_4.toInt, a0_3e3_0.toInt, a0_3e3_1.toInt, a0_3e3_2.toInt, a0_3e3_3.toInt, a0_3e3_4.toInt, a0_3e4_0.toInt, a0_3e4_1.toInt, a0_3e4_2.toInt, a0_3e4_3.toInt, a0_3e4_4.toInt, a0_3e5_0.toInt, a0_3e5_1.toInt, a0_3e5_2.toInt, a0_3e5_3.toInt, a0_3e5_4.toInt, a0_3e6_0.toInt, a0_3e6_1.toInt, a0_3e6_2.toInt, a0_3e6_3.toInt, a0_3e6_4.toInt, a0_3e7_0.toInt, a0_3e7_1.toInt, a0_3e7_2.toInt, a0_3e7_3.toInt, a0_3e7_4.toInt, a0_3e8_0.toInt, a0_3e8_1.toInt, a0_3e8_2.toInt, a0_3e8_3.toInt, a0_3e8_4.toInt, a0_3e9_0.toInt, a0_3e9_1.toInt, a0_3e9_2.toInt, a0_3e9_3.toInt, a0_3e9_4.toInt, a0_3e10_0.toInt, a0_3e10_1.toInt, a0_3e10_2.toInt, a0_3e10_3.toInt, a0_3e10_4.toInt, a0_3e11_0.toInt, a0_3e11_1.toInt, a0_3e11_2.toInt, a0_3e11_3.toInt, a0_3e11_4.toInt, v23na0_0.toInt, v23na0_1.toInt, v23na0_2.toInt, v23na0_3.toInt, v23na0_4.toInt, a0_3e13_0.toInt, a0_3e13_1.toInt, a0_3e13_2.toInt, a0_3e13_3.toInt, a0_3e13_4.toInt, a0_3e14_0.toInt, a0_3e14_1.toInt, a0_3e14_2.toInt, a0_3e14_3.toInt, a0_3e14_4.toInt, a0_3e15_0.toInt, a0_3e15_1.toInt, a0_3e15_2.toInt, a0_3e15_3.toInt, a0_3e15_4.toInt]), (fl_nF [(fl_A fa0_3e0_5), (fl_A fa0_3e0_6), (fl_A fa0_3e1_5), (fl_A fa0_3e1_6), (fl_A fa0_3e2_5), (fl_A fa0_3e2_6), (fl_A fa0_3e3_5), (fl_A fa0_3e3_6), (fl_A fa0_3e4_5), (fl_A fa0_3e4_6), (fl_A fa0_3e5_5), (fl_A fa0_3e5_6), (fl_A fa0_3e6_5), (fl_A fa0_3e6_6), (fl_A fa0_3e7_5), (fl_A fa0_3e7_6), (fl_A fa0_3e8_5), (fl_A fa0_3e8_6), (fl_A fa0_3e9_5), (fl_A fa0_3e9_6), (fl_A fa0_3e10_5), (fl_A fa0_3e10_6), (fl_A fa0_3e11_5), (fl_A fa0_3e11_6), (fl_A v23nfa0_5), (fl_A v23nfa0_6), (fl_A fa0_3e13_5), (fl_A fa0_3e13_6), (fl_A fa0_3e14_5), (fl_A fa0_3e14_6), (fl_A fa0_3e15_5), (fl_A fa0_3e15_6)]))) from hFe), by rw [ht]; exact hP, va_K.moved hW.alike hK, hD⟩, hS.F ht⟩) hS.2.2 dX1_keep_41
  · subst hv21
    have hF0 := hF0.trans (if_neg (by decide))
    have hF0 := hF0.trans (if_neg (by decide))
    have hF0 := hF0.trans (if_neg (by decide))
    have hF0 := hF0.trans (if_neg (by decide))
    have hF0 := hF0.trans (if_neg (by decide))
    have hF0 := hF0.trans (if_neg (by decide))
    have hF0 := hF0.trans (if_neg (by decide))
    have hF0 := hF0.trans (if_neg (by decide))
    have hF0 := hF0.trans (if_neg (by decide))
    have hF0 := hF0.trans (if_neg (by decide))
    have hF0 := hF0.trans (if_neg (by decide))
    have hF0 := hF0.trans (if_neg (by decide))
    have hF0 := hF0.trans (if_neg (by decide))
    have hF0 := hF0.trans (if_pos (by decide))
    refine va_aldq hx hb hK hP 1 0 rfl rfl (i := 13) (by unfold vp_in; decide +kernel) dX1_keep_21 ?_
    refine ax_tv (.ref a0_3e13) rfl ?_
    refine lv_aload_n hx hb dX1_keep_22 rfl (lv_at hl 1 rfl) ?_
    refine zc_cutc (wc := [(a0_3e13, .inr (5, [.int a0_3e13_0, .int a0_3e13_1, .int a0_3e13_2, .int a0_3e13_3, .int a0_3e13_4, .ref a0_3e13_5, .ref a0_3e13_6])), (a1, .inr (5, [.int a1_0, .int a1_1, .int a1_2, .int a1_3, .int a1_4, .ref a1_5, .ref a1_6])), (a1_5, .inl (ka1_5, 9, .inl (fa1_5))), (a0_3e13_5, .inl (ka0_3e13_5, 9, .inl (fa0_3e13_5))), (a1_6, .inl (ka1_6, 9, .inl (fa1_6))), (a0_3e13_6, .inl (ka0_3e13_6, 9, .inl (fa0_3e13_6)))]) hP hD hS hA [44, 3, 4, 45, 6, 46] (by decide +kernel) rfl (fun hPc hDc hFc hCc => ?_)
    have hKc := hK.sub (tys' := [(ka1_5, .int), (ka0_3e13_5, .int), (ka1_6, .int), (ka0_3e13_6, .int)]) [1, 29, 3, 30] rfl
    refine va_callv (va_runV (As := [.ref a1]) (rest := []) ⟨hx, hb, hml, hown, hts⟩ (f_X5_copyFrom l dC dI H.size a0_3e13 a1 a0_3e13_0 a0_3e13_1 a0_3e13_2 a0_3e13_3 a0_3e13_4 a0_3e13_5 a0_3e13_6 a1_0 a1_1 a1_2 a1_3 a1_4 a1_5 a1_6 ka1_5 fa1_5 ka0_3e13_5 fa0_3e13_5 ka1_6 fa1_6 ka0_3e13_6 fa0_3e13_6 ba0_3e13_1_l ba0_3e13_1_u ba1_1_l ba1_1_u) (cwV 1 hts gX1_keep_X5_copyFrom rfl rfl rfl zd_X5_copyFrom ⟨Nat.le_of_ble_eq_true rfl, Nat.le_of_ble_eq_true rfl⟩) ⟨ax_blind (fun _ _ _ _ _ => trivial), zr_5 hKc hPc (q0 := 0) rfl, ax_pre hPc hKc hDc (fun _ _ => trivial)⟩ rfl rfl hl.1 rfl (lv_room (Nat.le_of_ble_eq_true rfl)) dX1_keep_23 ⟨Nat.le_of_ble_eq_true rfl, Nat.le_of_ble_eq_true rfl⟩) hS (fun q _ h => hFc q h) hFc (fun u t H locs ht hvm hw => zx_7 (fun v23na0_0 v23na0_1 v23na0_2 v23na0_3 v23na0_4 v23nfa0_5 v23nfa0_6 => zy_2 (fun bv23na0_1 hraw23_0 hB hz1 hk1 hS1 => zo hB ht hS1 (fun hP1 hK1 hD1 hS => ?_))))
    refine zc_backc (w := [(a0, .inr (1, [.int a0_0, a0g_1, .int 13, .ref a0_3, a0g_4])), (a0_3, .inl (ka0_3, 16, .inr (.inr (.inr (.inr (fun i9 => ([some a0_3e0, some a0_3e1, some a0_3e2, some a0_3e3, some a0_3e4, some a0_3e5, some a0_3e6, some a0_3e7, some a0_3e8, some a0_3e9, some a0_3e10, some a0_3e11, some a0_3e12, some a0_3e13, some a0_3e14, some a0_3e15] : List (Option Nat)).getD i9 none)))))), (a0_3e0, .inr (5, [.int a0_3e0_0, .int a0_3e0_1, .int a0_3e0_2, .int a0_3e0_3, .int a0_3e0_4, .ref a0_3e0_5, .ref a0_3e0_6])), (a1, .inr (5, [.int a1_0, .int a1_1, .int a1_2, .int a1_3, .int a1_4, .ref a1_5, .ref a1_6])), (a1_5, .inl (ka1_5, 9, .inl (fa1_5))), (a0_3e0_5, .inl (ka0_3e0_5, 9, .inl (fa0_3e0_5))), (a1_6, .inl (ka1_6, 9, .inl (fa1_6))), (a0_3e0_6, .inl (ka0_3e0_6, 9, .inl (fa0_3e0_6))), (a0_3e1, .inr (5, [.int a0_3e1_0, .int a0_3e1_1, .int a0_3e1_2, .int a0_3e1_3, .int a0_3e1_4, .ref a0_3e1_5, .ref a0_3e1_6])), (a0_3e1_5, .inl (ka0_3e1_5, 9, .inl (fa0_3e1_5))), (a0_3e1_6, .inl (ka0_3e1_6, 9, .inl (fa0_3e1_6))), (a0_3e2, .inr (5, [.int a0_3e2_0, .int a0_3e2_1, .int a0_3e2_2, .int a0_3e2_3, .int a0_3e2_4, .ref a0_3e2_5, .ref a0_3e2_6])), (a0_3e2_5, .inl (ka0_3e2_5, 9, .inl (fa0_3e2_5))), (a0_3e2_6, .inl (ka0_3e2_6, 9, .inl (fa0_3e2_6))), (a0_3e3, .inr (5, [.int a0_3e3_0, .int a0_3e3_1, .int a0_3e3_2, .int a0_3e3_3, .int a0_3e3_4, .ref a0_3e3_5, .ref a0_3e3_6])), (a0_3e3_5, .inl (ka0_3e3_5, 9, .inl (fa0_3e3_5))), (a0_3e3_6, .inl (ka0_3e3_6, 9, .inl (fa0_3e3_6))), (a0_3e4, .inr (5, [.int a0_3e4_0, .int a0_3e4_1, .int a0_3e4_2, .int a0_3e4_3, .int a0_3e4_4, .ref a0_3e4_5, .ref a0_3e4_6])), (a0_3e4_5, .inl (ka0_3e4_5, 9, .inl (fa0_3e4_5))), (a0_3e4_6, .inl (ka0_3e4_6, 9, .inl (fa0_3e4_6))), (a0_3e5, .inr (5, [.int a0_3e5_0, .int a0_3e5_1, .int a0_3e5_2, .int a0_3e5_3, .int a0_3e5_4, .ref a0_3e5_5, .ref a0_3e5_6])), (a0_3e5_5, .inl (ka0_3e5_5, 9, .inl (fa0_3e5_5))), (a0_3e5_6, .inl (ka0_3e5_6, 9, .inl (fa0_3e5_6))), (a0_3e6, .inr (5, [.int a0_3e6_0, .int a0_3e6_1, .int a0_3e6_2, .int a0_3e6_3, .int a0_3e6_4, .ref a0_3e6_5, .ref a0_3e6_6])), (a0_3e6_5, .inl (ka0_3e6_5, 9, .inl (fa0_3e6_5))), (a0_3e6_6, .inl (ka0_3e6_6, 9, .inl (fa0_3e6_6))), (a0_3e7, .inr (5, [.int a0_3e7_0, .int a0_3e7_1, .int a0_3e7_2, .int a0_3e7_3, .int a0_3e7_4, .ref a0_3e7_5, .ref a0_3e7_6])), (a0_3e7_5, .inl (ka0_3e7_5, 9, .inl (fa0_3e7_5))), (a0_3e7_6, .inl (ka0_3e7_6, 9, .inl (fa0_3e7_6))), (a0_3e8, .inr (5, [.int a0_3e8_0, .int a0_3e8_1, .int a0_3e8_2, .int a0_3e8_3, .int a0_3e8_4, .ref a0_3e8_5, .ref a0_3e8_6])), (a0_3e8_5, .inl (ka0_3e8_5, 9, .inl (fa0_3e8_5))), (a0_3e8_6, .inl (ka0_3e8_6, 9, .inl (fa0_3e8_6))), (a0_3e9, .inr (5, [.int a0_3e9_0, .int a0_3e9_1, .int a0_3e9_2, .int a0_3e9_3, .int a0_3e9_4, .ref a0_3e9_5, .ref a0_3e9_6])), (a0_3e9_5, .inl (ka0_3e9_5, 9, .inl (fa0_3e9_5))), (a0_3e9_6, .inl (ka0_3e9_6, 9, .inl (fa0_3e9_6))), (a0_3e10, .inr (5, [.int a0_3e10_0, .int a0_3e10_1, .int a0_3e10_2, .int a0_3e10_3, .int a0_3e10_4, .ref a0_3e10_5, .ref a0_3e10_6])), (a0_3e10_5, .inl (ka0_3e10_5, 9, .inl (fa0_3e10_5))), (a0_3e10_6, .inl (ka0_3e10_6, 9, .inl (fa0_3e10_6))), (a0_3e11, .inr (5, [.int a0_3e11_0, .int a0_3e11_1, .int a0_3e11_2, .int a0_3e11_3, .int a0_3e11_4, .ref a0_3e11_5, .ref a0_3e11_6])), (a0_3e11_5, .inl (ka0_3e11_5, 9, .inl (fa0_3e11_5))), (a0_3e11_6, .inl (ka0_3e11_6, 9, .inl (fa0_3e11_6))), (a0_3e12, .inr (5, [.int a0_3e12_0, .int a0_3e12_1, .int a0_3e12_2, .int a0_3e12_3, .int a0_3e12_4, .ref a0_3e12_5, .ref a0_3e12_6])), (a0_3e12_5, .inl (ka0_3e12_5, 9, .inl (fa0_3e12_5))), (a0_3e12_6, .inl (ka0_3e12_6, 9, .inl (fa0_3e12_6))), (a0_3e13, .inr (5, [.int v23na0_0, .int v23na0_1, .int v23na0_2, .int v23na0_3, .int v23na0_4, .ref a0_3e13_5, .ref a0_3e13_6])), (a0_3e13_5, .inl (ka0_3e13_5, 9, .inl (v23nfa0_5))), (a0_3e13_6, .inl (ka0_3e13_6, 9, .inl (v23nfa0_6))), (a0_3e14, .inr (5, [.int a0_3e14_0, .int a0_3e14_1, .int a0_3e14_2, .int a0_3e14_3, .int a0_3e14_4, .ref a0_3e14_5, .ref a0_3e14_6])), (a0_3e14_5, .inl (ka0_3e14_5, 9, .inl (fa0_3e14_5))), (a0_3e14_6, .inl (ka0_3e14_6, 9, .inl (fa0_3e14_6))), (a0_3e15, .inr (5, [.int a0_3e15_0, .int a0_3e15_1, .int a0_3e15_2, .int a0_3e15_3, .int a0_3e15_4, .ref a0_3e15_5, .ref a0_3e15_6])), (a0_3e15_5, .inl (ka0_3e15_5, 9, .inl (fa0_3e15_5))), (a0_3e15_6, .inl (ka0_3e15_6, 9, .inl (fa0_3e15_6)))]) hP hD hCc hk1 hFc hP1 hD1 [.inl 0, .inl 1, .inl 2, .inr 1, .inr 2, .inl 5, .inr 4, .inl 7, .inl 8, .inl 9, .inl 10, .inl 11, .inl 12, .inl 13, .inl 14, .inl 15, .inl 16, .inl 17, .inl 18, .inl 19, .inl 20, .inl 21, .inl 22, .inl 23, .inl 24, .inl 25, .inl 26, .inl 27, .inl 28, .inl 29, .inl 30, .inl 31, .inl 32, .inl 33, .inl 34, .inl 35, .inl 36, .inl 37, .inl 38, .inl 39, .inl 40, .inl 41, .inl 42, .inl 43, .inr 0, .inr 3, .inr 5, .inl 47, .inl 48, .inl 49, .inl 50, .inl 51, .inl 52] (by decide +kernel) rfl (fun hP hD => ?_)
    have hc23 : Ff_X5_copyFrom a1_0.toInt a1_1.toInt a1_2.toInt a1_3.toInt a1_4.toInt (fl_A fa1_5) (fl_A fa0_3e13_5) (fl_A fa1_6) (fl_A fa0_3e13_6) = (v23na0_0.toInt, v23na0_1.toInt, v23na0_2.toInt, v23na0_3.toInt, v23na0_4.toInt, (fl_A v23nfa0_5), (fl_A v23nfa0_6)) := hraw23_0
    have hF0 := hF0.trans (fl_c7_eq hc23)
    refine lv_aload_n hx hb dX1_keep_26 rfl (lv_at hl 0 rfl) ?_
    refine lv_aload_n hx hb dX1_keep_27 rfl (lv_at hl 0 rfl) ?_
    refine va_get (D := (dC, dI)) (ci := 1) (v := .int a0_0) (C := RX1) (T := TX1) (N := 5) hx hb hts zi_X1_keep_1 hown hK hP 0 rfl rfl 0 (by decide) (hts (.fieldLink RX1 21 "WaxTurns$History" "keptCount" "I") (List.mem_cons_of_mem _ (List.mem_append_left _ (List.mem_append_left _ (List.mem_of_getElem? (i := 2) rfl))))) (fun _ h9 => h9) rfl dX1_keep_28 ?_
    refine lv_iconst (v := 1) hx hb dX1_keep_31 zk_iconst_1 ?_
    refine lv_iadd hx hb dX1_keep_32 ?_
    refine lv_topi (fun x32 ex32 => ?_)
    have qx32 : x32.toInt = a0_0.toInt + (1 : Int32).toInt := ai_add ex32 ⟨ba0_0_l, ba0_0_u⟩ ⟨zq1, zq0⟩ (by decide) (by decide)
    have bx32 : (1 : Int) ≤ x32.toInt ∧ x32.toInt ≤ 17 := ⟨by rw [qx32]; exact Int.add_le_add ba0_0_l zq1, by rw [qx32]; exact Int.add_le_add ba0_0_u zq0⟩
    have wx32 : x32.toInt = a0_0.toInt + 1 := qx32
    have hF0 := hF0.trans (fl_lt_eq (show x32.toInt = a0_0.toInt + 1 from qx32))
    refine lv_bipush (v := 16) hx hb dX1_keep_33 zk_bipush_16 ?_
    refine va_mmin hx hb (by rw [hml]; exact hl.1.symm) hown (hts (.methodLink RX1 35 Lib.Math.min.name) (List.mem_cons_of_mem _ (List.mem_append_left _ (List.mem_append_left _ (List.mem_of_getElem? (i := 3) rfl))))) (hts (.static Lib.Math.min.name) (List.mem_cons_of_mem _ (List.mem_append_left _ (List.mem_append_left _ (List.mem_of_getElem? (i := 4) rfl))))) (hts (.initialized "java/lang/Math") (List.mem_cons_of_mem _ (List.mem_append_left _ (List.mem_append_left _ (List.mem_of_getElem? (i := 5) rfl))))) (hts _ mnX1_keep) (Nat.le_of_ble_eq_true rfl) (Nat.le_of_ble_eq_true rfl) (Nat.le_of_ble_eq_true rfl) (Nat.le_of_ble_eq_true rfl) dX1_keep_35 ?_
    refine lv_topi (fun x35 ex35 => ?_)
    have qx35 := ai_mmin ex35
    have bx35 : (1 : Int) ≤ x35.toInt ∧ x35.toInt ≤ 16 := by first | exact zg_mm qx35 bx32.1 zq110 bx32.2 zq111 (by decide) (by decide) (by decide) | exact zg_mm qx35 zq110 bx32.1 zq111 bx32.2 (by decide) (by decide) (by decide) | (have h1 := bx32.1; have h2 := zq110; have h3 := bx32.2; have h4 := zq111; omega)
    have fqx35 := fl_min_eq ex35
    have hF0 := hF0.trans (fl_lt_eq (show x35.toInt = fl_min x32.toInt 16 from fqx35))
    refine va_put (D := (dC, dI)) (ci := 1) (v := .int x35) (ty := .int) (C := RX1) (T := TX1) (N := 5) hx hb hts zi_X1_keep_1 tyX1 tyX1_ok nmX1 hown hK hP hD hS 0 rfl rfl 0 (by decide) (hts (.fieldLink RX1 21 "WaxTurns$History" "keptCount" "I") (List.mem_cons_of_mem _ (List.mem_append_left _ (List.mem_append_left _ (List.mem_of_getElem? (i := 2) rfl))))) (fun _ h9 => h9) rfl (tyX1_ok 0 (by decide)) rfl rfl (Nat.le_of_ble_eq_true rfl) dX1_keep_38 (fun H locs hP hD hS => ?_)
    refine zs_0 (y := (a0, .inr (1, [.int x35, a0g_1, .int 13, .ref a0_3, a0g_4]))) hP hD rfl (fun hP hD => ?_)
    have hFe : FX = (x35.toInt, 13, (fl_nI [a0_3e0_0.toInt, a0_3e0_1.toInt, a0_3e0_2.toInt, a0_3e0_3.toInt, a0_3e0_4.toInt, a0_3e1_0.toInt, a0_3e1_1.toInt, a0_3e1_2.toInt, a0_3e1_3.toInt, a0_3e1_4.toInt, a0_3e2_0.toInt, a0_3e2_1.toInt, a0_3e2_2.toInt, a0_3e2_3.toInt, a0_3e2_4.toInt, a0_3e3_0.toInt, a0_3e3_1.toInt, a0_3e3_2.toInt, a0_3e3_3.toInt, a0_3e3_4.toInt, a0_3e4_0.toInt, a0_3e4_1.toInt, a0_3e4_2.toInt, a0_3e4_3.toInt, a0_3e4_4.toInt, a0_3e5_0.toInt, a0_3e5_1.toInt, a0_3e5_2.toInt, a0_3e5_3.toInt, a0_3e5_4.toInt, a0_3e6_0.toInt, a0_3e6_1.toInt, a0_3e6_2.toInt, a0_3e6_3.toInt, a0_3e6_4.toInt, a0_3e7_0.toInt, a0_3e7_1.toInt, a0_3e7_2.toInt, a0_3e7_3.toInt, a0_3e7_4.toInt, a0_3e8_0.toInt, a0_3e8_1.toInt, a0_3e8_2.toInt, a0_3e8_3.toInt, a0_3e8_4.toInt, a0_3e9_0.toInt, a0_3e9_1.toInt, a0_3e9_2.toInt, a0_3e9_3.toInt, a0_3e9_4.toInt, a0_3e10_0.toInt, a0_3e10_1.toInt, a0_3e10_2.toInt, a0_3e10_3.toInt, a0_3e10_4.toInt, a0_3e11_0.toInt, a0_3e11_1.toInt, a0_3e11_2.toInt, a0_3e11_3.toInt, a0_3e11_4.toInt, a0_3e12_0.toInt, a0_3e12_1.toInt, a0_3e12_2.toInt, a0_3e12_3.toInt, a0_3e12_4.toInt, v23na0_0.toInt, v23na0_1.toInt, v23na0_2.toInt, v23na0_3.toInt, v23na0_4.toInt, a0_3e14_0.toInt, a0_3e14_1.toInt, a0_3e14_2.toInt, a0_3e14_3.toInt, a0_3e14_4.toInt, a0_3e15_0.toInt, a0_3e15_1.toInt, a0_3e15_2.toInt, a0_3e15_3.toInt, a0_3e15_4.toInt]), (fl_nF [(fl_A fa0_3e0_5), (fl_A fa0_3e0_6), (fl_A fa0_3e1_5), (fl_A fa0_3e1_6), (fl_A fa0_3e2_5), (fl_A fa0_3e2_6), (fl_A fa0_3e3_5), (fl_A fa0_3e3_6), (fl_A fa0_3e4_5), (fl_A fa0_3e4_6), (fl_A fa0_3e5_5), (fl_A fa0_3e5_6), (fl_A fa0_3e6_5), (fl_A fa0_3e6_6), (fl_A fa0_3e7_5), (fl_A fa0_3e7_6), (fl_A fa0_3e8_5), (fl_A fa0_3e8_6), (fl_A fa0_3e9_5), (fl_A fa0_3e9_6), (fl_A fa0_3e10_5), (fl_A fa0_3e10_6), (fl_A fa0_3e11_5), (fl_A fa0_3e11_6), (fl_A fa0_3e12_5), (fl_A fa0_3e12_6), (fl_A v23nfa0_5), (fl_A v23nfa0_6), (fl_A fa0_3e14_5), (fl_A fa0_3e14_6), (fl_A fa0_3e15_5), (fl_A fa0_3e15_6)])) := hF0
    exact W.vret hx hb hr (fun t ht hW => ⟨⟨(), rfl, trivial, (fun i9 => ([x35, 13, a0_3e0_0, a0_3e0_1, a0_3e0_2, a0_3e0_3, a0_3e0_4, a0_3e1_0, a0_3e1_1, a0_3e1_2, a0_3e1_3, a0_3e1_4, a0_3e2_0, a0_3e2_1, a0_3e2_2, a0_3e2_3, a0_3e2_4, a0_3e3_0, a0_3e3_1, a0_3e3_2, a0_3e3_3, a0_3e3_4, a0_3e4_0, a0_3e4_1, a0_3e4_2, a0_3e4_3, a0_3e4_4, a0_3e5_0, a0_3e5_1, a0_3e5_2, a0_3e5_3, a0_3e5_4, a0_3e6_0, a0_3e6_1, a0_3e6_2, a0_3e6_3, a0_3e6_4, a0_3e7_0, a0_3e7_1, a0_3e7_2, a0_3e7_3, a0_3e7_4, a0_3e8_0, a0_3e8_1, a0_3e8_2, a0_3e8_3, a0_3e8_4, a0_3e9_0, a0_3e9_1, a0_3e9_2, a0_3e9_3, a0_3e9_4, a0_3e10_0, a0_3e10_1, a0_3e10_2, a0_3e10_3, a0_3e10_4, a0_3e11_0, a0_3e11_1, a0_3e11_2, a0_3e11_3, a0_3e11_4, a0_3e12_0, a0_3e12_1, a0_3e12_2, a0_3e12_3, a0_3e12_4, v23na0_0, v23na0_1, v23na0_2, v23na0_3, v23na0_4, a0_3e14_0, a0_3e14_1, a0_3e14_2, a0_3e14_3, a0_3e14_4, a0_3e15_0, a0_3e15_1, a0_3e15_2, a0_3e15_3, a0_3e15_4] : List Int32).getD i9 0), (fun i9 => ([fa0_3e0_5, fa0_3e0_6, fa0_3e1_5, fa0_3e1_6, fa0_3e2_5, fa0_3e2_6, fa0_3e3_5, fa0_3e3_6, fa0_3e4_5, fa0_3e4_6, fa0_3e5_5, fa0_3e5_6, fa0_3e6_5, fa0_3e6_6, fa0_3e7_5, fa0_3e7_6, fa0_3e8_5, fa0_3e8_6, fa0_3e9_5, fa0_3e9_6, fa0_3e10_5, fa0_3e10_6, fa0_3e11_5, fa0_3e11_6, fa0_3e12_5, fa0_3e12_6, v23nfa0_5, v23nfa0_6, fa0_3e14_5, fa0_3e14_6, fa0_3e15_5, fa0_3e15_6] : List (Nat → Int32)).getD i9 (fun _ => 0)), ⟨Int.le_trans (by decide) bx35.1, bx35.2⟩, ⟨Int.le_trans (by decide) zq121, Int.le_trans zq122 (by decide)⟩, ⟨ba0_3e0_1_l, ba0_3e0_1_u⟩, ⟨ba0_3e1_1_l, ba0_3e1_1_u⟩, ⟨ba0_3e2_1_l, ba0_3e2_1_u⟩, ⟨ba0_3e3_1_l, ba0_3e3_1_u⟩, ⟨ba0_3e4_1_l, ba0_3e4_1_u⟩, ⟨ba0_3e5_1_l, ba0_3e5_1_u⟩, ⟨ba0_3e6_1_l, ba0_3e6_1_u⟩, ⟨ba0_3e7_1_l, ba0_3e7_1_u⟩, ⟨ba0_3e8_1_l, ba0_3e8_1_u⟩, ⟨ba0_3e9_1_l, ba0_3e9_1_u⟩, ⟨ba0_3e10_1_l, ba0_3e10_1_u⟩, ⟨ba0_3e11_1_l, ba0_3e11_1_u⟩, ⟨ba0_3e12_1_l, ba0_3e12_1_u⟩, ⟨bv23na0_1.1, bv23na0_1.2⟩, ⟨ba0_3e14_1_l, ba0_3e14_1_u⟩, ⟨ba0_3e15_1_l, ba0_3e15_1_u⟩, (show (FX = (x35.toInt, (13 : Int32).toInt, (fl_nI [a0_3e0_0.toInt, a0_3e0_1.toInt, a0_3e0_2.toInt, a0_3e0_3.toInt, a0_3e0_4.toInt, a0_3e1_0.toInt, a0_3e1_1.toInt, a0_3e1_2.toInt, a0_3e1_3.toInt, a0_3e1_4.toInt, a0_3e2_0.toInt, a0_3e2_1.toInt, a0_3e2_2.toInt, a0_3e2_3.toInt, a0_3e2_4.toInt, a0_3e3_0.toInt, a0_3e3_1.toInt, a0_3e3_2.toInt, a0_3e3_3.toInt, a0_3e3_4.toInt, a0_3e4_0.toInt, a0_3e4_1.toInt, a0_3e4_2.toInt, a0_3e4_3.toInt, a0_3e4_4.toInt, a0_3e5_0.toInt, a0_3e5_1.toInt, a0_3e5_2.toInt, a0_3e5_3.toInt, a0_3e5_4.toInt, a0_3e6_0.toInt, a0_3e6_1.toInt, a0_3e6_2.toInt, a0_3e6_3.toInt, a0_3e6_4.toInt, a0_3e7_0.toInt, a0_3e7_1.toInt, a0_3e7_2.toInt, a0_3e7_3.toInt, a0_3e7_4.toInt, a0_3e8_0.toInt, a0_3e8_1.toInt, a0_3e8_2.toInt, a0_3e8_3.toInt, a0_3e8_4.toInt, a0_3e9_0.toInt, a0_3e9_1.toInt, a0_3e9_2.toInt, a0_3e9_3.toInt, a0_3e9_4.toInt, a0_3e10_0.toInt, a0_3e10_1.toInt, a0_3e10_2.toInt, a0_3e10_3.toInt, a0_3e10_4.toInt, a0_3e11_0.toInt, a0_3e11_1.toInt, a0_3e11_2.toInt, a0_3e11_3.toInt, a0_3e11_4.toInt, a0_3e12_0.toInt, a0_3e12_1.toInt, a0_3e12_2.toInt, a0_3e12_3.toInt, a0_3e12_4.toInt, v23na0_0.toInt, v23na0_1.toInt, v23na0_2.toInt, v23na0_3.toInt, v23na0_4.toInt, a0_3e14_0.toInt, a0_3e14_1.toInt, a0_3e14_2.toInt, a0_3e14_3.toInt, a0_3e14_4.toInt, a0_3e15_0.toInt, a0_3e15_1.toInt, a0_3e15_2.toInt, a0_3e15_3.toInt, a0_3e15_4.toInt]), (fl_nF [(fl_A fa0_3e0_5), (fl_A fa0_3e0_6), (fl_A fa0_3e1_5), (fl_A fa0_3e1_6), (fl_A fa0_3e2_5), (fl_A fa0_3e2_6), (fl_A fa0_3e3_5), (fl_A fa0_3e3_6), (fl_A fa0_3e4_5), (fl_A fa0_3e4_6), (fl_A fa0_3e5_5), (fl_A fa0_3e5_6), (fl_A fa0_3e6_5), (fl_A fa0_3e6_6), (fl_A fa0_3e7_5), (fl_A fa0_3e7_6), (fl_A fa0_3e8_5), (fl_A fa0_3e8_6), (fl_A fa0_3e9_5), (fl_A fa0_3e9_6), (fl_A fa0_3e10_5), (fl_A fa0_3e10_6), (fl_A fa0_3e11_5), (fl_A fa0_3e11_6), (fl_A fa0_3e12_5), (fl_A fa0_3e12_6), (fl_A v23nfa0_5), (fl_A v23nfa0_6), (fl_A fa0_3e14_5), (fl_A fa0_3e14_6), (fl_A fa0_3e15_5), (fl_A fa0_3e15_6)]))) from hFe), by rw [ht]; exact hP, va_K.moved hW.alike hK, hD⟩, hS.F ht⟩) hS.2.2 dX1_keep_41
  · subst hv21
    have hF0 := hF0.trans (if_neg (by decide))
    have hF0 := hF0.trans (if_neg (by decide))
    have hF0 := hF0.trans (if_neg (by decide))
    have hF0 := hF0.trans (if_neg (by decide))
    have hF0 := hF0.trans (if_neg (by decide))
    have hF0 := hF0.trans (if_neg (by decide))
    have hF0 := hF0.trans (if_neg (by decide))
    have hF0 := hF0.trans (if_neg (by decide))
    have hF0 := hF0.trans (if_neg (by decide))
    have hF0 := hF0.trans (if_neg (by decide))
    have hF0 := hF0.trans (if_neg (by decide))
    have hF0 := hF0.trans (if_neg (by decide))
    have hF0 := hF0.trans (if_neg (by decide))
    have hF0 := hF0.trans (if_neg (by decide))
    have hF0 := hF0.trans (if_pos (by decide))
    refine va_aldq hx hb hK hP 1 0 rfl rfl (i := 14) (by unfold vp_in; decide +kernel) dX1_keep_21 ?_
    refine ax_tv (.ref a0_3e14) rfl ?_
    refine lv_aload_n hx hb dX1_keep_22 rfl (lv_at hl 1 rfl) ?_
    refine zc_cutc (wc := [(a0_3e14, .inr (5, [.int a0_3e14_0, .int a0_3e14_1, .int a0_3e14_2, .int a0_3e14_3, .int a0_3e14_4, .ref a0_3e14_5, .ref a0_3e14_6])), (a1, .inr (5, [.int a1_0, .int a1_1, .int a1_2, .int a1_3, .int a1_4, .ref a1_5, .ref a1_6])), (a1_5, .inl (ka1_5, 9, .inl (fa1_5))), (a0_3e14_5, .inl (ka0_3e14_5, 9, .inl (fa0_3e14_5))), (a1_6, .inl (ka1_6, 9, .inl (fa1_6))), (a0_3e14_6, .inl (ka0_3e14_6, 9, .inl (fa0_3e14_6)))]) hP hD hS hA [47, 3, 4, 48, 6, 49] (by decide +kernel) rfl (fun hPc hDc hFc hCc => ?_)
    have hKc := hK.sub (tys' := [(ka1_5, .int), (ka0_3e14_5, .int), (ka1_6, .int), (ka0_3e14_6, .int)]) [1, 31, 3, 32] rfl
    refine va_callv (va_runV (As := [.ref a1]) (rest := []) ⟨hx, hb, hml, hown, hts⟩ (f_X5_copyFrom l dC dI H.size a0_3e14 a1 a0_3e14_0 a0_3e14_1 a0_3e14_2 a0_3e14_3 a0_3e14_4 a0_3e14_5 a0_3e14_6 a1_0 a1_1 a1_2 a1_3 a1_4 a1_5 a1_6 ka1_5 fa1_5 ka0_3e14_5 fa0_3e14_5 ka1_6 fa1_6 ka0_3e14_6 fa0_3e14_6 ba0_3e14_1_l ba0_3e14_1_u ba1_1_l ba1_1_u) (cwV 1 hts gX1_keep_X5_copyFrom rfl rfl rfl zd_X5_copyFrom ⟨Nat.le_of_ble_eq_true rfl, Nat.le_of_ble_eq_true rfl⟩) ⟨ax_blind (fun _ _ _ _ _ => trivial), zr_5 hKc hPc (q0 := 0) rfl, ax_pre hPc hKc hDc (fun _ _ => trivial)⟩ rfl rfl hl.1 rfl (lv_room (Nat.le_of_ble_eq_true rfl)) dX1_keep_23 ⟨Nat.le_of_ble_eq_true rfl, Nat.le_of_ble_eq_true rfl⟩) hS (fun q _ h => hFc q h) hFc (fun u t H locs ht hvm hw => zx_7 (fun v23na0_0 v23na0_1 v23na0_2 v23na0_3 v23na0_4 v23nfa0_5 v23nfa0_6 => zy_2 (fun bv23na0_1 hraw23_0 hB hz1 hk1 hS1 => zo hB ht hS1 (fun hP1 hK1 hD1 hS => ?_))))
    refine zc_backc (w := [(a0, .inr (1, [.int a0_0, a0g_1, .int 14, .ref a0_3, a0g_4])), (a0_3, .inl (ka0_3, 16, .inr (.inr (.inr (.inr (fun i9 => ([some a0_3e0, some a0_3e1, some a0_3e2, some a0_3e3, some a0_3e4, some a0_3e5, some a0_3e6, some a0_3e7, some a0_3e8, some a0_3e9, some a0_3e10, some a0_3e11, some a0_3e12, some a0_3e13, some a0_3e14, some a0_3e15] : List (Option Nat)).getD i9 none)))))), (a0_3e0, .inr (5, [.int a0_3e0_0, .int a0_3e0_1, .int a0_3e0_2, .int a0_3e0_3, .int a0_3e0_4, .ref a0_3e0_5, .ref a0_3e0_6])), (a1, .inr (5, [.int a1_0, .int a1_1, .int a1_2, .int a1_3, .int a1_4, .ref a1_5, .ref a1_6])), (a1_5, .inl (ka1_5, 9, .inl (fa1_5))), (a0_3e0_5, .inl (ka0_3e0_5, 9, .inl (fa0_3e0_5))), (a1_6, .inl (ka1_6, 9, .inl (fa1_6))), (a0_3e0_6, .inl (ka0_3e0_6, 9, .inl (fa0_3e0_6))), (a0_3e1, .inr (5, [.int a0_3e1_0, .int a0_3e1_1, .int a0_3e1_2, .int a0_3e1_3, .int a0_3e1_4, .ref a0_3e1_5, .ref a0_3e1_6])), (a0_3e1_5, .inl (ka0_3e1_5, 9, .inl (fa0_3e1_5))), (a0_3e1_6, .inl (ka0_3e1_6, 9, .inl (fa0_3e1_6))), (a0_3e2, .inr (5, [.int a0_3e2_0, .int a0_3e2_1, .int a0_3e2_2, .int a0_3e2_3, .int a0_3e2_4, .ref a0_3e2_5, .ref a0_3e2_6])), (a0_3e2_5, .inl (ka0_3e2_5, 9, .inl (fa0_3e2_5))), (a0_3e2_6, .inl (ka0_3e2_6, 9, .inl (fa0_3e2_6))), (a0_3e3, .inr (5, [.int a0_3e3_0, .int a0_3e3_1, .int a0_3e3_2, .int a0_3e3_3, .int a0_3e3_4, .ref a0_3e3_5, .ref a0_3e3_6])), (a0_3e3_5, .inl (ka0_3e3_5, 9, .inl (fa0_3e3_5))), (a0_3e3_6, .inl (ka0_3e3_6, 9, .inl (fa0_3e3_6))), (a0_3e4, .inr (5, [.int a0_3e4_0, .int a0_3e4_1, .int a0_3e4_2, .int a0_3e4_3, .int a0_3e4_4, .ref a0_3e4_5, .ref a0_3e4_6])), (a0_3e4_5, .inl (ka0_3e4_5, 9, .inl (fa0_3e4_5))), (a0_3e4_6, .inl (ka0_3e4_6, 9, .inl (fa0_3e4_6))), (a0_3e5, .inr (5, [.int a0_3e5_0, .int a0_3e5_1, .int a0_3e5_2, .int a0_3e5_3, .int a0_3e5_4, .ref a0_3e5_5, .ref a0_3e5_6])), (a0_3e5_5, .inl (ka0_3e5_5, 9, .inl (fa0_3e5_5))), (a0_3e5_6, .inl (ka0_3e5_6, 9, .inl (fa0_3e5_6))), (a0_3e6, .inr (5, [.int a0_3e6_0, .int a0_3e6_1, .int a0_3e6_2, .int a0_3e6_3, .int a0_3e6_4, .ref a0_3e6_5, .ref a0_3e6_6])), (a0_3e6_5, .inl (ka0_3e6_5, 9, .inl (fa0_3e6_5))), (a0_3e6_6, .inl (ka0_3e6_6, 9, .inl (fa0_3e6_6))), (a0_3e7, .inr (5, [.int a0_3e7_0, .int a0_3e7_1, .int a0_3e7_2, .int a0_3e7_3, .int a0_3e7_4, .ref a0_3e7_5, .ref a0_3e7_6])), (a0_3e7_5, .inl (ka0_3e7_5, 9, .inl (fa0_3e7_5))), (a0_3e7_6, .inl (ka0_3e7_6, 9, .inl (fa0_3e7_6))), (a0_3e8, .inr (5, [.int a0_3e8_0, .int a0_3e8_1, .int a0_3e8_2, .int a0_3e8_3, .int a0_3e8_4, .ref a0_3e8_5, .ref a0_3e8_6])), (a0_3e8_5, .inl (ka0_3e8_5, 9, .inl (fa0_3e8_5))), (a0_3e8_6, .inl (ka0_3e8_6, 9, .inl (fa0_3e8_6))), (a0_3e9, .inr (5, [.int a0_3e9_0, .int a0_3e9_1, .int a0_3e9_2, .int a0_3e9_3, .int a0_3e9_4, .ref a0_3e9_5, .ref a0_3e9_6])), (a0_3e9_5, .inl (ka0_3e9_5, 9, .inl (fa0_3e9_5))), (a0_3e9_6, .inl (ka0_3e9_6, 9, .inl (fa0_3e9_6))), (a0_3e10, .inr (5, [.int a0_3e10_0, .int a0_3e10_1, .int a0_3e10_2, .int a0_3e10_3, .int a0_3e10_4, .ref a0_3e10_5, .ref a0_3e10_6])), (a0_3e10_5, .inl (ka0_3e10_5, 9, .inl (fa0_3e10_5))), (a0_3e10_6, .inl (ka0_3e10_6, 9, .inl (fa0_3e10_6))), (a0_3e11, .inr (5, [.int a0_3e11_0, .int a0_3e11_1, .int a0_3e11_2, .int a0_3e11_3, .int a0_3e11_4, .ref a0_3e11_5, .ref a0_3e11_6])), (a0_3e11_5, .inl (ka0_3e11_5, 9, .inl (fa0_3e11_5))), (a0_3e11_6, .inl (ka0_3e11_6, 9, .inl (fa0_3e11_6))), (a0_3e12, .inr (5, [.int a0_3e12_0, .int a0_3e12_1, .int a0_3e12_2, .int a0_3e12_3, .int a0_3e12_4, .ref a0_3e12_5, .ref a0_3e12_6])), (a0_3e12_5, .inl (ka0_3e12_5, 9, .inl (fa0_3e12_5))), (a0_3e12_6, .inl (ka0_3e12_6, 9, .inl (fa0_3e12_6))), (a0_3e13, .inr (5, [.int a0_3e13_0, .int a0_3e13_1, .int a0_3e13_2, .int a0_3e13_3, .int a0_3e13_4, .ref a0_3e13_5, .ref a0_3e13_6])), (a0_3e13_5, .inl (ka0_3e13_5, 9, .inl (fa0_3e13_5))), (a0_3e13_6, .inl (ka0_3e13_6, 9, .inl (fa0_3e13_6))), (a0_3e14, .inr (5, [.int v23na0_0, .int v23na0_1, .int v23na0_2, .int v23na0_3, .int v23na0_4, .ref a0_3e14_5, .ref a0_3e14_6])), (a0_3e14_5, .inl (ka0_3e14_5, 9, .inl (v23nfa0_5))), (a0_3e14_6, .inl (ka0_3e14_6, 9, .inl (v23nfa0_6))), (a0_3e15, .inr (5, [.int a0_3e15_0, .int a0_3e15_1, .int a0_3e15_2, .int a0_3e15_3, .int a0_3e15_4, .ref a0_3e15_5, .ref a0_3e15_6])), (a0_3e15_5, .inl (ka0_3e15_5, 9, .inl (fa0_3e15_5))), (a0_3e15_6, .inl (ka0_3e15_6, 9, .inl (fa0_3e15_6)))]) hP hD hCc hk1 hFc hP1 hD1 [.inl 0, .inl 1, .inl 2, .inr 1, .inr 2, .inl 5, .inr 4, .inl 7, .inl 8, .inl 9, .inl 10, .inl 11, .inl 12, .inl 13, .inl 14, .inl 15, .inl 16, .inl 17, .inl 18, .inl 19, .inl 20, .inl 21, .inl 22, .inl 23, .inl 24, .inl 25, .inl 26, .inl 27, .inl 28, .inl 29, .inl 30, .inl 31, .inl 32, .inl 33, .inl 34, .inl 35, .inl 36, .inl 37, .inl 38, .inl 39, .inl 40, .inl 41, .inl 42, .inl 43, .inl 44, .inl 45, .inl 46, .inr 0, .inr 3, .inr 5, .inl 50, .inl 51, .inl 52] (by decide +kernel) rfl (fun hP hD => ?_)
    have hc23 : Ff_X5_copyFrom a1_0.toInt a1_1.toInt a1_2.toInt a1_3.toInt a1_4.toInt (fl_A fa1_5) (fl_A fa0_3e14_5) (fl_A fa1_6) (fl_A fa0_3e14_6) = (v23na0_0.toInt, v23na0_1.toInt, v23na0_2.toInt, v23na0_3.toInt, v23na0_4.toInt, (fl_A v23nfa0_5), (fl_A v23nfa0_6)) := hraw23_0
    have hF0 := hF0.trans (fl_c7_eq hc23)
    refine lv_aload_n hx hb dX1_keep_26 rfl (lv_at hl 0 rfl) ?_
    refine lv_aload_n hx hb dX1_keep_27 rfl (lv_at hl 0 rfl) ?_
    refine va_get (D := (dC, dI)) (ci := 1) (v := .int a0_0) (C := RX1) (T := TX1) (N := 5) hx hb hts zi_X1_keep_1 hown hK hP 0 rfl rfl 0 (by decide) (hts (.fieldLink RX1 21 "WaxTurns$History" "keptCount" "I") (List.mem_cons_of_mem _ (List.mem_append_left _ (List.mem_append_left _ (List.mem_of_getElem? (i := 2) rfl))))) (fun _ h9 => h9) rfl dX1_keep_28 ?_
    refine lv_iconst (v := 1) hx hb dX1_keep_31 zk_iconst_1 ?_
    refine lv_iadd hx hb dX1_keep_32 ?_
    refine lv_topi (fun x32 ex32 => ?_)
    have qx32 : x32.toInt = a0_0.toInt + (1 : Int32).toInt := ai_add ex32 ⟨ba0_0_l, ba0_0_u⟩ ⟨zq1, zq0⟩ (by decide) (by decide)
    have bx32 : (1 : Int) ≤ x32.toInt ∧ x32.toInt ≤ 17 := ⟨by rw [qx32]; exact Int.add_le_add ba0_0_l zq1, by rw [qx32]; exact Int.add_le_add ba0_0_u zq0⟩
    have wx32 : x32.toInt = a0_0.toInt + 1 := qx32
    have hF0 := hF0.trans (fl_lt_eq (show x32.toInt = a0_0.toInt + 1 from qx32))
    refine lv_bipush (v := 16) hx hb dX1_keep_33 zk_bipush_16 ?_
    refine va_mmin hx hb (by rw [hml]; exact hl.1.symm) hown (hts (.methodLink RX1 35 Lib.Math.min.name) (List.mem_cons_of_mem _ (List.mem_append_left _ (List.mem_append_left _ (List.mem_of_getElem? (i := 3) rfl))))) (hts (.static Lib.Math.min.name) (List.mem_cons_of_mem _ (List.mem_append_left _ (List.mem_append_left _ (List.mem_of_getElem? (i := 4) rfl))))) (hts (.initialized "java/lang/Math") (List.mem_cons_of_mem _ (List.mem_append_left _ (List.mem_append_left _ (List.mem_of_getElem? (i := 5) rfl))))) (hts _ mnX1_keep) (Nat.le_of_ble_eq_true rfl) (Nat.le_of_ble_eq_true rfl) (Nat.le_of_ble_eq_true rfl) (Nat.le_of_ble_eq_true rfl) dX1_keep_35 ?_
    refine lv_topi (fun x35 ex35 => ?_)
    have qx35 := ai_mmin ex35
    have bx35 : (1 : Int) ≤ x35.toInt ∧ x35.toInt ≤ 16 := by first | exact zg_mm qx35 bx32.1 zq110 bx32.2 zq111 (by decide) (by decide) (by decide) | exact zg_mm qx35 zq110 bx32.1 zq111 bx32.2 (by decide) (by decide) (by decide) | (have h1 := bx32.1; have h2 := zq110; have h3 := bx32.2; have h4 := zq111; omega)
    have fqx35 := fl_min_eq ex35
    have hF0 := hF0.trans (fl_lt_eq (show x35.toInt = fl_min x32.toInt 16 from fqx35))
    refine va_put (D := (dC, dI)) (ci := 1) (v := .int x35) (ty := .int) (C := RX1) (T := TX1) (N := 5) hx hb hts zi_X1_keep_1 tyX1 tyX1_ok nmX1 hown hK hP hD hS 0 rfl rfl 0 (by decide) (hts (.fieldLink RX1 21 "WaxTurns$History" "keptCount" "I") (List.mem_cons_of_mem _ (List.mem_append_left _ (List.mem_append_left _ (List.mem_of_getElem? (i := 2) rfl))))) (fun _ h9 => h9) rfl (tyX1_ok 0 (by decide)) rfl rfl (Nat.le_of_ble_eq_true rfl) dX1_keep_38 (fun H locs hP hD hS => ?_)
    refine zs_0 (y := (a0, .inr (1, [.int x35, a0g_1, .int 14, .ref a0_3, a0g_4]))) hP hD rfl (fun hP hD => ?_)
    have hFe : FX = (x35.toInt, 14, (fl_nI [a0_3e0_0.toInt, a0_3e0_1.toInt, a0_3e0_2.toInt, a0_3e0_3.toInt, a0_3e0_4.toInt, a0_3e1_0.toInt, a0_3e1_1.toInt, a0_3e1_2.toInt, a0_3e1_3.toInt, a0_3e1_4.toInt, a0_3e2_0.toInt, a0_3e2_1.toInt, a0_3e2_2.toInt, a0_3e2_3.toInt, a0_3e2_4.toInt, a0_3e3_0.toInt, a0_3e3_1.toInt, a0_3e3_2.toInt, a0_3e3_3.toInt, a0_3e3_4.toInt, a0_3e4_0.toInt, a0_3e4_1.toInt, a0_3e4_2.toInt, a0_3e4_3.toInt, a0_3e4_4.toInt, a0_3e5_0.toInt, a0_3e5_1.toInt, a0_3e5_2.toInt, a0_3e5_3.toInt, a0_3e5_4.toInt, a0_3e6_0.toInt, a0_3e6_1.toInt, a0_3e6_2.toInt, a0_3e6_3.toInt, a0_3e6_4.toInt, a0_3e7_0.toInt, a0_3e7_1.toInt, a0_3e7_2.toInt, a0_3e7_3.toInt, a0_3e7_4.toInt, a0_3e8_0.toInt, a0_3e8_1.toInt, a0_3e8_2.toInt, a0_3e8_3.toInt, a0_3e8_4.toInt, a0_3e9_0.toInt, a0_3e9_1.toInt, a0_3e9_2.toInt, a0_3e9_3.toInt, a0_3e9_4.toInt, a0_3e10_0.toInt, a0_3e10_1.toInt, a0_3e10_2.toInt, a0_3e10_3.toInt, a0_3e10_4.toInt, a0_3e11_0.toInt, a0_3e11_1.toInt, a0_3e11_2.toInt, a0_3e11_3.toInt, a0_3e11_4.toInt, a0_3e12_0.toInt, a0_3e12_1.toInt, a0_3e12_2.toInt, a0_3e12_3.toInt, a0_3e12_4.toInt, a0_3e13_0.toInt, a0_3e13_1.toInt, a0_3e13_2.toInt, a0_3e13_3.toInt, a0_3e13_4.toInt, v23na0_0.toInt, v23na0_1.toInt, v23na0_2.toInt, v23na0_3.toInt, v23na0_4.toInt, a0_3e15_0.toInt, a0_3e15_1.toInt, a0_3e15_2.toInt, a0_3e15_3.toInt, a0_3e15_4.toInt]), (fl_nF [(fl_A fa0_3e0_5), (fl_A fa0_3e0_6), (fl_A fa0_3e1_5), (fl_A fa0_3e1_6), (fl_A fa0_3e2_5), (fl_A fa0_3e2_6), (fl_A fa0_3e3_5), (fl_A fa0_3e3_6), (fl_A fa0_3e4_5), (fl_A fa0_3e4_6), (fl_A fa0_3e5_5), (fl_A fa0_3e5_6), (fl_A fa0_3e6_5), (fl_A fa0_3e6_6), (fl_A fa0_3e7_5), (fl_A fa0_3e7_6), (fl_A fa0_3e8_5), (fl_A fa0_3e8_6), (fl_A fa0_3e9_5), (fl_A fa0_3e9_6), (fl_A fa0_3e10_5), (fl_A fa0_3e10_6), (fl_A fa0_3e11_5), (fl_A fa0_3e11_6), (fl_A fa0_3e12_5), (fl_A fa0_3e12_6), (fl_A fa0_3e13_5), (fl_A fa0_3e13_6), (fl_A v23nfa0_5), (fl_A v23nfa0_6), (fl_A fa0_3e15_5), (fl_A fa0_3e15_6)])) := hF0
    exact W.vret hx hb hr (fun t ht hW => ⟨⟨(), rfl, trivial, (fun i9 => ([x35, 14, a0_3e0_0, a0_3e0_1, a0_3e0_2, a0_3e0_3, a0_3e0_4, a0_3e1_0, a0_3e1_1, a0_3e1_2, a0_3e1_3, a0_3e1_4, a0_3e2_0, a0_3e2_1, a0_3e2_2, a0_3e2_3, a0_3e2_4, a0_3e3_0, a0_3e3_1, a0_3e3_2, a0_3e3_3, a0_3e3_4, a0_3e4_0, a0_3e4_1, a0_3e4_2, a0_3e4_3, a0_3e4_4, a0_3e5_0, a0_3e5_1, a0_3e5_2, a0_3e5_3, a0_3e5_4, a0_3e6_0, a0_3e6_1, a0_3e6_2, a0_3e6_3, a0_3e6_4, a0_3e7_0, a0_3e7_1, a0_3e7_2, a0_3e7_3, a0_3e7_4, a0_3e8_0, a0_3e8_1, a0_3e8_2, a0_3e8_3, a0_3e8_4, a0_3e9_0, a0_3e9_1, a0_3e9_2, a0_3e9_3, a0_3e9_4, a0_3e10_0, a0_3e10_1, a0_3e10_2, a0_3e10_3, a0_3e10_4, a0_3e11_0, a0_3e11_1, a0_3e11_2, a0_3e11_3, a0_3e11_4, a0_3e12_0, a0_3e12_1, a0_3e12_2, a0_3e12_3, a0_3e12_4, a0_3e13_0, a0_3e13_1, a0_3e13_2, a0_3e13_3, a0_3e13_4, v23na0_0, v23na0_1, v23na0_2, v23na0_3, v23na0_4, a0_3e15_0, a0_3e15_1, a0_3e15_2, a0_3e15_3, a0_3e15_4] : List Int32).getD i9 0), (fun i9 => ([fa0_3e0_5, fa0_3e0_6, fa0_3e1_5, fa0_3e1_6, fa0_3e2_5, fa0_3e2_6, fa0_3e3_5, fa0_3e3_6, fa0_3e4_5, fa0_3e4_6, fa0_3e5_5, fa0_3e5_6, fa0_3e6_5, fa0_3e6_6, fa0_3e7_5, fa0_3e7_6, fa0_3e8_5, fa0_3e8_6, fa0_3e9_5, fa0_3e9_6, fa0_3e10_5, fa0_3e10_6, fa0_3e11_5, fa0_3e11_6, fa0_3e12_5, fa0_3e12_6, fa0_3e13_5, fa0_3e13_6, v23nfa0_5, v23nfa0_6, fa0_3e15_5, fa0_3e15_6] : List (Nat → Int32)).getD i9 (fun _ => 0)), ⟨Int.le_trans (by decide) bx35.1, bx35.2⟩, ⟨Int.le_trans (by decide) zq123, Int.le_trans zq124 (by decide)⟩, ⟨ba0_3e0_1_l, ba0_3e0_1_u⟩, ⟨ba0_3e1_1_l, ba0_3e1_1_u⟩, ⟨ba0_3e2_1_l, ba0_3e2_1_u⟩, ⟨ba0_3e3_1_l, ba0_3e3_1_u⟩, ⟨ba0_3e4_1_l, ba0_3e4_1_u⟩, ⟨ba0_3e5_1_l, ba0_3e5_1_u⟩, ⟨ba0_3e6_1_l, ba0_3e6_1_u⟩, ⟨ba0_3e7_1_l, ba0_3e7_1_u⟩, ⟨ba0_3e8_1_l, ba0_3e8_1_u⟩, ⟨ba0_3e9_1_l, ba0_3e9_1_u⟩, ⟨ba0_3e10_1_l, ba0_3e10_1_u⟩, ⟨ba0_3e11_1_l, ba0_3e11_1_u⟩, ⟨ba0_3e12_1_l, ba0_3e12_1_u⟩, ⟨ba0_3e13_1_l, ba0_3e13_1_u⟩, ⟨bv23na0_1.1, bv23na0_1.2⟩, ⟨ba0_3e15_1_l, ba0_3e15_1_u⟩, (show (FX = (x35.toInt, (14 : Int32).toInt, (fl_nI [a0_3e0_0.toInt, a0_3e0_1.toInt, a0_3e0_2.toInt, a0_3e0_3.toInt, a0_3e0_4.toInt, a0_3e1_0.toInt, a0_3e1_1.toInt, a0_3e1_2.toInt, a0_3e1_3.toInt, a0_3e1_4.toInt, a0_3e2_0.toInt, a0_3e2_1.toInt, a0_3e2_2.toInt, a0_3e2_3.toInt, a0_3e2_4.toInt, a0_3e3_0.toInt, a0_3e3_1.toInt, a0_3e3_2.toInt, a0_3e3_3.toInt, a0_3e3_4.toInt, a0_3e4_0.toInt, a0_3e4_1.toInt, a0_3e4_2.toInt, a0_3e4_3.toInt, a0_3e4_4.toInt, a0_3e5_0.toInt, a0_3e5_1.toInt, a0_3e5_2.toInt, a0_3e5_3.toInt, a0_3e5_4.toInt, a0_3e6_0.toInt, a0_3e6_1.toInt, a0_3e6_2.toInt, a0_3e6_3.toInt, a0_3e6_4.toInt, a0_3e7_0.toInt, a0_3e7_1.toInt, a0_3e7_2.toInt, a0_3e7_3.toInt, a0_3e7_4.toInt, a0_3e8_0.toInt, a0_3e8_1.toInt, a0_3e8_2.toInt, a0_3e8_3.toInt, a0_3e8_4.toInt, a0_3e9_0.toInt, a0_3e9_1.toInt, a0_3e9_2.toInt, a0_3e9_3.toInt, a0_3e9_4.toInt, a0_3e10_0.toInt, a0_3e10_1.toInt, a0_3e10_2.toInt, a0_3e10_3.toInt, a0_3e10_4.toInt, a0_3e11_0.toInt, a0_3e11_1.toInt, a0_3e11_2.toInt, a0_3e11_3.toInt, a0_3e11_4.toInt, a0_3e12_0.toInt, a0_3e12_1.toInt, a0_3e12_2.toInt, a0_3e12_3.toInt, a0_3e12_4.toInt, a0_3e13_0.toInt, a0_3e13_1.toInt, a0_3e13_2.toInt, a0_3e13_3.toInt, a0_3e13_4.toInt, v23na0_0.toInt, v23na0_1.toInt, v23na0_2.toInt, v23na0_3.toInt, v23na0_4.toInt, a0_3e15_0.toInt, a0_3e15_1.toInt, a0_3e15_2.toInt, a0_3e15_3.toInt, a0_3e15_4.toInt]), (fl_nF [(fl_A fa0_3e0_5), (fl_A fa0_3e0_6), (fl_A fa0_3e1_5), (fl_A fa0_3e1_6), (fl_A fa0_3e2_5), (fl_A fa0_3e2_6), (fl_A fa0_3e3_5), (fl_A fa0_3e3_6), (fl_A fa0_3e4_5), (fl_A fa0_3e4_6), (fl_A fa0_3e5_5), (fl_A fa0_3e5_6), (fl_A fa0_3e6_5), (fl_A fa0_3e6_6), (fl_A fa0_3e7_5), (fl_A fa0_3e7_6), (fl_A fa0_3e8_5), (fl_A fa0_3e8_6), (fl_A fa0_3e9_5), (fl_A fa0_3e9_6), (fl_A fa0_3e10_5), (fl_A fa0_3e10_6), (fl_A fa0_3e11_5), (fl_A fa0_3e11_6), (fl_A fa0_3e12_5), (fl_A fa0_3e12_6), (fl_A fa0_3e13_5), (fl_A fa0_3e13_6), (fl_A v23nfa0_5), (fl_A v23nfa0_6), (fl_A fa0_3e15_5), (fl_A fa0_3e15_6)]))) from hFe), by rw [ht]; exact hP, va_K.moved hW.alike hK, hD⟩, hS.F ht⟩) hS.2.2 dX1_keep_41
  · subst hv21
    have hF0 := hF0.trans (if_neg (by decide))
    have hF0 := hF0.trans (if_neg (by decide))
    have hF0 := hF0.trans (if_neg (by decide))
    have hF0 := hF0.trans (if_neg (by decide))
    have hF0 := hF0.trans (if_neg (by decide))
    have hF0 := hF0.trans (if_neg (by decide))
    have hF0 := hF0.trans (if_neg (by decide))
    have hF0 := hF0.trans (if_neg (by decide))
    have hF0 := hF0.trans (if_neg (by decide))
    have hF0 := hF0.trans (if_neg (by decide))
    have hF0 := hF0.trans (if_neg (by decide))
    have hF0 := hF0.trans (if_neg (by decide))
    have hF0 := hF0.trans (if_neg (by decide))
    have hF0 := hF0.trans (if_neg (by decide))
    have hF0 := hF0.trans (if_neg (by decide))
    refine va_aldq hx hb hK hP 1 0 rfl rfl (i := 15) (by unfold vp_in; decide +kernel) dX1_keep_21 ?_
    refine ax_tv (.ref a0_3e15) rfl ?_
    refine lv_aload_n hx hb dX1_keep_22 rfl (lv_at hl 1 rfl) ?_
    refine zc_cutc (wc := [(a0_3e15, .inr (5, [.int a0_3e15_0, .int a0_3e15_1, .int a0_3e15_2, .int a0_3e15_3, .int a0_3e15_4, .ref a0_3e15_5, .ref a0_3e15_6])), (a1, .inr (5, [.int a1_0, .int a1_1, .int a1_2, .int a1_3, .int a1_4, .ref a1_5, .ref a1_6])), (a1_5, .inl (ka1_5, 9, .inl (fa1_5))), (a0_3e15_5, .inl (ka0_3e15_5, 9, .inl (fa0_3e15_5))), (a1_6, .inl (ka1_6, 9, .inl (fa1_6))), (a0_3e15_6, .inl (ka0_3e15_6, 9, .inl (fa0_3e15_6)))]) hP hD hS hA [50, 3, 4, 51, 6, 52] (by decide +kernel) rfl (fun hPc hDc hFc hCc => ?_)
    have hKc := hK.sub (tys' := [(ka1_5, .int), (ka0_3e15_5, .int), (ka1_6, .int), (ka0_3e15_6, .int)]) [1, 33, 3, 34] rfl
    refine va_callv (va_runV (As := [.ref a1]) (rest := []) ⟨hx, hb, hml, hown, hts⟩ (f_X5_copyFrom l dC dI H.size a0_3e15 a1 a0_3e15_0 a0_3e15_1 a0_3e15_2 a0_3e15_3 a0_3e15_4 a0_3e15_5 a0_3e15_6 a1_0 a1_1 a1_2 a1_3 a1_4 a1_5 a1_6 ka1_5 fa1_5 ka0_3e15_5 fa0_3e15_5 ka1_6 fa1_6 ka0_3e15_6 fa0_3e15_6 ba0_3e15_1_l ba0_3e15_1_u ba1_1_l ba1_1_u) (cwV 1 hts gX1_keep_X5_copyFrom rfl rfl rfl zd_X5_copyFrom ⟨Nat.le_of_ble_eq_true rfl, Nat.le_of_ble_eq_true rfl⟩) ⟨ax_blind (fun _ _ _ _ _ => trivial), zr_5 hKc hPc (q0 := 0) rfl, ax_pre hPc hKc hDc (fun _ _ => trivial)⟩ rfl rfl hl.1 rfl (lv_room (Nat.le_of_ble_eq_true rfl)) dX1_keep_23 ⟨Nat.le_of_ble_eq_true rfl, Nat.le_of_ble_eq_true rfl⟩) hS (fun q _ h => hFc q h) hFc (fun u t H locs ht hvm hw => zx_7 (fun v23na0_0 v23na0_1 v23na0_2 v23na0_3 v23na0_4 v23nfa0_5 v23nfa0_6 => zy_2 (fun bv23na0_1 hraw23_0 hB hz1 hk1 hS1 => zo hB ht hS1 (fun hP1 hK1 hD1 hS => ?_))))
    refine zc_backc (w := [(a0, .inr (1, [.int a0_0, a0g_1, .int 15, .ref a0_3, a0g_4])), (a0_3, .inl (ka0_3, 16, .inr (.inr (.inr (.inr (fun i9 => ([some a0_3e0, some a0_3e1, some a0_3e2, some a0_3e3, some a0_3e4, some a0_3e5, some a0_3e6, some a0_3e7, some a0_3e8, some a0_3e9, some a0_3e10, some a0_3e11, some a0_3e12, some a0_3e13, some a0_3e14, some a0_3e15] : List (Option Nat)).getD i9 none)))))), (a0_3e0, .inr (5, [.int a0_3e0_0, .int a0_3e0_1, .int a0_3e0_2, .int a0_3e0_3, .int a0_3e0_4, .ref a0_3e0_5, .ref a0_3e0_6])), (a1, .inr (5, [.int a1_0, .int a1_1, .int a1_2, .int a1_3, .int a1_4, .ref a1_5, .ref a1_6])), (a1_5, .inl (ka1_5, 9, .inl (fa1_5))), (a0_3e0_5, .inl (ka0_3e0_5, 9, .inl (fa0_3e0_5))), (a1_6, .inl (ka1_6, 9, .inl (fa1_6))), (a0_3e0_6, .inl (ka0_3e0_6, 9, .inl (fa0_3e0_6))), (a0_3e1, .inr (5, [.int a0_3e1_0, .int a0_3e1_1, .int a0_3e1_2, .int a0_3e1_3, .int a0_3e1_4, .ref a0_3e1_5, .ref a0_3e1_6])), (a0_3e1_5, .inl (ka0_3e1_5, 9, .inl (fa0_3e1_5))), (a0_3e1_6, .inl (ka0_3e1_6, 9, .inl (fa0_3e1_6))), (a0_3e2, .inr (5, [.int a0_3e2_0, .int a0_3e2_1, .int a0_3e2_2, .int a0_3e2_3, .int a0_3e2_4, .ref a0_3e2_5, .ref a0_3e2_6])), (a0_3e2_5, .inl (ka0_3e2_5, 9, .inl (fa0_3e2_5))), (a0_3e2_6, .inl (ka0_3e2_6, 9, .inl (fa0_3e2_6))), (a0_3e3, .inr (5, [.int a0_3e3_0, .int a0_3e3_1, .int a0_3e3_2, .int a0_3e3_3, .int a0_3e3_4, .ref a0_3e3_5, .ref a0_3e3_6])), (a0_3e3_5, .inl (ka0_3e3_5, 9, .inl (fa0_3e3_5))), (a0_3e3_6, .inl (ka0_3e3_6, 9, .inl (fa0_3e3_6))), (a0_3e4, .inr (5, [.int a0_3e4_0, .int a0_3e4_1, .int a0_3e4_2, .int a0_3e4_3, .int a0_3e4_4, .ref a0_3e4_5, .ref a0_3e4_6])), (a0_3e4_5, .inl (ka0_3e4_5, 9, .inl (fa0_3e4_5))), (a0_3e4_6, .inl (ka0_3e4_6, 9, .inl (fa0_3e4_6))), (a0_3e5, .inr (5, [.int a0_3e5_0, .int a0_3e5_1, .int a0_3e5_2, .int a0_3e5_3, .int a0_3e5_4, .ref a0_3e5_5, .ref a0_3e5_6])), (a0_3e5_5, .inl (ka0_3e5_5, 9, .inl (fa0_3e5_5))), (a0_3e5_6, .inl (ka0_3e5_6, 9, .inl (fa0_3e5_6))), (a0_3e6, .inr (5, [.int a0_3e6_0, .int a0_3e6_1, .int a0_3e6_2, .int a0_3e6_3, .int a0_3e6_4, .ref a0_3e6_5, .ref a0_3e6_6])), (a0_3e6_5, .inl (ka0_3e6_5, 9, .inl (fa0_3e6_5))), (a0_3e6_6, .inl (ka0_3e6_6, 9, .inl (fa0_3e6_6))), (a0_3e7, .inr (5, [.int a0_3e7_0, .int a0_3e7_1, .int a0_3e7_2, .int a0_3e7_3, .int a0_3e7_4, .ref a0_3e7_5, .ref a0_3e7_6])), (a0_3e7_5, .inl (ka0_3e7_5, 9, .inl (fa0_3e7_5))), (a0_3e7_6, .inl (ka0_3e7_6, 9, .inl (fa0_3e7_6))), (a0_3e8, .inr (5, [.int a0_3e8_0, .int a0_3e8_1, .int a0_3e8_2, .int a0_3e8_3, .int a0_3e8_4, .ref a0_3e8_5, .ref a0_3e8_6])), (a0_3e8_5, .inl (ka0_3e8_5, 9, .inl (fa0_3e8_5))), (a0_3e8_6, .inl (ka0_3e8_6, 9, .inl (fa0_3e8_6))), (a0_3e9, .inr (5, [.int a0_3e9_0, .int a0_3e9_1, .int a0_3e9_2, .int a0_3e9_3, .int a0_3e9_4, .ref a0_3e9_5, .ref a0_3e9_6])), (a0_3e9_5, .inl (ka0_3e9_5, 9, .inl (fa0_3e9_5))), (a0_3e9_6, .inl (ka0_3e9_6, 9, .inl (fa0_3e9_6))), (a0_3e10, .inr (5, [.int a0_3e10_0, .int a0_3e10_1, .int a0_3e10_2, .int a0_3e10_3, .int a0_3e10_4, .ref a0_3e10_5, .ref a0_3e10_6])), (a0_3e10_5, .inl (ka0_3e10_5, 9, .inl (fa0_3e10_5))), (a0_3e10_6, .inl (ka0_3e10_6, 9, .inl (fa0_3e10_6))), (a0_3e11, .inr (5, [.int a0_3e11_0, .int a0_3e11_1, .int a0_3e11_2, .int a0_3e11_3, .int a0_3e11_4, .ref a0_3e11_5, .ref a0_3e11_6])), (a0_3e11_5, .inl (ka0_3e11_5, 9, .inl (fa0_3e11_5))), (a0_3e11_6, .inl (ka0_3e11_6, 9, .inl (fa0_3e11_6))), (a0_3e12, .inr (5, [.int a0_3e12_0, .int a0_3e12_1, .int a0_3e12_2, .int a0_3e12_3, .int a0_3e12_4, .ref a0_3e12_5, .ref a0_3e12_6])), (a0_3e12_5, .inl (ka0_3e12_5, 9, .inl (fa0_3e12_5))), (a0_3e12_6, .inl (ka0_3e12_6, 9, .inl (fa0_3e12_6))), (a0_3e13, .inr (5, [.int a0_3e13_0, .int a0_3e13_1, .int a0_3e13_2, .int a0_3e13_3, .int a0_3e13_4, .ref a0_3e13_5, .ref a0_3e13_6])), (a0_3e13_5, .inl (ka0_3e13_5, 9, .inl (fa0_3e13_5))), (a0_3e13_6, .inl (ka0_3e13_6, 9, .inl (fa0_3e13_6))), (a0_3e14, .inr (5, [.int a0_3e14_0, .int a0_3e14_1, .int a0_3e14_2, .int a0_3e14_3, .int a0_3e14_4, .ref a0_3e14_5, .ref a0_3e14_6])), (a0_3e14_5, .inl (ka0_3e14_5, 9, .inl (fa0_3e14_5))), (a0_3e14_6, .inl (ka0_3e14_6, 9, .inl (fa0_3e14_6))), (a0_3e15, .inr (5, [.int v23na0_0, .int v23na0_1, .int v23na0_2, .int v23na0_3, .int v23na0_4, .ref a0_3e15_5, .ref a0_3e15_6])), (a0_3e15_5, .inl (ka0_3e15_5, 9, .inl (v23nfa0_5))), (a0_3e15_6, .inl (ka0_3e15_6, 9, .inl (v23nfa0_6)))]) hP hD hCc hk1 hFc hP1 hD1 [.inl 0, .inl 1, .inl 2, .inr 1, .inr 2, .inl 5, .inr 4, .inl 7, .inl 8, .inl 9, .inl 10, .inl 11, .inl 12, .inl 13, .inl 14, .inl 15, .inl 16, .inl 17, .inl 18, .inl 19, .inl 20, .inl 21, .inl 22, .inl 23, .inl 24, .inl 25, .inl 26, .inl 27, .inl 28, .inl 29, .inl 30, .inl 31, .inl 32, .inl 33, .inl 34, .inl 35, .inl 36, .inl 37, .inl 38, .inl 39, .inl 40, .inl 41, .inl 42, .inl 43, .inl 44, .inl 45, .inl 46, .inl 47, .inl 48, .inl 49, .inr 0, .inr 3, .inr 5] (by decide +kernel) rfl (fun hP hD => ?_)
    have hc23 : Ff_X5_copyFrom a1_0.toInt a1_1.toInt a1_2.toInt a1_3.toInt a1_4.toInt (fl_A fa1_5) (fl_A fa0_3e15_5) (fl_A fa1_6) (fl_A fa0_3e15_6) = (v23na0_0.toInt, v23na0_1.toInt, v23na0_2.toInt, v23na0_3.toInt, v23na0_4.toInt, (fl_A v23nfa0_5), (fl_A v23nfa0_6)) := hraw23_0
    have hF0 := hF0.trans (fl_c7_eq hc23)
    refine lv_aload_n hx hb dX1_keep_26 rfl (lv_at hl 0 rfl) ?_
    refine lv_aload_n hx hb dX1_keep_27 rfl (lv_at hl 0 rfl) ?_
    refine va_get (D := (dC, dI)) (ci := 1) (v := .int a0_0) (C := RX1) (T := TX1) (N := 5) hx hb hts zi_X1_keep_1 hown hK hP 0 rfl rfl 0 (by decide) (hts (.fieldLink RX1 21 "WaxTurns$History" "keptCount" "I") (List.mem_cons_of_mem _ (List.mem_append_left _ (List.mem_append_left _ (List.mem_of_getElem? (i := 2) rfl))))) (fun _ h9 => h9) rfl dX1_keep_28 ?_
    refine lv_iconst (v := 1) hx hb dX1_keep_31 zk_iconst_1 ?_
    refine lv_iadd hx hb dX1_keep_32 ?_
    refine lv_topi (fun x32 ex32 => ?_)
    have qx32 : x32.toInt = a0_0.toInt + (1 : Int32).toInt := ai_add ex32 ⟨ba0_0_l, ba0_0_u⟩ ⟨zq1, zq0⟩ (by decide) (by decide)
    have bx32 : (1 : Int) ≤ x32.toInt ∧ x32.toInt ≤ 17 := ⟨by rw [qx32]; exact Int.add_le_add ba0_0_l zq1, by rw [qx32]; exact Int.add_le_add ba0_0_u zq0⟩
    have wx32 : x32.toInt = a0_0.toInt + 1 := qx32
    have hF0 := hF0.trans (fl_lt_eq (show x32.toInt = a0_0.toInt + 1 from qx32))
    refine lv_bipush (v := 16) hx hb dX1_keep_33 zk_bipush_16 ?_
    refine va_mmin hx hb (by rw [hml]; exact hl.1.symm) hown (hts (.methodLink RX1 35 Lib.Math.min.name) (List.mem_cons_of_mem _ (List.mem_append_left _ (List.mem_append_left _ (List.mem_of_getElem? (i := 3) rfl))))) (hts (.static Lib.Math.min.name) (List.mem_cons_of_mem _ (List.mem_append_left _ (List.mem_append_left _ (List.mem_of_getElem? (i := 4) rfl))))) (hts (.initialized "java/lang/Math") (List.mem_cons_of_mem _ (List.mem_append_left _ (List.mem_append_left _ (List.mem_of_getElem? (i := 5) rfl))))) (hts _ mnX1_keep) (Nat.le_of_ble_eq_true rfl) (Nat.le_of_ble_eq_true rfl) (Nat.le_of_ble_eq_true rfl) (Nat.le_of_ble_eq_true rfl) dX1_keep_35 ?_
    refine lv_topi (fun x35 ex35 => ?_)
    have qx35 := ai_mmin ex35
    have bx35 : (1 : Int) ≤ x35.toInt ∧ x35.toInt ≤ 16 := by first | exact zg_mm qx35 bx32.1 zq110 bx32.2 zq111 (by decide) (by decide) (by decide) | exact zg_mm qx35 zq110 bx32.1 zq111 bx32.2 (by decide) (by decide) (by decide) | (have h1 := bx32.1; have h2 := zq110; have h3 := bx32.2; have h4 := zq111; omega)
    have fqx35 := fl_min_eq ex35
    have hF0 := hF0.trans (fl_lt_eq (show x35.toInt = fl_min x32.toInt 16 from fqx35))
    refine va_put (D := (dC, dI)) (ci := 1) (v := .int x35) (ty := .int) (C := RX1) (T := TX1) (N := 5) hx hb hts zi_X1_keep_1 tyX1 tyX1_ok nmX1 hown hK hP hD hS 0 rfl rfl 0 (by decide) (hts (.fieldLink RX1 21 "WaxTurns$History" "keptCount" "I") (List.mem_cons_of_mem _ (List.mem_append_left _ (List.mem_append_left _ (List.mem_of_getElem? (i := 2) rfl))))) (fun _ h9 => h9) rfl (tyX1_ok 0 (by decide)) rfl rfl (Nat.le_of_ble_eq_true rfl) dX1_keep_38 (fun H locs hP hD hS => ?_)
    refine zs_0 (y := (a0, .inr (1, [.int x35, a0g_1, .int 15, .ref a0_3, a0g_4]))) hP hD rfl (fun hP hD => ?_)
    have hFe : FX = (x35.toInt, 15, (fl_nI [a0_3e0_0.toInt, a0_3e0_1.toInt, a0_3e0_2.toInt, a0_3e0_3.toInt, a0_3e0_4.toInt, a0_3e1_0.toInt, a0_3e1_1.toInt, a0_3e1_2.toInt, a0_3e1_3.toInt, a0_3e1_4.toInt, a0_3e2_0.toInt, a0_3e2_1.toInt, a0_3e2_2.toInt, a0_3e2_3.toInt, a0_3e2_4.toInt, a0_3e3_0.toInt, a0_3e3_1.toInt, a0_3e3_2.toInt, a0_3e3_3.toInt, a0_3e3_4.toInt, a0_3e4_0.toInt, a0_3e4_1.toInt, a0_3e4_2.toInt, a0_3e4_3.toInt, a0_3e4_4.toInt, a0_3e5_0.toInt, a0_3e5_1.toInt, a0_3e5_2.toInt, a0_3e5_3.toInt, a0_3e5_4.toInt, a0_3e6_0.toInt, a0_3e6_1.toInt, a0_3e6_2.toInt, a0_3e6_3.toInt, a0_3e6_4.toInt, a0_3e7_0.toInt, a0_3e7_1.toInt, a0_3e7_2.toInt, a0_3e7_3.toInt, a0_3e7_4.toInt, a0_3e8_0.toInt, a0_3e8_1.toInt, a0_3e8_2.toInt, a0_3e8_3.toInt, a0_3e8_4.toInt, a0_3e9_0.toInt, a0_3e9_1.toInt, a0_3e9_2.toInt, a0_3e9_3.toInt, a0_3e9_4.toInt, a0_3e10_0.toInt, a0_3e10_1.toInt, a0_3e10_2.toInt, a0_3e10_3.toInt, a0_3e10_4.toInt, a0_3e11_0.toInt, a0_3e11_1.toInt, a0_3e11_2.toInt, a0_3e11_3.toInt, a0_3e11_4.toInt, a0_3e12_0.toInt, a0_3e12_1.toInt, a0_3e12_2.toInt, a0_3e12_3.toInt, a0_3e12_4.toInt, a0_3e13_0.toInt, a0_3e13_1.toInt, a0_3e13_2.toInt, a0_3e13_3.toInt, a0_3e13_4.toInt, a0_3e14_0.toInt, a0_3e14_1.toInt, a0_3e14_2.toInt, a0_3e14_3.toInt, a0_3e14_4.toInt, v23na0_0.toInt, v23na0_1.toInt, v23na0_2.toInt, v23na0_3.toInt, v23na0_4.toInt]), (fl_nF [(fl_A fa0_3e0_5), (fl_A fa0_3e0_6), (fl_A fa0_3e1_5), (fl_A fa0_3e1_6), (fl_A fa0_3e2_5), (fl_A fa0_3e2_6), (fl_A fa0_3e3_5), (fl_A fa0_3e3_6), (fl_A fa0_3e4_5), (fl_A fa0_3e4_6), (fl_A fa0_3e5_5), (fl_A fa0_3e5_6), (fl_A fa0_3e6_5), (fl_A fa0_3e6_6), (fl_A fa0_3e7_5), (fl_A fa0_3e7_6), (fl_A fa0_3e8_5), (fl_A fa0_3e8_6), (fl_A fa0_3e9_5), (fl_A fa0_3e9_6), (fl_A fa0_3e10_5), (fl_A fa0_3e10_6), (fl_A fa0_3e11_5), (fl_A fa0_3e11_6), (fl_A fa0_3e12_5), (fl_A fa0_3e12_6), (fl_A fa0_3e13_5), (fl_A fa0_3e13_6), (fl_A fa0_3e14_5), (fl_A fa0_3e14_6), (fl_A v23nfa0_5), (fl_A v23nfa0_6)])) := hF0
    exact W.vret hx hb hr (fun t ht hW => ⟨⟨(), rfl, trivial, (fun i9 => ([x35, 15, a0_3e0_0, a0_3e0_1, a0_3e0_2, a0_3e0_3, a0_3e0_4, a0_3e1_0, a0_3e1_1, a0_3e1_2, a0_3e1_3, a0_3e1_4, a0_3e2_0, a0_3e2_1, a0_3e2_2, a0_3e2_3, a0_3e2_4, a0_3e3_0, a0_3e3_1, a0_3e3_2, a0_3e3_3, a0_3e3_4, a0_3e4_0, a0_3e4_1, a0_3e4_2, a0_3e4_3, a0_3e4_4, a0_3e5_0, a0_3e5_1, a0_3e5_2, a0_3e5_3, a0_3e5_4, a0_3e6_0, a0_3e6_1, a0_3e6_2, a0_3e6_3, a0_3e6_4, a0_3e7_0, a0_3e7_1, a0_3e7_2, a0_3e7_3, a0_3e7_4, a0_3e8_0, a0_3e8_1, a0_3e8_2, a0_3e8_3, a0_3e8_4, a0_3e9_0, a0_3e9_1, a0_3e9_2, a0_3e9_3, a0_3e9_4, a0_3e10_0, a0_3e10_1, a0_3e10_2, a0_3e10_3, a0_3e10_4, a0_3e11_0, a0_3e11_1, a0_3e11_2, a0_3e11_3, a0_3e11_4, a0_3e12_0, a0_3e12_1, a0_3e12_2, a0_3e12_3, a0_3e12_4, a0_3e13_0, a0_3e13_1, a0_3e13_2, a0_3e13_3, a0_3e13_4, a0_3e14_0, a0_3e14_1, a0_3e14_2, a0_3e14_3, a0_3e14_4, v23na0_0, v23na0_1, v23na0_2, v23na0_3, v23na0_4] : List Int32).getD i9 0), (fun i9 => ([fa0_3e0_5, fa0_3e0_6, fa0_3e1_5, fa0_3e1_6, fa0_3e2_5, fa0_3e2_6, fa0_3e3_5, fa0_3e3_6, fa0_3e4_5, fa0_3e4_6, fa0_3e5_5, fa0_3e5_6, fa0_3e6_5, fa0_3e6_6, fa0_3e7_5, fa0_3e7_6, fa0_3e8_5, fa0_3e8_6, fa0_3e9_5, fa0_3e9_6, fa0_3e10_5, fa0_3e10_6, fa0_3e11_5, fa0_3e11_6, fa0_3e12_5, fa0_3e12_6, fa0_3e13_5, fa0_3e13_6, fa0_3e14_5, fa0_3e14_6, v23nfa0_5, v23nfa0_6] : List (Nat → Int32)).getD i9 (fun _ => 0)), ⟨Int.le_trans (by decide) bx35.1, bx35.2⟩, ⟨Int.le_trans (by decide) zq125, zq126⟩, ⟨ba0_3e0_1_l, ba0_3e0_1_u⟩, ⟨ba0_3e1_1_l, ba0_3e1_1_u⟩, ⟨ba0_3e2_1_l, ba0_3e2_1_u⟩, ⟨ba0_3e3_1_l, ba0_3e3_1_u⟩, ⟨ba0_3e4_1_l, ba0_3e4_1_u⟩, ⟨ba0_3e5_1_l, ba0_3e5_1_u⟩, ⟨ba0_3e6_1_l, ba0_3e6_1_u⟩, ⟨ba0_3e7_1_l, ba0_3e7_1_u⟩, ⟨ba0_3e8_1_l, ba0_3e8_1_u⟩, ⟨ba0_3e9_1_l, ba0_3e9_1_u⟩, ⟨ba0_3e10_1_l, ba0_3e10_1_u⟩, ⟨ba0_3e11_1_l, ba0_3e11_1_u⟩, ⟨ba0_3e12_1_l, ba0_3e12_1_u⟩, ⟨ba0_3e13_1_l, ba0_3e13_1_u⟩, ⟨ba0_3e14_1_l, ba0_3e14_1_u⟩, ⟨bv23na0_1.1, bv23na0_1.2⟩, (show (FX = (x35.toInt, (15 : Int32).toInt, (fl_nI [a0_3e0_0.toInt, a0_3e0_1.toInt, a0_3e0_2.toInt, a0_3e0_3.toInt, a0_3e0_4.toInt, a0_3e1_0.toInt, a0_3e1_1.toInt, a0_3e1_2.toInt, a0_3e1_3.toInt, a0_3e1_4.toInt, a0_3e2_0.toInt, a0_3e2_1.toInt, a0_3e2_2.toInt, a0_3e2_3.toInt, a0_3e2_4.toInt, a0_3e3_0.toInt, a0_3e3_1.toInt, a0_3e3_2.toInt, a0_3e3_3.toInt, a0_3e3_4.toInt, a0_3e4_0.toInt, a0_3e4_1.toInt, a0_3e4_2.toInt, a0_3e4_3.toInt, a0_3e4_4.toInt, a0_3e5_0.toInt, a0_3e5_1.toInt, a0_3e5_2.toInt, a0_3e5_3.toInt, a0_3e5_4.toInt, a0_3e6_0.toInt, a0_3e6_1.toInt, a0_3e6_2.toInt, a0_3e6_3.toInt, a0_3e6_4.toInt, a0_3e7_0.toInt, a0_3e7_1.toInt, a0_3e7_2.toInt, a0_3e7_3.toInt, a0_3e7_4.toInt, a0_3e8_0.toInt, a0_3e8_1.toInt, a0_3e8_2.toInt, a0_3e8_3.toInt, a0_3e8_4.toInt, a0_3e9_0.toInt, a0_3e9_1.toInt, a0_3e9_2.toInt, a0_3e9_3.toInt, a0_3e9_4.toInt, a0_3e10_0.toInt, a0_3e10_1.toInt, a0_3e10_2.toInt, a0_3e10_3.toInt, a0_3e10_4.toInt, a0_3e11_0.toInt, a0_3e11_1.toInt, a0_3e11_2.toInt, a0_3e11_3.toInt, a0_3e11_4.toInt, a0_3e12_0.toInt, a0_3e12_1.toInt, a0_3e12_2.toInt, a0_3e12_3.toInt, a0_3e12_4.toInt, a0_3e13_0.toInt, a0_3e13_1.toInt, a0_3e13_2.toInt, a0_3e13_3.toInt, a0_3e13_4.toInt, a0_3e14_0.toInt, a0_3e14_1.toInt, a0_3e14_2.toInt, a0_3e14_3.toInt, a0_3e14_4.toInt, v23na0_0.toInt, v23na0_1.toInt, v23na0_2.toInt, v23na0_3.toInt, v23na0_4.toInt]), (fl_nF [(fl_A fa0_3e0_5), (fl_A fa0_3e0_6), (fl_A fa0_3e1_5), (fl_A fa0_3e1_6), (fl_A fa0_3e2_5), (fl_A fa0_3e2_6), (fl_A fa0_3e3_5), (fl_A fa0_3e3_6), (fl_A fa0_3e4_5), (fl_A fa0_3e4_6), (fl_A fa0_3e5_5), (fl_A fa0_3e5_6), (fl_A fa0_3e6_5), (fl_A fa0_3e6_6), (fl_A fa0_3e7_5), (fl_A fa0_3e7_6), (fl_A fa0_3e8_5), (fl_A fa0_3e8_6), (fl_A fa0_3e9_5), (fl_A fa0_3e9_6), (fl_A fa0_3e10_5), (fl_A fa0_3e10_6), (fl_A fa0_3e11_5), (fl_A fa0_3e11_6), (fl_A fa0_3e12_5), (fl_A fa0_3e12_6), (fl_A fa0_3e13_5), (fl_A fa0_3e13_6), (fl_A fa0_3e14_5), (fl_A fa0_3e14_6), (fl_A v23nfa0_5), (fl_A v23nfa0_6)]))) from hFe), by rw [ht]; exact hP, va_K.moved hW.alike hK, hD⟩, hS.F ht⟩) hS.2.2 dX1_keep_41
end P314_04_f
