section P102_safe
set_option maxHeartbeats 4000000 in
set_option maxRecDepth 100000 in
theorem c_X0_isHeardAt (l : Launch) (dC : Nat → ClassId) (dI : Nat → Nat → Nat) (sz : Nat) (a1 : Int32) (a2 : Int32)  : zm l yX0_isHeardAt wsX0_isHeardAt ({ frames := 0, cells := 0, slots := 0, locals := 0 }) [.int a1, .int a2] dC dI sz [] [] (fun A _ => True) (fun A => va_Qi (fun (r : Int32) (_ : Unit) => (r = 1) ∨ (r = 0)) (fun (_ : Unit) (t : State) => ax_B dC dI A [] [] t) A) := by
  refine zh (cc := cX0_isHeardAt) (maxL := 2) (ret := (some .boolean)) zn_RX0 rfl (Nat.le_of_ble_eq_true rfl) (fun p e s m below meth c A ls hx hb hml hr hts (hown : s.vm.findClass RX0 = some m.cls) hlocks hA hS hP hK hD hE (hl : lv_has ls 2 [(0, .int a1), (1, .int a2)]) => ?_)
  refine lv_iload_n hx hb dX0_isHeardAt_0 rfl (lv_at hl 1 rfl) ?_
  refine lv_bipush (v := 7) hx hb dX0_isHeardAt_1 zk_bipush_7 ?_
  refine lv_iload_n hx hb dX0_isHeardAt_3 rfl (lv_at hl 0 rfl) ?_
  refine lv_ishl hx hb dX0_isHeardAt_4 ?_
  refine lv_topi (fun x4 ex4 => ?_)
  refine lv_iconst (v := 1) hx hb dX0_isHeardAt_5 zk_iconst_1 ?_
  refine lv_ishr hx hb dX0_isHeardAt_6 ?_
  refine lv_topi (fun x6 ex6 => ?_)
  have qx6 : x6.toInt = x4.toInt / 2 := ai_shr1 ex6
  refine lv_iand hx hb dX0_isHeardAt_7 ?_
  refine lv_topi (fun x7 ex7 => ?_)
  refine lv_if_eq (tgt := 15) hx hb dX0_isHeardAt_8 (by decide) (fun c8 => ?_) (fun c8 => ?_)
  · have gc8 := ai_eq c8
    have u8t_x7 : x7.toInt ≤ (0 : Int) := Int.le_trans (Int.le_of_eq gc8) zq6
    have l8t_x7 : (0 : Int) ≤ x7.toInt := Int.le_trans zq5 (Int.le_of_eq gc8.symm)
    refine lv_iconst (v := 0) hx hb dX0_isHeardAt_15 zk_iconst_0 ?_
    exact W.zret (v := 0) hx hb hr rfl (fun t ht hW => ⟨⟨0, (), rfl, (Or.inr (rfl)), by rw [ht]; exact hP, va_K.moved hW.alike hK, hD⟩, hS.F ht⟩) hS.2.2 dX0_isHeardAt_16
  · have gc8 := ai_ne c8
    refine lv_iconst (v := 1) hx hb dX0_isHeardAt_11 zk_iconst_1 ?_
    refine lv_goto (tgt := 16) hx hb dX0_isHeardAt_12 (by decide) ?_
    exact W.zret (v := 1) hx hb hr rfl (fun t ht hW => ⟨⟨1, (), rfl, (Or.inl (rfl)), by rw [ht]; exact hP, va_K.moved hW.alike hK, hD⟩, hS.F ht⟩) hS.2.2 dX0_isHeardAt_16

set_option maxHeartbeats 4000000 in
set_option maxRecDepth 100000 in
theorem c_X0_partSaid (l : Launch) (dC : Nat → ClassId) (dI : Nat → Nat → Nat) (sz : Nat) (a0 : Nat) (a1 : Int32) (a2 : Int32) (a0g_0 a0g_1 a0g_2 a0g_3 a0g_4 a0g_5 a0g_6 a0g_7 a0g_8 a0g_9 a0g_12 a0g_13 a0g_14 : Value) (a0_10 : Nat) (a0_11 : Nat) (ka0_10 : ClassId) (fa0_10 : Nat → Int32) (ka0_11 : ClassId) (fa0_11 : Nat → Int32)  : zm l yX0_partSaid wsX0_partSaid ({ frames := 1, cells := 0, slots := 0, locals := 22 }) [.ref a0, .int a1, .int a2] dC dI sz [(a0, .inr (0, [a0g_0, a0g_1, a0g_2, a0g_3, a0g_4, a0g_5, a0g_6, a0g_7, a0g_8, a0g_9, .ref a0_10, .ref a0_11, a0g_12, a0g_13, a0g_14])), (a0_10, .inl (ka0_10, 9, .inl (fa0_10))), (a0_11, .inl (ka0_11, 9, .inl (fa0_11)))] [(ka0_10, .int), (ka0_11, .int)] (fun A U => va_Nw (.methodLinkNest RX0 118 yX7_within RX7) U) (fun A => va_Qi (fun (r : Int32) (_ : Unit) => True) (fun (_ : Unit) (t : State) => ax_B dC dI A [(a0, .inr (0, [a0g_0, a0g_1, a0g_2, a0g_3, a0g_4, a0g_5, a0g_6, a0g_7, a0g_8, a0g_9, .ref a0_10, .ref a0_11, a0g_12, a0g_13, a0g_14])), (a0_10, .inl (ka0_10, 9, .inl (fa0_10))), (a0_11, .inl (ka0_11, 9, .inl (fa0_11)))] [(ka0_10, .int), (ka0_11, .int)] t) A) := by
  refine zh (cc := cX0_partSaid) (maxL := 4) (ret := (some .int)) zn_RX0 rfl (Nat.le_of_ble_eq_true rfl) (fun p e s m below meth c A ls hx hb hml hr hts (hown : s.vm.findClass RX0 = some m.cls) hlocks hA hS hP hK hD hE (hl : lv_has ls 4 [(0, .ref a0), (1, .int a1), (2, .int a2)]) => ?_)
  have hE0 := hE
  refine lv_iload_n hx hb dX0_partSaid_0 rfl (lv_at hl 1 rfl) ?_
  refine lv_iconst (v := 0) hx hb dX0_partSaid_1 zk_iconst_0 ?_
  refine lv_bipush (v := 8) hx hb dX0_partSaid_2 zk_bipush_8 ?_
  refine va_calli (va_runSN (As := [.int a1, .int 0, .int 8]) (rest := []) ⟨hx, hb, hml, hown, hts⟩ (c_X7_within l dC dI s.heap.size a1 0 8 ) ⟨va_cnB 3 hts gX0_partSaid_X7_within_n118 rfl rfl rfl hE0 (hts (.initialized RX7) (List.mem_cons_of_mem _ (List.mem_append_left _ (List.mem_of_getElem? (i := 3) rfl)))) zd_X7_within.2 ⟨Nat.le_of_ble_eq_true rfl, Nat.le_of_ble_eq_true rfl⟩, (hts (.static yX7_within) (List.mem_cons_of_mem _ (List.mem_append_left _ (List.mem_of_getElem? (i := 2) rfl)))), trivial⟩ ⟨ax_blind (fun _ _ _ _ _ => trivial), ax_pre (zp_P0 hP) (zp_K hK) (zp_D0 hD) (fun _ _ => trivial)⟩ rfl rfl hl.1 rfl (lv_room (Nat.le_of_ble_eq_true rfl)) dX0_partSaid_4 ⟨Nat.le_of_ble_eq_true rfl, Nat.le_of_ble_eq_true rfl⟩) hS (fun q _ h => zp_F0 hD hS hA q h) (zp_F0 hD hS hA) (fun r4 u t H locs ht hvm hw hB hz1 hk1 hS1 => zo0 hB ht hP hD hk1 (zp_F0 hD hS hA) hS1 (fun hP hK1 hD hS => ?_))
  rcases hw with hw | hw
  · obtain ⟨hw, h4⟩ := hw
    subst hw
    have l4k0_a1 : (0 : Int) ≤ a1.toInt := Int.le_trans zq5 h4.1
    have u4k0_a1 : a1.toInt ≤ (8 : Int) := Int.le_trans h4.2 zq28
    refine lv_if_eq (tgt := 24) hx hb dX0_partSaid_7 (by decide) (fun c7 => absurd c7 (by decide +kernel)) (fun _ => ?_)
    refine lv_aload_n hx hb dX0_partSaid_10 rfl (lv_at hl 0 rfl) ?_
    refine va_get (D := (dC, dI)) (ci := 0) (v := .ref a0_10) (C := RX0) (T := TX0) (N := 15) hx hb hts zi_X0_partSaid_0 hown hK hP 0 rfl rfl 10 (by decide) (hts (.fieldLink RX0 9 "WaxTurns$Hall" "kinds" "[I") (List.mem_cons_of_mem _ (List.mem_append_left _ (List.mem_of_getElem? (i := 0) rfl)))) (fun _ h9 => h9) rfl dX0_partSaid_11 ?_
    refine lv_iload_n hx hb dX0_partSaid_14 rfl (lv_at hl 1 rfl) ?_
    refine va_iald hx hb hK hP 1 0 rfl rfl (ai_in l4k0_a1 u4k0_a1 (by decide) (by decide)) dX0_partSaid_15 ?_
    refine lv_topi (fun x15 ex15 => ?_)
    refine lv_iconst (v := 2) hx hb dX0_partSaid_16 zk_iconst_2 ?_
    refine lv_icmp_ne (tgt := 24) hx hb dX0_partSaid_17 (by decide) (fun c17 => ?_) (fun c17 => ?_)
    · have gc17 := ai_ne c17
      refine lv_iconst (v := 0) hx hb dX0_partSaid_24 zk_iconst_0 ?_
      refine lv_istore_n (lv' := [(3, .int 0), (0, .ref a0), (1, .int a1), (2, .int a2)]) hx hb dX0_partSaid_25 rfl hl (by decide) rfl (fun ls hl => ?_)
      refine lv_iload_n hx hb dX0_partSaid_26 rfl (lv_at hl 0 rfl) ?_
      refine lv_if_eq (tgt := 48) hx hb dX0_partSaid_27 (by decide) (fun _ => ?_) (fun c27 => absurd (by decide +kernel) c27)
      refine lv_iconst (v := 0) hx hb dX0_partSaid_48 zk_iconst_0 ?_
      exact W.iret (v := 0) hx hb hr (fun t ht hW => ⟨⟨0, (), rfl, trivial, by rw [ht]; exact hP, va_K.moved hW.alike hK, hD⟩, hS.F ht⟩) hS.2.2 dX0_partSaid_49
    · have gc17 := ai_eq c17
      have u17f_x15 : x15.toInt ≤ (2 : Int) := Int.le_trans (Int.le_of_eq gc17) zq13
      have l17f_x15 : (2 : Int) ≤ x15.toInt := Int.le_trans zq12 (Int.le_of_eq gc17.symm)
      refine lv_iconst (v := 1) hx hb dX0_partSaid_20 zk_iconst_1 ?_
      refine lv_goto (tgt := 25) hx hb dX0_partSaid_21 (by decide) ?_
      refine lv_istore_n (lv' := [(3, .int 1), (0, .ref a0), (1, .int a1), (2, .int a2)]) hx hb dX0_partSaid_25 rfl hl (by decide) rfl (fun ls hl => ?_)
      refine lv_iload_n hx hb dX0_partSaid_26 rfl (lv_at hl 0 rfl) ?_
      refine lv_if_eq (tgt := 48) hx hb dX0_partSaid_27 (by decide) (fun c27 => absurd c27 (by decide +kernel)) (fun _ => ?_)
      refine lv_iload_n hx hb dX0_partSaid_30 rfl (lv_at hl 3 rfl) ?_
      refine lv_aload_n hx hb dX0_partSaid_31 rfl (lv_at hl 1 rfl) ?_
      refine va_get (D := (dC, dI)) (ci := 0) (v := .ref a0_11) (C := RX0) (T := TX0) (N := 15) hx hb hts zi_X0_partSaid_0 hown hK hP 0 rfl rfl 11 (by decide) (hts (.fieldLink RX0 15 "WaxTurns$Hall" "measures" "[I") (List.mem_cons_of_mem _ (List.mem_append_left _ (List.mem_of_getElem? (i := 1) rfl)))) (fun _ h9 => h9) rfl dX0_partSaid_32 ?_
      refine lv_iload_n hx hb dX0_partSaid_35 rfl (lv_at hl 2 rfl) ?_
      refine va_iald hx hb hK hP 2 1 rfl rfl (ai_in l4k0_a1 u4k0_a1 (by decide) (by decide)) dX0_partSaid_36 ?_
      refine lv_topi (fun x36 ex36 => ?_)
      refine lv_icmp_gt (tgt := 48) hx hb dX0_partSaid_37 (by decide) (fun c37 => ?_) (fun c37 => ?_)
      · have gc37 := ai_lt c37
        have u37t_x36 : x36.toInt ≤ (2147483646 : Int) := ai_lthi gc37 (ai_max a2)
        have l37t_a2 : (-2147483647 : Int) ≤ a2.toInt := ai_ltlo gc37 (ai_min x36)
        refine lv_iconst (v := 0) hx hb dX0_partSaid_48 zk_iconst_0 ?_
        exact W.iret (v := 0) hx hb hr (fun t ht hW => ⟨⟨0, (), rfl, trivial, by rw [ht]; exact hP, va_K.moved hW.alike hK, hD⟩, hS.F ht⟩) hS.2.2 dX0_partSaid_49
      · have gc37 := ai_nlt c37
        refine lv_iconst (v := 1) hx hb dX0_partSaid_40 zk_iconst_1 ?_
        refine lv_iload_n hx hb dX0_partSaid_41 rfl (lv_at hl 3 rfl) ?_
        refine lv_iconst (v := 1) hx hb dX0_partSaid_42 zk_iconst_1 ?_
        refine lv_isub hx hb dX0_partSaid_43 ?_
        refine lv_topi (fun x43 ex43 => ?_)
        refine lv_ishl hx hb dX0_partSaid_44 ?_
        refine lv_topi (fun x44 ex44 => ?_)
        refine lv_goto (tgt := 49) hx hb dX0_partSaid_45 (by decide) ?_
        exact W.iret (v := x44) hx hb hr (fun t ht hW => ⟨⟨x44, (), rfl, trivial, by rw [ht]; exact hP, va_K.moved hW.alike hK, hD⟩, hS.F ht⟩) hS.2.2 dX0_partSaid_49
  · obtain ⟨hw, h4⟩ := hw
    subst hw
    refine lv_if_eq (tgt := 24) hx hb dX0_partSaid_7 (by decide) (fun _ => ?_) (fun c7 => absurd (by decide +kernel) c7)
    refine lv_iconst (v := 0) hx hb dX0_partSaid_24 zk_iconst_0 ?_
    refine lv_istore_n (lv' := [(3, .int 0), (0, .ref a0), (1, .int a1), (2, .int a2)]) hx hb dX0_partSaid_25 rfl hl (by decide) rfl (fun ls hl => ?_)
    refine lv_iload_n hx hb dX0_partSaid_26 rfl (lv_at hl 0 rfl) ?_
    refine lv_if_eq (tgt := 48) hx hb dX0_partSaid_27 (by decide) (fun _ => ?_) (fun c27 => absurd (by decide +kernel) c27)
    refine lv_iconst (v := 0) hx hb dX0_partSaid_48 zk_iconst_0 ?_
    exact W.iret (v := 0) hx hb hr (fun t ht hW => ⟨⟨0, (), rfl, trivial, by rw [ht]; exact hP, va_K.moved hW.alike hK, hD⟩, hS.F ht⟩) hS.2.2 dX0_partSaid_49

set_option maxHeartbeats 4000000 in
set_option maxRecDepth 100000 in
theorem c_X0_pass (l : Launch) (dC : Nat → ClassId) (dI : Nat → Nat → Nat) (sz : Nat) (a0 : Nat) (a1 : Nat) (a2 : Nat) (a0_0 : Int32) (a0_1 : Int32) (a0_2 : Int32) (a0g_3 a0g_4 a0g_7 a0g_8 a0g_9 a0g_12 a0g_13 a0g_14 : Value) (a0_5 : Int32) (a0_6 : Int32) (a0_10 : Nat) (a0_11 : Nat) (a1_0 : Int32) (a1_1 : Int32) (a1_2 : Int32) (a1_3 : Int32) (a1_4 : Int32) (a1_5 : Nat) (a1_6 : Nat) (ka0_10 : ClassId) (fa0_10 : Nat → Int32) (ka0_11 : ClassId) (fa0_11 : Nat → Int32) (ka1_5 : ClassId) (fa1_5 : Nat → Int32) (a2_0 : Int32) (a2_1 : Int32) (a2_2 : Nat) (a2_3 : Nat) (ka2_3 : ClassId) (fa2_3 : Nat → Int32) (ka2_2 : ClassId) (fa2_2 : Nat → Int32) (ka1_6 : ClassId) (fa1_6 : Nat → Int32) (ba0_0_l : (0 : Int) ≤ a0_0.toInt) (ba0_0_u : a0_0.toInt ≤ (9 : Int)) (ba0_5_l : (0 : Int) ≤ a0_5.toInt) (ba0_5_u : a0_5.toInt ≤ (8 : Int)) (ba0_6_l : (0 : Int) ≤ a0_6.toInt) (ba0_6_u : a0_6.toInt ≤ (8 : Int)) (ba1_1_l : (0 : Int) ≤ a1_1.toInt) (ba1_1_u : a1_1.toInt ≤ (8 : Int)) (ba2_0_l : (0 : Int) ≤ a2_0.toInt) (ba2_0_u : a2_0.toInt ≤ (3 : Int)) (bfa2_3 : (∀ k, (0 : Int) ≤ (fa2_3 k).toInt ∧ (fa2_3 k).toInt ≤ 80)) (bfa2_2 : (∀ k, (0 : Int) ≤ (fa2_2 k).toInt ∧ (fa2_2 k).toInt ≤ 80)) : zm l yX0_pass wsX0_pass ({ frames := 3, cells := 0, slots := 0, locals := 73 }) [.ref a0, .ref a1, .ref a2] dC dI sz [(a0, .inr (0, [.int a0_0, .int a0_1, .int a0_2, a0g_3, a0g_4, .int a0_5, .int a0_6, a0g_7, a0g_8, a0g_9, .ref a0_10, .ref a0_11, a0g_12, a0g_13, a0g_14])), (a1, .inr (5, [.int a1_0, .int a1_1, .int a1_2, .int a1_3, .int a1_4, .ref a1_5, .ref a1_6])), (a0_10, .inl (ka0_10, 9, .inl (fa0_10))), (a0_11, .inl (ka0_11, 9, .inl (fa0_11))), (a1_5, .inl (ka1_5, 9, .inl (fa1_5))), (a2, .inr (6, [.int a2_0, .int a2_1, .ref a2_2, .ref a2_3])), (a2_3, .inl (ka2_3, 3, .inl (fa2_3))), (a2_2, .inl (ka2_2, 3, .inl (fa2_2))), (a1_6, .inl (ka1_6, 9, .inl (fa1_6)))] [(ka0_10, .int), (ka0_11, .int), (ka1_5, .int), (ka2_3, .int), (ka2_2, .int), (ka1_6, .int)] (fun A U => va_Nw (.methodLinkNest RX0 118 yX7_within RX7) U ∧ va_Nw (.methodLinkNest RX5 38 yX7_hasBit RX7) U ∧ va_Nw (.methodLinkNest RX0 129 yX7_hasBit RX7) U) (fun A => va_Qv (fun (_ : Unit) => True) (fun (_ : Unit) (t : State) => ∃ na1_0 : Int32, ∃ na1_1 : Int32, ∃ na1_2 : Int32, ∃ na1_3 : Int32, ∃ na1_4 : Int32, ∃ nfa1_5 : Nat → Int32, ∃ nfa1_6 : Nat → Int32, ((0 : Int) ≤ na1_1.toInt ∧ na1_1.toInt ≤ 8) ∧ ax_B dC dI A [(a0, .inr (0, [.int a0_0, .int a0_1, .int a0_2, a0g_3, a0g_4, .int a0_5, .int a0_6, a0g_7, a0g_8, a0g_9, .ref a0_10, .ref a0_11, a0g_12, a0g_13, a0g_14])), (a1, .inr (5, [.int na1_0, .int na1_1, .int na1_2, .int na1_3, .int na1_4, .ref a1_5, .ref a1_6])), (a0_10, .inl (ka0_10, 9, .inl (fa0_10))), (a0_11, .inl (ka0_11, 9, .inl (fa0_11))), (a1_5, .inl (ka1_5, 9, .inl (nfa1_5))), (a2, .inr (6, [.int a2_0, .int a2_1, .ref a2_2, .ref a2_3])), (a2_3, .inl (ka2_3, 3, .inl (fa2_3))), (a2_2, .inl (ka2_2, 3, .inl (fa2_2))), (a1_6, .inl (ka1_6, 9, .inl (nfa1_6)))] [(ka0_10, .int), (ka0_11, .int), (ka1_5, .int), (ka2_3, .int), (ka2_2, .int), (ka1_6, .int)] t) A) := by
  refine zh (cc := cX0_pass) (maxL := 6) (ret := none) zn_RX0 rfl (Nat.le_of_ble_eq_true rfl) (fun p e s m below meth c A ls hx hb hml hr hts (hown : s.vm.findClass RX0 = some m.cls) hlocks hA hS hP hK hD hE (hl : lv_has ls 6 [(0, .ref a0), (1, .ref a1), (2, .ref a2)]) => ?_)
  obtain ⟨hE0, hE1, hE2⟩ := hE
  refine lv_aload_n hx hb dX0_pass_0 rfl (lv_at hl 1 rfl) ?_
  refine va_get (D := (dC, dI)) (ci := 5) (v := .int a1_1) (C := RX5) (T := TX5) (N := 7) hx hb hts zi_X0_pass_5 hown hK hP 1 rfl rfl 1 (by decide) (hts (.fieldLink RX0 79 "WaxTurns$Scene" "turn" "I") (zm_X0_pass_r1 (List.mem_of_getElem? (i := 0) rfl))) (fun _ h9 => h9) rfl dX0_pass_1 ?_
  refine lv_istore_n (lv' := [(3, .int a1_1), (0, .ref a0), (1, .ref a1), (2, .ref a2)]) hx hb dX0_pass_4 rfl hl (by decide) rfl (fun ls hl => ?_)
  refine lv_aload_n hx hb dX0_pass_5 rfl (lv_at hl 2 rfl) ?_
  refine va_get (D := (dC, dI)) (ci := 5) (v := .int a1_2) (C := RX5) (T := TX5) (N := 7) hx hb hts zi_X0_pass_5 hown hK hP 1 rfl rfl 2 (by decide) (hts (.fieldLink RX0 84 "WaxTurns$Scene" "spent" "I") (zm_X0_pass_r1 (List.mem_of_getElem? (i := 1) rfl))) (fun _ h9 => h9) rfl dX0_pass_6 ?_
  refine lv_iconst (v := 1) hx hb dX0_pass_9 zk_iconst_1 ?_
  refine lv_iadd hx hb dX0_pass_10 ?_
  refine lv_topi (fun x10 ex10 => ?_)
  refine lv_istore (lv' := [(4, .int x10), (3, .int a1_1), (0, .ref a0), (1, .ref a1), (2, .ref a2)]) hx hb dX0_pass_11 hl (by decide) rfl (fun ls hl => ?_)
  refine lv_aload_n hx hb dX0_pass_13 rfl (lv_at hl 2 rfl) ?_
  refine lv_iload_n hx hb dX0_pass_14 rfl (lv_at hl 1 rfl) ?_
  refine lv_iload hx hb dX0_pass_15 (lv_at hl 0 rfl) ?_
  refine zc_cutc (wc := [(a0, .inr (0, [.int a0_0, .int a0_1, .int a0_2, a0g_3, a0g_4, .int a0_5, .int a0_6, a0g_7, a0g_8, a0g_9, .ref a0_10, .ref a0_11, a0g_12, a0g_13, a0g_14])), (a0_10, .inl (ka0_10, 9, .inl (fa0_10))), (a0_11, .inl (ka0_11, 9, .inl (fa0_11)))]) hP hD hS hA [0, 2, 3] (by decide +kernel) rfl (fun hPc hDc hFc hCc => ?_)
  have hKc := hK.sub (tys' := [(ka0_10, .int), (ka0_11, .int)]) [0, 1] rfl
  refine va_calli (va_runV (As := [.int a1_1, .int x10]) (rest := []) ⟨hx, hb, hml, hown, hts⟩ (c_X0_stepsIn l dC dI s.heap.size a0 a1_1 x10 (.int a0_0) (.int a0_1) (.int a0_2) a0g_3 a0g_4 (.int a0_5) (.int a0_6) a0g_7 a0g_8 a0g_9 a0g_12 a0g_13 a0g_14 a0_10 a0_11 ka0_10 fa0_10 ka0_11 fa0_11 ) (cwV 2 hts gX0_pass_X0_stepsIn rfl rfl rfl zd_X0_stepsIn ⟨Nat.le_of_ble_eq_true rfl, Nat.le_of_ble_eq_true rfl⟩) ⟨ax_blind (fun _ _ _ _ hq => va_Nw.same rfl rfl (hq)), zr_0 hKc hPc (q0 := 0) rfl, ax_pre hPc hKc hDc (fun _ hW => va_Nw.warmM hW hE0)⟩ rfl rfl hl.1 rfl (lv_room (Nat.le_of_ble_eq_true rfl)) dX0_pass_17 ⟨Nat.le_of_ble_eq_true rfl, Nat.le_of_ble_eq_true rfl⟩) hS (fun q _ h => hFc q h) hFc (fun r17 u t H locs ht hvm hw hB hz1 hk1 hS1 => zo hB ht hS1 (fun hP1 hK1 hD1 hS => ?_))
  refine zc_backc (w := [(a0, .inr (0, [.int a0_0, .int a0_1, .int a0_2, a0g_3, a0g_4, .int a0_5, .int a0_6, a0g_7, a0g_8, a0g_9, .ref a0_10, .ref a0_11, a0g_12, a0g_13, a0g_14])), (a1, .inr (5, [.int a1_0, .int a1_1, .int a1_2, .int a1_3, .int a1_4, .ref a1_5, .ref a1_6])), (a0_10, .inl (ka0_10, 9, .inl (fa0_10))), (a0_11, .inl (ka0_11, 9, .inl (fa0_11))), (a1_5, .inl (ka1_5, 9, .inl (fa1_5))), (a2, .inr (6, [.int a2_0, .int a2_1, .ref a2_2, .ref a2_3])), (a2_3, .inl (ka2_3, 3, .inl (fa2_3))), (a2_2, .inl (ka2_2, 3, .inl (fa2_2))), (a1_6, .inl (ka1_6, 9, .inl (fa1_6)))]) hP hD hCc hk1 hFc hP1 hD1 [.inr 0, .inl 1, .inr 1, .inr 2, .inl 4, .inl 5, .inl 6, .inl 7, .inl 8] (by decide +kernel) rfl (fun hP hD => ?_)
  rcases hw with hw | hw
  · obtain ⟨hw, h17_0, h17_1⟩ := hw
    subst hw
    have l17k0_a1_1 : (0 : Int) ≤ a1_1.toInt := ba1_1_l
    have u17k0_a1_1 : a1_1.toInt ≤ (8 : Int) := ba1_1_u
    refine lv_if_eq (tgt := 30) hx hb dX0_pass_20 (by decide) (fun c20 => absurd c20 (by decide +kernel)) (fun _ => ?_)
    refine lv_aload_n hx hb dX0_pass_23 rfl (lv_at hl 2 rfl) ?_
    refine lv_aload_n hx hb dX0_pass_24 rfl (lv_at hl 3 rfl) ?_
    refine lv_iload_n hx hb dX0_pass_25 rfl (lv_at hl 1 rfl) ?_
    refine lv_aload_n hx hb dX0_pass_26 rfl (lv_at hl 4 rfl) ?_
    refine zc_cutc (wc := [(a0, .inr (0, [.int a0_0, .int a0_1, .int a0_2, a0g_3, a0g_4, .int a0_5, .int a0_6, a0g_7, a0g_8, a0g_9, .ref a0_10, .ref a0_11, a0g_12, a0g_13, a0g_14])), (a1, .inr (5, [.int a1_0, .int a1_1, .int a1_2, .int a1_3, .int a1_4, .ref a1_5, .ref a1_6])), (a1_5, .inl (ka1_5, 9, .inl (fa1_5))), (a2, .inr (6, [.int a2_0, .int a2_1, .ref a2_2, .ref a2_3])), (a2_3, .inl (ka2_3, 3, .inl (fa2_3))), (a2_2, .inl (ka2_2, 3, .inl (fa2_2)))]) hP hD hS hA [0, 1, 4, 5, 6, 7] (by decide +kernel) rfl (fun hPc hDc hFc hCc => ?_)
    have hKc := hK.sub (tys' := [(ka1_5, .int), (ka2_3, .int), (ka2_2, .int)]) [2, 3, 4] rfl
    refine va_callv (va_runV (As := [.ref a1, .int a1_1, .ref a2]) (rest := []) ⟨hx, hb, hml, hown, hts⟩ (c_X0_step l dC dI H.size a0 a1 a1_1 a2 (.int a0_0) (.int a0_1) a0g_3 a0g_4 (.int a0_5) (.int a0_6) a0g_7 a0g_8 a0g_9 (.ref a0_10) (.ref a0_11) a0g_12 a0g_13 a0g_14 a0_2 a1_0 (.int a1_1) (.int a1_2) (.ref a1_6) a1_3 a1_4 a1_5 ka1_5 fa1_5 a2_0 a2_1 a2_2 a2_3 ka2_3 fa2_3 ka2_2 fa2_2 l17k0_a1_1 u17k0_a1_1 ba2_0_l ba2_0_u bfa2_3 bfa2_2) (cwV 3 hts gX0_pass_X0_step rfl rfl rfl zd_X0_step ⟨Nat.le_of_ble_eq_true rfl, Nat.le_of_ble_eq_true rfl⟩) ⟨ax_blind (fun _ _ _ _ hq => ⟨va_Nw.same rfl rfl (hq.1), va_Nw.same rfl rfl (hq.2)⟩), zr_0 hKc hPc (q0 := 0) rfl, ax_pre hPc hKc hDc (fun _ hW => ⟨va_Nw.warmM hW hE1, va_Nw.warmM hW hE2⟩)⟩ rfl rfl hl.1 rfl (lv_room (Nat.le_of_ble_eq_true rfl)) dX0_pass_27 ⟨Nat.le_of_ble_eq_true rfl, Nat.le_of_ble_eq_true rfl⟩) hS (fun q _ h => hFc q h) hFc (fun u t H locs ht hvm hw => zx_3 (fun v27na1_3 v27na1_4 v27nfa1_5 hB hz1 hk1 hS1 => zo hB ht hS1 (fun hP1 hK1 hD1 hS => ?_)))
    refine zc_backc (w := [(a0, .inr (0, [.int a0_0, .int a0_1, .int a0_2, a0g_3, a0g_4, .int a0_5, .int a0_6, a0g_7, a0g_8, a0g_9, .ref a0_10, .ref a0_11, a0g_12, a0g_13, a0g_14])), (a1, .inr (5, [.int a1_0, .int a1_1, .int a1_2, .int v27na1_3, .int v27na1_4, .ref a1_5, .ref a1_6])), (a0_10, .inl (ka0_10, 9, .inl (fa0_10))), (a0_11, .inl (ka0_11, 9, .inl (fa0_11))), (a1_5, .inl (ka1_5, 9, .inl (v27nfa1_5))), (a2, .inr (6, [.int a2_0, .int a2_1, .ref a2_2, .ref a2_3])), (a2_3, .inl (ka2_3, 3, .inl (fa2_3))), (a2_2, .inl (ka2_2, 3, .inl (fa2_2))), (a1_6, .inl (ka1_6, 9, .inl (fa1_6)))]) hP hD hCc hk1 hFc hP1 hD1 [.inr 0, .inr 1, .inl 2, .inl 3, .inr 2, .inr 3, .inr 4, .inr 5, .inl 8] (by decide +kernel) rfl (fun hP hD => ?_)
    refine lv_aload_n hx hb dX0_pass_30 rfl (lv_at hl 2 rfl) ?_
    refine lv_iload_n hx hb dX0_pass_31 rfl (lv_at hl 1 rfl) ?_
    refine lv_iload hx hb dX0_pass_32 (lv_at hl 0 rfl) ?_
    refine zc_cutc (wc := [(a0, .inr (0, [.int a0_0, .int a0_1, .int a0_2, a0g_3, a0g_4, .int a0_5, .int a0_6, a0g_7, a0g_8, a0g_9, .ref a0_10, .ref a0_11, a0g_12, a0g_13, a0g_14])), (a0_10, .inl (ka0_10, 9, .inl (fa0_10))), (a0_11, .inl (ka0_11, 9, .inl (fa0_11)))]) hP hD hS hA [0, 2, 3] (by decide +kernel) rfl (fun hPc hDc hFc hCc => ?_)
    have hKc := hK.sub (tys' := [(ka0_10, .int), (ka0_11, .int)]) [0, 1] rfl
    refine va_calli (va_runV (As := [.int a1_1, .int x10]) (rest := []) ⟨hx, hb, hml, hown, hts⟩ (c_X0_partSaid l dC dI H.size a0 a1_1 x10 (.int a0_0) (.int a0_1) (.int a0_2) a0g_3 a0g_4 (.int a0_5) (.int a0_6) a0g_7 a0g_8 a0g_9 a0g_12 a0g_13 a0g_14 a0_10 a0_11 ka0_10 fa0_10 ka0_11 fa0_11 ) (cwV 2 hts gX0_pass_X0_partSaid rfl rfl rfl zd_X0_partSaid ⟨Nat.le_of_ble_eq_true rfl, Nat.le_of_ble_eq_true rfl⟩) ⟨ax_blind (fun _ _ _ _ hq => va_Nw.same rfl rfl (hq)), zr_0 hKc hPc (q0 := 0) rfl, ax_pre hPc hKc hDc (fun _ hW => va_Nw.warmM hW hE0)⟩ rfl rfl hl.1 rfl (lv_room (Nat.le_of_ble_eq_true rfl)) dX0_pass_34 ⟨Nat.le_of_ble_eq_true rfl, Nat.le_of_ble_eq_true rfl⟩) hS (fun q _ h => hFc q h) hFc (fun r34 u t H locs ht hvm hw hB hz1 hk1 hS1 => zo hB ht hS1 (fun hP1 hK1 hD1 hS => ?_))
    refine zc_backc (w := [(a0, .inr (0, [.int a0_0, .int a0_1, .int a0_2, a0g_3, a0g_4, .int a0_5, .int a0_6, a0g_7, a0g_8, a0g_9, .ref a0_10, .ref a0_11, a0g_12, a0g_13, a0g_14])), (a1, .inr (5, [.int a1_0, .int a1_1, .int a1_2, .int v27na1_3, .int v27na1_4, .ref a1_5, .ref a1_6])), (a0_10, .inl (ka0_10, 9, .inl (fa0_10))), (a0_11, .inl (ka0_11, 9, .inl (fa0_11))), (a1_5, .inl (ka1_5, 9, .inl (v27nfa1_5))), (a2, .inr (6, [.int a2_0, .int a2_1, .ref a2_2, .ref a2_3])), (a2_3, .inl (ka2_3, 3, .inl (fa2_3))), (a2_2, .inl (ka2_2, 3, .inl (fa2_2))), (a1_6, .inl (ka1_6, 9, .inl (fa1_6)))]) hP hD hCc hk1 hFc hP1 hD1 [.inr 0, .inl 1, .inr 1, .inr 2, .inl 4, .inl 5, .inl 6, .inl 7, .inl 8] (by decide +kernel) rfl (fun hP hD => ?_)
    refine lv_istore (lv' := [(5, .int r34), (4, .int x10), (3, .int a1_1), (0, .ref a0), (1, .ref a1), (2, .ref a2)]) hx hb dX0_pass_37 hl (by decide) rfl (fun ls hl => ?_)
    refine lv_iload hx hb dX0_pass_39 (lv_at hl 0 rfl) ?_
    refine lv_if_eq (tgt := 75) hx hb dX0_pass_41 (by decide) (fun c41 => ?_) (fun c41 => ?_)
    · have gc41 := ai_eq c41
      have u41t_r34 : r34.toInt ≤ (0 : Int) := Int.le_trans (Int.le_of_eq gc41) zq6
      have l41t_r34 : (0 : Int) ≤ r34.toInt := Int.le_trans zq5 (Int.le_of_eq gc41.symm)
      refine lv_aload_n hx hb dX0_pass_75 rfl (lv_at hl 4 rfl) ?_
      refine lv_dup hx hb dX0_pass_76 rfl ?_
      refine va_get (D := (dC, dI)) (ci := 5) (v := .int a1_0) (C := RX5) (T := TX5) (N := 7) hx hb hts zi_X0_pass_5 hown hK hP 1 rfl rfl 0 (by decide) (hts (.fieldLink RX0 102 "WaxTurns$Scene" "minute" "I") (zm_X0_pass_r1 (List.mem_of_getElem? (i := 3) rfl))) (fun _ h9 => h9) rfl dX0_pass_77 ?_
      refine lv_iconst (v := 1) hx hb dX0_pass_80 zk_iconst_1 ?_
      refine lv_iadd hx hb dX0_pass_81 ?_
      refine lv_topi (fun x81 ex81 => ?_)
      refine va_put (D := (dC, dI)) (ci := 5) (v := .int x81) (ty := .int) (C := RX5) (T := TX5) (N := 7) hx hb hts zi_X0_pass_5 tyX5 tyX5_ok nmX5 hown hK hP hD hS 1 rfl rfl 0 (by decide) (hts (.fieldLink RX0 102 "WaxTurns$Scene" "minute" "I") (zm_X0_pass_r1 (List.mem_of_getElem? (i := 3) rfl))) (fun _ h9 => h9) rfl (tyX5_ok 0 (by decide)) rfl rfl (Nat.le_of_ble_eq_true rfl) dX0_pass_82 (fun H locs hP hD hS => ?_)
      refine zs_1 (y := (a1, .inr (5, [.int x81, .int a1_1, .int a1_2, .int v27na1_3, .int v27na1_4, .ref a1_5, .ref a1_6]))) hP hD rfl (fun hP hD => ?_)
      refine lv_aload_n hx hb dX0_pass_85 rfl (lv_at hl 4 rfl) ?_
      refine lv_iload hx hb dX0_pass_86 (lv_at hl 1 rfl) ?_
      refine va_put (D := (dC, dI)) (ci := 5) (v := .int x10) (ty := .int) (C := RX5) (T := TX5) (N := 7) hx hb hts zi_X0_pass_5 tyX5 tyX5_ok nmX5 hown hK hP hD hS 1 rfl rfl 2 (by decide) (hts (.fieldLink RX0 84 "WaxTurns$Scene" "spent" "I") (zm_X0_pass_r1 (List.mem_of_getElem? (i := 1) rfl))) (fun _ h9 => h9) rfl (tyX5_ok 2 (by decide)) rfl rfl (Nat.le_of_ble_eq_true rfl) dX0_pass_88 (fun H locs hP hD hS => ?_)
      refine zs_1 (y := (a1, .inr (5, [.int x81, .int a1_1, .int x10, .int v27na1_3, .int v27na1_4, .ref a1_5, .ref a1_6]))) hP hD rfl (fun hP hD => ?_)
      refine lv_iload hx hb dX0_pass_91 (lv_at hl 1 rfl) ?_
      refine lv_aload_n hx hb dX0_pass_93 rfl (lv_at hl 3 rfl) ?_
      refine va_get (D := (dC, dI)) (ci := 0) (v := .int a0_1) (C := RX0) (T := TX0) (N := 15) hx hb hts zi_X0_pass_0 hown hK hP 0 rfl rfl 1 (by decide) (hts (.fieldLink RX0 48 "WaxTurns$Hall" "span" "I") (zm_X0_pass_r1 (List.mem_of_getElem? (i := 5) rfl))) (fun _ h9 => h9) rfl dX0_pass_94 ?_
      refine lv_icmp_lt (tgt := 109) hx hb dX0_pass_97 (by decide) (fun c97 => ?_) (fun c97 => ?_)
      · have gc97 := ai_lt c97
        have u97t_x10 : x10.toInt ≤ (2147483646 : Int) := ai_lthi gc97 (ai_max a0_1)
        have l97t_a0_1 : (-2147483647 : Int) ≤ a0_1.toInt := ai_ltlo gc97 (ai_min x10)
        exact W.vret hx hb hr (fun t ht hW => ⟨⟨(), rfl, trivial, x81, a1_1, x10, v27na1_3, v27na1_4, v27nfa1_5, fa1_6, ⟨l17k0_a1_1, u17k0_a1_1⟩, by rw [ht]; exact hP, va_K.moved hW.alike hK, hD⟩, hS.F ht⟩) hS.2.2 dX0_pass_109
      · have gc97 := ai_nlt c97
        refine lv_aload_n hx hb dX0_pass_100 rfl (lv_at hl 4 rfl) ?_
        refine lv_aload_n hx hb dX0_pass_101 rfl (lv_at hl 3 rfl) ?_
        refine lv_iload_n hx hb dX0_pass_102 rfl (lv_at hl 2 rfl) ?_
        refine va_calli (va_runV (As := [.int a1_1]) (rest := [.ref a1]) ⟨hx, hb, hml, hown, hts⟩ (c_X0_next l dC dI H.size a0 a1_1 a0_0 (.int a0_1) (.int a0_2) a0g_3 a0g_4 a0g_7 a0g_8 a0g_9 (.ref a0_10) (.ref a0_11) a0g_12 a0g_13 a0g_14 a0_5 a0_6 l17k0_a1_1 u17k0_a1_1 ba0_0_l ba0_0_u ba0_5_l ba0_5_u ba0_6_l ba0_6_u) (cwV 1 hts gX0_pass_X0_next rfl rfl rfl zd_X0_next ⟨Nat.le_of_ble_eq_true rfl, Nat.le_of_ble_eq_true rfl⟩) ⟨ax_blind (fun _ _ _ _ _ => trivial), zr_0 (zp_K hK) (zp_P1 hP) (q0 := 0) rfl, ax_pre (zp_P1 hP) (zp_K hK) (zp_D1 hD) (fun _ _ => trivial)⟩ rfl rfl hl.1 rfl (lv_room (Nat.le_of_ble_eq_true rfl)) dX0_pass_103 ⟨Nat.le_of_ble_eq_true rfl, Nat.le_of_ble_eq_true rfl⟩) hS (fun q _ h => zp_F1 hD hS hA q h) (zp_F1 hD hS hA) (fun r103 u t H locs ht hvm hw hB hz1 hk1 hS1 => zo1 hB ht hP hD hk1 (zp_F1 hD hS hA) hS1 (fun hP hK1 hD hS => ?_))
        have hw : (0 : Int) ≤ r103.toInt ∧ r103.toInt ≤ (8 : Int) := hw
        obtain ⟨h103_0, h103_1⟩ := hw
        refine zc_cutc (wc := [(a1, .inr (5, [.int x81, .int a1_1, .int x10, .int v27na1_3, .int v27na1_4, .ref a1_5, .ref a1_6]))]) hP hD hS hA [1] (by decide +kernel) rfl (fun hPc hDc hFc hCc => ?_)
        have hKc := zp_K hK
        refine va_callv (va_runV (As := [.int r103]) (rest := []) ⟨hx, hb, hml, hown, hts⟩ (c_X5_startTurn l dC dI H.size a1 r103 (.int x81) (.int v27na1_3) (.int v27na1_4) (.ref a1_5) (.ref a1_6) a1_1 x10 h103_0 h103_1 l17k0_a1_1 u17k0_a1_1) (cwV 1 hts gX0_pass_X5_startTurn rfl rfl rfl zd_X5_startTurn ⟨Nat.le_of_ble_eq_true rfl, Nat.le_of_ble_eq_true rfl⟩) ⟨ax_blind (fun _ _ _ _ _ => trivial), zr_5 hKc hPc (q0 := 0) rfl, ax_pre hPc hKc hDc (fun _ _ => trivial)⟩ rfl rfl hl.1 rfl (lv_room (Nat.le_of_ble_eq_true rfl)) dX0_pass_106 ⟨Nat.le_of_ble_eq_true rfl, Nat.le_of_ble_eq_true rfl⟩) hS (fun q _ h => hFc q h) hFc (fun u t H locs ht hvm hw => zx_2 (fun v106na0_1 v106na0_2 => zy_1 (fun bv106na0_1 hB hz1 hk1 hS1 => zo hB ht hS1 (fun hP1 hK1 hD1 hS => ?_))))
        refine zc_backc (w := [(a0, .inr (0, [.int a0_0, .int a0_1, .int a0_2, a0g_3, a0g_4, .int a0_5, .int a0_6, a0g_7, a0g_8, a0g_9, .ref a0_10, .ref a0_11, a0g_12, a0g_13, a0g_14])), (a1, .inr (5, [.int x81, .int v106na0_1, .int v106na0_2, .int v27na1_3, .int v27na1_4, .ref a1_5, .ref a1_6])), (a0_10, .inl (ka0_10, 9, .inl (fa0_10))), (a0_11, .inl (ka0_11, 9, .inl (fa0_11))), (a1_5, .inl (ka1_5, 9, .inl (v27nfa1_5))), (a2, .inr (6, [.int a2_0, .int a2_1, .ref a2_2, .ref a2_3])), (a2_3, .inl (ka2_3, 3, .inl (fa2_3))), (a2_2, .inl (ka2_2, 3, .inl (fa2_2))), (a1_6, .inl (ka1_6, 9, .inl (fa1_6)))]) hP hD hCc hk1 hFc hP1 hD1 [.inl 0, .inr 0, .inl 2, .inl 3, .inl 4, .inl 5, .inl 6, .inl 7, .inl 8] (by decide +kernel) rfl (fun hP hD => ?_)
        exact W.vret hx hb hr (fun t ht hW => ⟨⟨(), rfl, trivial, x81, v106na0_1, v106na0_2, v27na1_3, v27na1_4, v27nfa1_5, fa1_6, ⟨bv106na0_1.1, bv106na0_1.2⟩, by rw [ht]; exact hP, va_K.moved hW.alike hK, hD⟩, hS.F ht⟩) hS.2.2 dX0_pass_109
    · have gc41 := ai_ne c41
      refine lv_aload_n hx hb dX0_pass_44 rfl (lv_at hl 4 rfl) ?_
      refine va_get (D := (dC, dI)) (ci := 5) (v := .ref a1_5) (C := RX5) (T := TX5) (N := 7) hx hb hts zi_X0_pass_5 hown hK hP 1 rfl rfl 5 (by decide) (hts (.fieldLink RX0 99 "WaxTurns$Scene" "places" "[I") (zm_X0_pass_r1 (List.mem_of_getElem? (i := 2) rfl))) (fun _ h9 => h9) rfl dX0_pass_45 ?_
      refine lv_iload_n hx hb dX0_pass_48 rfl (lv_at hl 2 rfl) ?_
      refine va_iald hx hb hK hP 4 2 rfl rfl (ai_in l17k0_a1_1 u17k0_a1_1 (by decide) (by decide)) dX0_pass_49 ?_
      refine lv_topi (fun x49 ex49 => ?_)
      refine lv_aload_n hx hb dX0_pass_50 rfl (lv_at hl 5 rfl) ?_
      refine lv_aload_n hx hb dX0_pass_51 rfl (lv_at hl 4 rfl) ?_
      refine va_get (D := (dC, dI)) (ci := 5) (v := .int a1_0) (C := RX5) (T := TX5) (N := 7) hx hb hts zi_X0_pass_5 hown hK hP 1 rfl rfl 0 (by decide) (hts (.fieldLink RX0 102 "WaxTurns$Scene" "minute" "I") (zm_X0_pass_r1 (List.mem_of_getElem? (i := 3) rfl))) (fun _ h9 => h9) rfl dX0_pass_52 ?_
      refine zc_cutc (wc := [(a2, .inr (6, [.int a2_0, .int a2_1, .ref a2_2, .ref a2_3])), (a2_3, .inl (ka2_3, 3, .inl (fa2_3))), (a2_2, .inl (ka2_2, 3, .inl (fa2_2)))]) hP hD hS hA [5, 6, 7] (by decide +kernel) rfl (fun hPc hDc hFc hCc => ?_)
      have hKc := hK.sub (tys' := [(ka2_3, .int), (ka2_2, .int)]) [3, 4] rfl
      refine va_calli (va_runV (As := [.int a1_0]) (rest := [.int x49]) ⟨hx, hb, hml, hown, hts⟩ (c_X6_placesIn l dC dI H.size a2 a1_0 a2_0 a2_1 a2_2 a2_3 ka2_3 fa2_3 ka2_2 fa2_2 ba2_0_l ba2_0_u bfa2_3 bfa2_2) (cwV 1 hts gX0_pass_X6_placesIn rfl rfl rfl zd_X6_placesIn ⟨Nat.le_of_ble_eq_true rfl, Nat.le_of_ble_eq_true rfl⟩) ⟨ax_blind (fun _ _ _ _ _ => trivial), zr_6 hKc hPc (q0 := 0) rfl, ax_pre hPc hKc hDc (fun _ _ => trivial)⟩ rfl rfl hl.1 rfl (lv_room (Nat.le_of_ble_eq_true rfl)) dX0_pass_55 ⟨Nat.le_of_ble_eq_true rfl, Nat.le_of_ble_eq_true rfl⟩) hS (fun q _ h => hFc q h) hFc (fun r55 u t H locs ht hvm hw hB hz1 hk1 hS1 => zo hB ht hS1 (fun hP1 hK1 hD1 hS => ?_))
      refine zc_backc (w := [(a0, .inr (0, [.int a0_0, .int a0_1, .int a0_2, a0g_3, a0g_4, .int a0_5, .int a0_6, a0g_7, a0g_8, a0g_9, .ref a0_10, .ref a0_11, a0g_12, a0g_13, a0g_14])), (a1, .inr (5, [.int a1_0, .int a1_1, .int a1_2, .int v27na1_3, .int v27na1_4, .ref a1_5, .ref a1_6])), (a0_10, .inl (ka0_10, 9, .inl (fa0_10))), (a0_11, .inl (ka0_11, 9, .inl (fa0_11))), (a1_5, .inl (ka1_5, 9, .inl (v27nfa1_5))), (a2, .inr (6, [.int a2_0, .int a2_1, .ref a2_2, .ref a2_3])), (a2_3, .inl (ka2_3, 3, .inl (fa2_3))), (a2_2, .inl (ka2_2, 3, .inl (fa2_2))), (a1_6, .inl (ka1_6, 9, .inl (fa1_6)))]) hP hD hCc hk1 hFc hP1 hD1 [.inl 0, .inl 1, .inl 2, .inl 3, .inl 4, .inr 0, .inr 1, .inr 2, .inl 8] (by decide +kernel) rfl (fun hP hD => ?_)
      refine va_calli (va_runS (As := [.int x49, .int r55]) (rest := []) ⟨hx, hb, hml, hown, hts⟩ (c_X0_isHeardAt l dC dI H.size x49 r55 ) (va_cwS 2 hts gX0_pass_X0_isHeardAt rfl rfl rfl zd_X0_isHeardAt.2 ⟨Nat.le_of_ble_eq_true rfl, Nat.le_of_ble_eq_true rfl⟩) ⟨ax_blind (fun _ _ _ _ _ => trivial), ax_pre (zp_P0 hP) (zp_K hK) (zp_D0 hD) (fun _ _ => trivial)⟩ rfl rfl hl.1 rfl (lv_room (Nat.le_of_ble_eq_true rfl)) dX0_pass_58 ⟨Nat.le_of_ble_eq_true rfl, Nat.le_of_ble_eq_true rfl⟩) hS (fun q _ h => zp_F0 hD hS hA q h) (zp_F0 hD hS hA) (fun r58 u t H locs ht hvm hw hB hz1 hk1 hS1 => zo0 hB ht hP hD hk1 (zp_F0 hD hS hA) hS1 (fun hP hK1 hD hS => ?_))
      rcases hw with hw | hw
      · subst hw
        refine lv_if_eq (tgt := 75) hx hb dX0_pass_61 (by decide) (fun c61 => absurd c61 (by decide +kernel)) (fun _ => ?_)
        refine lv_aload_n hx hb dX0_pass_64 rfl (lv_at hl 4 rfl) ?_
        refine va_get (D := (dC, dI)) (ci := 5) (v := .ref a1_6) (C := RX5) (T := TX5) (N := 7) hx hb hts zi_X0_pass_5 hown hK hP 1 rfl rfl 6 (by decide) (hts (.fieldLink RX0 111 "WaxTurns$Scene" "heardBits" "[I") (zm_X0_pass_r1 (List.mem_of_getElem? (i := 4) rfl))) (fun _ h9 => h9) rfl dX0_pass_65 ?_
        refine lv_iload_n hx hb dX0_pass_68 rfl (lv_at hl 2 rfl) ?_
        refine lv_dup2_11 hx hb dX0_pass_69 rfl rfl ?_
        refine va_iald hx hb hK hP 8 5 rfl rfl (ai_in l17k0_a1_1 u17k0_a1_1 (by decide) (by decide)) dX0_pass_70 ?_
        refine lv_topi (fun x70 ex70 => ?_)
        refine lv_iload hx hb dX0_pass_71 (lv_at hl 0 rfl) ?_
        refine lv_ior hx hb dX0_pass_73 ?_
        refine lv_topi (fun x73 ex73 => ?_)
        refine va_iast hx hb hK hP hD hS 8 5 rfl rfl (ai_in l17k0_a1_1 u17k0_a1_1 (by decide) (by decide)) dX0_pass_74 (fun H locs hP hD hS => ?_)
        obtain ⟨f74, hP, hD⟩ : ∃ f74 : Nat → Int32, va_P (dC, dI) vwCl [(a0, .inr (0, [.int a0_0, .int a0_1, .int a0_2, a0g_3, a0g_4, .int a0_5, .int a0_6, a0g_7, a0g_8, a0g_9, .ref a0_10, .ref a0_11, a0g_12, a0g_13, a0g_14])), (a1, .inr (5, [.int a1_0, .int a1_1, .int a1_2, .int v27na1_3, .int v27na1_4, .ref a1_5, .ref a1_6])), (a0_10, .inl (ka0_10, 9, .inl (fa0_10))), (a0_11, .inl (ka0_11, 9, .inl (fa0_11))), (a1_5, .inl (ka1_5, 9, .inl (v27nfa1_5))), (a2, .inr (6, [.int a2_0, .int a2_1, .ref a2_2, .ref a2_3])), (a2_3, .inl (ka2_3, 3, .inl (fa2_3))), (a2_2, .inl (ka2_2, 3, .inl (fa2_2))), (a1_6, .inl (ka1_6, 9, .inl (f74)))] H ∧ va_D A [(a0, .inr (0, [.int a0_0, .int a0_1, .int a0_2, a0g_3, a0g_4, .int a0_5, .int a0_6, a0g_7, a0g_8, a0g_9, .ref a0_10, .ref a0_11, a0g_12, a0g_13, a0g_14])), (a1, .inr (5, [.int a1_0, .int a1_1, .int a1_2, .int v27na1_3, .int v27na1_4, .ref a1_5, .ref a1_6])), (a0_10, .inl (ka0_10, 9, .inl (fa0_10))), (a0_11, .inl (ka0_11, 9, .inl (fa0_11))), (a1_5, .inl (ka1_5, 9, .inl (v27nfa1_5))), (a2, .inr (6, [.int a2_0, .int a2_1, .ref a2_2, .ref a2_3])), (a2_3, .inl (ka2_3, 3, .inl (fa2_3))), (a2_2, .inl (ka2_2, 3, .inl (fa2_2))), (a1_6, .inl (ka1_6, 9, .inl (f74)))] := ⟨_, hP, hD⟩
        refine lv_aload_n hx hb dX0_pass_75 rfl (lv_at hl 4 rfl) ?_
        refine lv_dup hx hb dX0_pass_76 rfl ?_
        refine va_get (D := (dC, dI)) (ci := 5) (v := .int a1_0) (C := RX5) (T := TX5) (N := 7) hx hb hts zi_X0_pass_5 hown hK hP 1 rfl rfl 0 (by decide) (hts (.fieldLink RX0 102 "WaxTurns$Scene" "minute" "I") (zm_X0_pass_r1 (List.mem_of_getElem? (i := 3) rfl))) (fun _ h9 => h9) rfl dX0_pass_77 ?_
        refine lv_iconst (v := 1) hx hb dX0_pass_80 zk_iconst_1 ?_
        refine lv_iadd hx hb dX0_pass_81 ?_
        refine lv_topi (fun x81 ex81 => ?_)
        refine va_put (D := (dC, dI)) (ci := 5) (v := .int x81) (ty := .int) (C := RX5) (T := TX5) (N := 7) hx hb hts zi_X0_pass_5 tyX5 tyX5_ok nmX5 hown hK hP hD hS 1 rfl rfl 0 (by decide) (hts (.fieldLink RX0 102 "WaxTurns$Scene" "minute" "I") (zm_X0_pass_r1 (List.mem_of_getElem? (i := 3) rfl))) (fun _ h9 => h9) rfl (tyX5_ok 0 (by decide)) rfl rfl (Nat.le_of_ble_eq_true rfl) dX0_pass_82 (fun H locs hP hD hS => ?_)
        refine zs_1 (y := (a1, .inr (5, [.int x81, .int a1_1, .int a1_2, .int v27na1_3, .int v27na1_4, .ref a1_5, .ref a1_6]))) hP hD rfl (fun hP hD => ?_)
        refine lv_aload_n hx hb dX0_pass_85 rfl (lv_at hl 4 rfl) ?_
        refine lv_iload hx hb dX0_pass_86 (lv_at hl 1 rfl) ?_
        refine va_put (D := (dC, dI)) (ci := 5) (v := .int x10) (ty := .int) (C := RX5) (T := TX5) (N := 7) hx hb hts zi_X0_pass_5 tyX5 tyX5_ok nmX5 hown hK hP hD hS 1 rfl rfl 2 (by decide) (hts (.fieldLink RX0 84 "WaxTurns$Scene" "spent" "I") (zm_X0_pass_r1 (List.mem_of_getElem? (i := 1) rfl))) (fun _ h9 => h9) rfl (tyX5_ok 2 (by decide)) rfl rfl (Nat.le_of_ble_eq_true rfl) dX0_pass_88 (fun H locs hP hD hS => ?_)
        refine zs_1 (y := (a1, .inr (5, [.int x81, .int a1_1, .int x10, .int v27na1_3, .int v27na1_4, .ref a1_5, .ref a1_6]))) hP hD rfl (fun hP hD => ?_)
        refine lv_iload hx hb dX0_pass_91 (lv_at hl 1 rfl) ?_
        refine lv_aload_n hx hb dX0_pass_93 rfl (lv_at hl 3 rfl) ?_
        refine va_get (D := (dC, dI)) (ci := 0) (v := .int a0_1) (C := RX0) (T := TX0) (N := 15) hx hb hts zi_X0_pass_0 hown hK hP 0 rfl rfl 1 (by decide) (hts (.fieldLink RX0 48 "WaxTurns$Hall" "span" "I") (zm_X0_pass_r1 (List.mem_of_getElem? (i := 5) rfl))) (fun _ h9 => h9) rfl dX0_pass_94 ?_
        refine lv_icmp_lt (tgt := 109) hx hb dX0_pass_97 (by decide) (fun c97 => ?_) (fun c97 => ?_)
        · have gc97 := ai_lt c97
          have u97t_x10 : x10.toInt ≤ (2147483646 : Int) := ai_lthi gc97 (ai_max a0_1)
          have l97t_a0_1 : (-2147483647 : Int) ≤ a0_1.toInt := ai_ltlo gc97 (ai_min x10)
          exact W.vret hx hb hr (fun t ht hW => ⟨⟨(), rfl, trivial, x81, a1_1, x10, v27na1_3, v27na1_4, v27nfa1_5, f74, ⟨l17k0_a1_1, u17k0_a1_1⟩, by rw [ht]; exact hP, va_K.moved hW.alike hK, hD⟩, hS.F ht⟩) hS.2.2 dX0_pass_109
        · have gc97 := ai_nlt c97
          refine lv_aload_n hx hb dX0_pass_100 rfl (lv_at hl 4 rfl) ?_
          refine lv_aload_n hx hb dX0_pass_101 rfl (lv_at hl 3 rfl) ?_
          refine lv_iload_n hx hb dX0_pass_102 rfl (lv_at hl 2 rfl) ?_
          refine va_calli (va_runV (As := [.int a1_1]) (rest := [.ref a1]) ⟨hx, hb, hml, hown, hts⟩ (c_X0_next l dC dI H.size a0 a1_1 a0_0 (.int a0_1) (.int a0_2) a0g_3 a0g_4 a0g_7 a0g_8 a0g_9 (.ref a0_10) (.ref a0_11) a0g_12 a0g_13 a0g_14 a0_5 a0_6 l17k0_a1_1 u17k0_a1_1 ba0_0_l ba0_0_u ba0_5_l ba0_5_u ba0_6_l ba0_6_u) (cwV 1 hts gX0_pass_X0_next rfl rfl rfl zd_X0_next ⟨Nat.le_of_ble_eq_true rfl, Nat.le_of_ble_eq_true rfl⟩) ⟨ax_blind (fun _ _ _ _ _ => trivial), zr_0 (zp_K hK) (zp_P1 hP) (q0 := 0) rfl, ax_pre (zp_P1 hP) (zp_K hK) (zp_D1 hD) (fun _ _ => trivial)⟩ rfl rfl hl.1 rfl (lv_room (Nat.le_of_ble_eq_true rfl)) dX0_pass_103 ⟨Nat.le_of_ble_eq_true rfl, Nat.le_of_ble_eq_true rfl⟩) hS (fun q _ h => zp_F1 hD hS hA q h) (zp_F1 hD hS hA) (fun r103 u t H locs ht hvm hw hB hz1 hk1 hS1 => zo1 hB ht hP hD hk1 (zp_F1 hD hS hA) hS1 (fun hP hK1 hD hS => ?_))
          have hw : (0 : Int) ≤ r103.toInt ∧ r103.toInt ≤ (8 : Int) := hw
          obtain ⟨h103_0, h103_1⟩ := hw
          refine zc_cutc (wc := [(a1, .inr (5, [.int x81, .int a1_1, .int x10, .int v27na1_3, .int v27na1_4, .ref a1_5, .ref a1_6]))]) hP hD hS hA [1] (by decide +kernel) rfl (fun hPc hDc hFc hCc => ?_)
          have hKc := zp_K hK
          refine va_callv (va_runV (As := [.int r103]) (rest := []) ⟨hx, hb, hml, hown, hts⟩ (c_X5_startTurn l dC dI H.size a1 r103 (.int x81) (.int v27na1_3) (.int v27na1_4) (.ref a1_5) (.ref a1_6) a1_1 x10 h103_0 h103_1 l17k0_a1_1 u17k0_a1_1) (cwV 1 hts gX0_pass_X5_startTurn rfl rfl rfl zd_X5_startTurn ⟨Nat.le_of_ble_eq_true rfl, Nat.le_of_ble_eq_true rfl⟩) ⟨ax_blind (fun _ _ _ _ _ => trivial), zr_5 hKc hPc (q0 := 0) rfl, ax_pre hPc hKc hDc (fun _ _ => trivial)⟩ rfl rfl hl.1 rfl (lv_room (Nat.le_of_ble_eq_true rfl)) dX0_pass_106 ⟨Nat.le_of_ble_eq_true rfl, Nat.le_of_ble_eq_true rfl⟩) hS (fun q _ h => hFc q h) hFc (fun u t H locs ht hvm hw => zx_2 (fun v106na0_1 v106na0_2 => zy_1 (fun bv106na0_1 hB hz1 hk1 hS1 => zo hB ht hS1 (fun hP1 hK1 hD1 hS => ?_))))
          refine zc_backc (w := [(a0, .inr (0, [.int a0_0, .int a0_1, .int a0_2, a0g_3, a0g_4, .int a0_5, .int a0_6, a0g_7, a0g_8, a0g_9, .ref a0_10, .ref a0_11, a0g_12, a0g_13, a0g_14])), (a1, .inr (5, [.int x81, .int v106na0_1, .int v106na0_2, .int v27na1_3, .int v27na1_4, .ref a1_5, .ref a1_6])), (a0_10, .inl (ka0_10, 9, .inl (fa0_10))), (a0_11, .inl (ka0_11, 9, .inl (fa0_11))), (a1_5, .inl (ka1_5, 9, .inl (v27nfa1_5))), (a2, .inr (6, [.int a2_0, .int a2_1, .ref a2_2, .ref a2_3])), (a2_3, .inl (ka2_3, 3, .inl (fa2_3))), (a2_2, .inl (ka2_2, 3, .inl (fa2_2))), (a1_6, .inl (ka1_6, 9, .inl (f74)))]) hP hD hCc hk1 hFc hP1 hD1 [.inl 0, .inr 0, .inl 2, .inl 3, .inl 4, .inl 5, .inl 6, .inl 7, .inl 8] (by decide +kernel) rfl (fun hP hD => ?_)
          exact W.vret hx hb hr (fun t ht hW => ⟨⟨(), rfl, trivial, x81, v106na0_1, v106na0_2, v27na1_3, v27na1_4, v27nfa1_5, f74, ⟨bv106na0_1.1, bv106na0_1.2⟩, by rw [ht]; exact hP, va_K.moved hW.alike hK, hD⟩, hS.F ht⟩) hS.2.2 dX0_pass_109
      · subst hw
        refine lv_if_eq (tgt := 75) hx hb dX0_pass_61 (by decide) (fun _ => ?_) (fun c61 => absurd (by decide +kernel) c61)
        refine lv_aload_n hx hb dX0_pass_75 rfl (lv_at hl 4 rfl) ?_
        refine lv_dup hx hb dX0_pass_76 rfl ?_
        refine va_get (D := (dC, dI)) (ci := 5) (v := .int a1_0) (C := RX5) (T := TX5) (N := 7) hx hb hts zi_X0_pass_5 hown hK hP 1 rfl rfl 0 (by decide) (hts (.fieldLink RX0 102 "WaxTurns$Scene" "minute" "I") (zm_X0_pass_r1 (List.mem_of_getElem? (i := 3) rfl))) (fun _ h9 => h9) rfl dX0_pass_77 ?_
        refine lv_iconst (v := 1) hx hb dX0_pass_80 zk_iconst_1 ?_
        refine lv_iadd hx hb dX0_pass_81 ?_
        refine lv_topi (fun x81 ex81 => ?_)
        refine va_put (D := (dC, dI)) (ci := 5) (v := .int x81) (ty := .int) (C := RX5) (T := TX5) (N := 7) hx hb hts zi_X0_pass_5 tyX5 tyX5_ok nmX5 hown hK hP hD hS 1 rfl rfl 0 (by decide) (hts (.fieldLink RX0 102 "WaxTurns$Scene" "minute" "I") (zm_X0_pass_r1 (List.mem_of_getElem? (i := 3) rfl))) (fun _ h9 => h9) rfl (tyX5_ok 0 (by decide)) rfl rfl (Nat.le_of_ble_eq_true rfl) dX0_pass_82 (fun H locs hP hD hS => ?_)
        refine zs_1 (y := (a1, .inr (5, [.int x81, .int a1_1, .int a1_2, .int v27na1_3, .int v27na1_4, .ref a1_5, .ref a1_6]))) hP hD rfl (fun hP hD => ?_)
        refine lv_aload_n hx hb dX0_pass_85 rfl (lv_at hl 4 rfl) ?_
        refine lv_iload hx hb dX0_pass_86 (lv_at hl 1 rfl) ?_
        refine va_put (D := (dC, dI)) (ci := 5) (v := .int x10) (ty := .int) (C := RX5) (T := TX5) (N := 7) hx hb hts zi_X0_pass_5 tyX5 tyX5_ok nmX5 hown hK hP hD hS 1 rfl rfl 2 (by decide) (hts (.fieldLink RX0 84 "WaxTurns$Scene" "spent" "I") (zm_X0_pass_r1 (List.mem_of_getElem? (i := 1) rfl))) (fun _ h9 => h9) rfl (tyX5_ok 2 (by decide)) rfl rfl (Nat.le_of_ble_eq_true rfl) dX0_pass_88 (fun H locs hP hD hS => ?_)
        refine zs_1 (y := (a1, .inr (5, [.int x81, .int a1_1, .int x10, .int v27na1_3, .int v27na1_4, .ref a1_5, .ref a1_6]))) hP hD rfl (fun hP hD => ?_)
        refine lv_iload hx hb dX0_pass_91 (lv_at hl 1 rfl) ?_
        refine lv_aload_n hx hb dX0_pass_93 rfl (lv_at hl 3 rfl) ?_
        refine va_get (D := (dC, dI)) (ci := 0) (v := .int a0_1) (C := RX0) (T := TX0) (N := 15) hx hb hts zi_X0_pass_0 hown hK hP 0 rfl rfl 1 (by decide) (hts (.fieldLink RX0 48 "WaxTurns$Hall" "span" "I") (zm_X0_pass_r1 (List.mem_of_getElem? (i := 5) rfl))) (fun _ h9 => h9) rfl dX0_pass_94 ?_
        refine lv_icmp_lt (tgt := 109) hx hb dX0_pass_97 (by decide) (fun c97 => ?_) (fun c97 => ?_)
        · have gc97 := ai_lt c97
          have u97t_x10 : x10.toInt ≤ (2147483646 : Int) := ai_lthi gc97 (ai_max a0_1)
          have l97t_a0_1 : (-2147483647 : Int) ≤ a0_1.toInt := ai_ltlo gc97 (ai_min x10)
          exact W.vret hx hb hr (fun t ht hW => ⟨⟨(), rfl, trivial, x81, a1_1, x10, v27na1_3, v27na1_4, v27nfa1_5, fa1_6, ⟨l17k0_a1_1, u17k0_a1_1⟩, by rw [ht]; exact hP, va_K.moved hW.alike hK, hD⟩, hS.F ht⟩) hS.2.2 dX0_pass_109
        · have gc97 := ai_nlt c97
          refine lv_aload_n hx hb dX0_pass_100 rfl (lv_at hl 4 rfl) ?_
          refine lv_aload_n hx hb dX0_pass_101 rfl (lv_at hl 3 rfl) ?_
          refine lv_iload_n hx hb dX0_pass_102 rfl (lv_at hl 2 rfl) ?_
          refine va_calli (va_runV (As := [.int a1_1]) (rest := [.ref a1]) ⟨hx, hb, hml, hown, hts⟩ (c_X0_next l dC dI H.size a0 a1_1 a0_0 (.int a0_1) (.int a0_2) a0g_3 a0g_4 a0g_7 a0g_8 a0g_9 (.ref a0_10) (.ref a0_11) a0g_12 a0g_13 a0g_14 a0_5 a0_6 l17k0_a1_1 u17k0_a1_1 ba0_0_l ba0_0_u ba0_5_l ba0_5_u ba0_6_l ba0_6_u) (cwV 1 hts gX0_pass_X0_next rfl rfl rfl zd_X0_next ⟨Nat.le_of_ble_eq_true rfl, Nat.le_of_ble_eq_true rfl⟩) ⟨ax_blind (fun _ _ _ _ _ => trivial), zr_0 (zp_K hK) (zp_P1 hP) (q0 := 0) rfl, ax_pre (zp_P1 hP) (zp_K hK) (zp_D1 hD) (fun _ _ => trivial)⟩ rfl rfl hl.1 rfl (lv_room (Nat.le_of_ble_eq_true rfl)) dX0_pass_103 ⟨Nat.le_of_ble_eq_true rfl, Nat.le_of_ble_eq_true rfl⟩) hS (fun q _ h => zp_F1 hD hS hA q h) (zp_F1 hD hS hA) (fun r103 u t H locs ht hvm hw hB hz1 hk1 hS1 => zo1 hB ht hP hD hk1 (zp_F1 hD hS hA) hS1 (fun hP hK1 hD hS => ?_))
          have hw : (0 : Int) ≤ r103.toInt ∧ r103.toInt ≤ (8 : Int) := hw
          obtain ⟨h103_0, h103_1⟩ := hw
          refine zc_cutc (wc := [(a1, .inr (5, [.int x81, .int a1_1, .int x10, .int v27na1_3, .int v27na1_4, .ref a1_5, .ref a1_6]))]) hP hD hS hA [1] (by decide +kernel) rfl (fun hPc hDc hFc hCc => ?_)
          have hKc := zp_K hK
          refine va_callv (va_runV (As := [.int r103]) (rest := []) ⟨hx, hb, hml, hown, hts⟩ (c_X5_startTurn l dC dI H.size a1 r103 (.int x81) (.int v27na1_3) (.int v27na1_4) (.ref a1_5) (.ref a1_6) a1_1 x10 h103_0 h103_1 l17k0_a1_1 u17k0_a1_1) (cwV 1 hts gX0_pass_X5_startTurn rfl rfl rfl zd_X5_startTurn ⟨Nat.le_of_ble_eq_true rfl, Nat.le_of_ble_eq_true rfl⟩) ⟨ax_blind (fun _ _ _ _ _ => trivial), zr_5 hKc hPc (q0 := 0) rfl, ax_pre hPc hKc hDc (fun _ _ => trivial)⟩ rfl rfl hl.1 rfl (lv_room (Nat.le_of_ble_eq_true rfl)) dX0_pass_106 ⟨Nat.le_of_ble_eq_true rfl, Nat.le_of_ble_eq_true rfl⟩) hS (fun q _ h => hFc q h) hFc (fun u t H locs ht hvm hw => zx_2 (fun v106na0_1 v106na0_2 => zy_1 (fun bv106na0_1 hB hz1 hk1 hS1 => zo hB ht hS1 (fun hP1 hK1 hD1 hS => ?_))))
          refine zc_backc (w := [(a0, .inr (0, [.int a0_0, .int a0_1, .int a0_2, a0g_3, a0g_4, .int a0_5, .int a0_6, a0g_7, a0g_8, a0g_9, .ref a0_10, .ref a0_11, a0g_12, a0g_13, a0g_14])), (a1, .inr (5, [.int x81, .int v106na0_1, .int v106na0_2, .int v27na1_3, .int v27na1_4, .ref a1_5, .ref a1_6])), (a0_10, .inl (ka0_10, 9, .inl (fa0_10))), (a0_11, .inl (ka0_11, 9, .inl (fa0_11))), (a1_5, .inl (ka1_5, 9, .inl (v27nfa1_5))), (a2, .inr (6, [.int a2_0, .int a2_1, .ref a2_2, .ref a2_3])), (a2_3, .inl (ka2_3, 3, .inl (fa2_3))), (a2_2, .inl (ka2_2, 3, .inl (fa2_2))), (a1_6, .inl (ka1_6, 9, .inl (fa1_6)))]) hP hD hCc hk1 hFc hP1 hD1 [.inl 0, .inr 0, .inl 2, .inl 3, .inl 4, .inl 5, .inl 6, .inl 7, .inl 8] (by decide +kernel) rfl (fun hP hD => ?_)
          exact W.vret hx hb hr (fun t ht hW => ⟨⟨(), rfl, trivial, x81, v106na0_1, v106na0_2, v27na1_3, v27na1_4, v27nfa1_5, fa1_6, ⟨bv106na0_1.1, bv106na0_1.2⟩, by rw [ht]; exact hP, va_K.moved hW.alike hK, hD⟩, hS.F ht⟩) hS.2.2 dX0_pass_109
  · subst hw
    refine lv_if_eq (tgt := 30) hx hb dX0_pass_20 (by decide) (fun _ => ?_) (fun c20 => absurd (by decide +kernel) c20)
    refine lv_aload_n hx hb dX0_pass_30 rfl (lv_at hl 2 rfl) ?_
    refine lv_iload_n hx hb dX0_pass_31 rfl (lv_at hl 1 rfl) ?_
    refine lv_iload hx hb dX0_pass_32 (lv_at hl 0 rfl) ?_
    refine zc_cutc (wc := [(a0, .inr (0, [.int a0_0, .int a0_1, .int a0_2, a0g_3, a0g_4, .int a0_5, .int a0_6, a0g_7, a0g_8, a0g_9, .ref a0_10, .ref a0_11, a0g_12, a0g_13, a0g_14])), (a0_10, .inl (ka0_10, 9, .inl (fa0_10))), (a0_11, .inl (ka0_11, 9, .inl (fa0_11)))]) hP hD hS hA [0, 2, 3] (by decide +kernel) rfl (fun hPc hDc hFc hCc => ?_)
    have hKc := hK.sub (tys' := [(ka0_10, .int), (ka0_11, .int)]) [0, 1] rfl
    refine va_calli (va_runV (As := [.int a1_1, .int x10]) (rest := []) ⟨hx, hb, hml, hown, hts⟩ (c_X0_partSaid l dC dI H.size a0 a1_1 x10 (.int a0_0) (.int a0_1) (.int a0_2) a0g_3 a0g_4 (.int a0_5) (.int a0_6) a0g_7 a0g_8 a0g_9 a0g_12 a0g_13 a0g_14 a0_10 a0_11 ka0_10 fa0_10 ka0_11 fa0_11 ) (cwV 2 hts gX0_pass_X0_partSaid rfl rfl rfl zd_X0_partSaid ⟨Nat.le_of_ble_eq_true rfl, Nat.le_of_ble_eq_true rfl⟩) ⟨ax_blind (fun _ _ _ _ hq => va_Nw.same rfl rfl (hq)), zr_0 hKc hPc (q0 := 0) rfl, ax_pre hPc hKc hDc (fun _ hW => va_Nw.warmM hW hE0)⟩ rfl rfl hl.1 rfl (lv_room (Nat.le_of_ble_eq_true rfl)) dX0_pass_34 ⟨Nat.le_of_ble_eq_true rfl, Nat.le_of_ble_eq_true rfl⟩) hS (fun q _ h => hFc q h) hFc (fun r34 u t H locs ht hvm hw hB hz1 hk1 hS1 => zo hB ht hS1 (fun hP1 hK1 hD1 hS => ?_))
    refine zc_backc (w := [(a0, .inr (0, [.int a0_0, .int a0_1, .int a0_2, a0g_3, a0g_4, .int a0_5, .int a0_6, a0g_7, a0g_8, a0g_9, .ref a0_10, .ref a0_11, a0g_12, a0g_13, a0g_14])), (a1, .inr (5, [.int a1_0, .int a1_1, .int a1_2, .int a1_3, .int a1_4, .ref a1_5, .ref a1_6])), (a0_10, .inl (ka0_10, 9, .inl (fa0_10))), (a0_11, .inl (ka0_11, 9, .inl (fa0_11))), (a1_5, .inl (ka1_5, 9, .inl (fa1_5))), (a2, .inr (6, [.int a2_0, .int a2_1, .ref a2_2, .ref a2_3])), (a2_3, .inl (ka2_3, 3, .inl (fa2_3))), (a2_2, .inl (ka2_2, 3, .inl (fa2_2))), (a1_6, .inl (ka1_6, 9, .inl (fa1_6)))]) hP hD hCc hk1 hFc hP1 hD1 [.inr 0, .inl 1, .inr 1, .inr 2, .inl 4, .inl 5, .inl 6, .inl 7, .inl 8] (by decide +kernel) rfl (fun hP hD => ?_)
    refine lv_istore (lv' := [(5, .int r34), (4, .int x10), (3, .int a1_1), (0, .ref a0), (1, .ref a1), (2, .ref a2)]) hx hb dX0_pass_37 hl (by decide) rfl (fun ls hl => ?_)
    refine lv_iload hx hb dX0_pass_39 (lv_at hl 0 rfl) ?_
    refine lv_if_eq (tgt := 75) hx hb dX0_pass_41 (by decide) (fun c41 => ?_) (fun c41 => ?_)
    · have gc41 := ai_eq c41
      have u41t_r34 : r34.toInt ≤ (0 : Int) := Int.le_trans (Int.le_of_eq gc41) zq6
      have l41t_r34 : (0 : Int) ≤ r34.toInt := Int.le_trans zq5 (Int.le_of_eq gc41.symm)
      refine lv_aload_n hx hb dX0_pass_75 rfl (lv_at hl 4 rfl) ?_
      refine lv_dup hx hb dX0_pass_76 rfl ?_
      refine va_get (D := (dC, dI)) (ci := 5) (v := .int a1_0) (C := RX5) (T := TX5) (N := 7) hx hb hts zi_X0_pass_5 hown hK hP 1 rfl rfl 0 (by decide) (hts (.fieldLink RX0 102 "WaxTurns$Scene" "minute" "I") (zm_X0_pass_r1 (List.mem_of_getElem? (i := 3) rfl))) (fun _ h9 => h9) rfl dX0_pass_77 ?_
      refine lv_iconst (v := 1) hx hb dX0_pass_80 zk_iconst_1 ?_
      refine lv_iadd hx hb dX0_pass_81 ?_
      refine lv_topi (fun x81 ex81 => ?_)
      refine va_put (D := (dC, dI)) (ci := 5) (v := .int x81) (ty := .int) (C := RX5) (T := TX5) (N := 7) hx hb hts zi_X0_pass_5 tyX5 tyX5_ok nmX5 hown hK hP hD hS 1 rfl rfl 0 (by decide) (hts (.fieldLink RX0 102 "WaxTurns$Scene" "minute" "I") (zm_X0_pass_r1 (List.mem_of_getElem? (i := 3) rfl))) (fun _ h9 => h9) rfl (tyX5_ok 0 (by decide)) rfl rfl (Nat.le_of_ble_eq_true rfl) dX0_pass_82 (fun H locs hP hD hS => ?_)
      refine zs_1 (y := (a1, .inr (5, [.int x81, .int a1_1, .int a1_2, .int a1_3, .int a1_4, .ref a1_5, .ref a1_6]))) hP hD rfl (fun hP hD => ?_)
      refine lv_aload_n hx hb dX0_pass_85 rfl (lv_at hl 4 rfl) ?_
      refine lv_iload hx hb dX0_pass_86 (lv_at hl 1 rfl) ?_
      refine va_put (D := (dC, dI)) (ci := 5) (v := .int x10) (ty := .int) (C := RX5) (T := TX5) (N := 7) hx hb hts zi_X0_pass_5 tyX5 tyX5_ok nmX5 hown hK hP hD hS 1 rfl rfl 2 (by decide) (hts (.fieldLink RX0 84 "WaxTurns$Scene" "spent" "I") (zm_X0_pass_r1 (List.mem_of_getElem? (i := 1) rfl))) (fun _ h9 => h9) rfl (tyX5_ok 2 (by decide)) rfl rfl (Nat.le_of_ble_eq_true rfl) dX0_pass_88 (fun H locs hP hD hS => ?_)
      refine zs_1 (y := (a1, .inr (5, [.int x81, .int a1_1, .int x10, .int a1_3, .int a1_4, .ref a1_5, .ref a1_6]))) hP hD rfl (fun hP hD => ?_)
      refine lv_iload hx hb dX0_pass_91 (lv_at hl 1 rfl) ?_
      refine lv_aload_n hx hb dX0_pass_93 rfl (lv_at hl 3 rfl) ?_
      refine va_get (D := (dC, dI)) (ci := 0) (v := .int a0_1) (C := RX0) (T := TX0) (N := 15) hx hb hts zi_X0_pass_0 hown hK hP 0 rfl rfl 1 (by decide) (hts (.fieldLink RX0 48 "WaxTurns$Hall" "span" "I") (zm_X0_pass_r1 (List.mem_of_getElem? (i := 5) rfl))) (fun _ h9 => h9) rfl dX0_pass_94 ?_
      refine lv_icmp_lt (tgt := 109) hx hb dX0_pass_97 (by decide) (fun c97 => ?_) (fun c97 => ?_)
      · have gc97 := ai_lt c97
        have u97t_x10 : x10.toInt ≤ (2147483646 : Int) := ai_lthi gc97 (ai_max a0_1)
        have l97t_a0_1 : (-2147483647 : Int) ≤ a0_1.toInt := ai_ltlo gc97 (ai_min x10)
        exact W.vret hx hb hr (fun t ht hW => ⟨⟨(), rfl, trivial, x81, a1_1, x10, a1_3, a1_4, fa1_5, fa1_6, ⟨ba1_1_l, ba1_1_u⟩, by rw [ht]; exact hP, va_K.moved hW.alike hK, hD⟩, hS.F ht⟩) hS.2.2 dX0_pass_109
      · have gc97 := ai_nlt c97
        refine lv_aload_n hx hb dX0_pass_100 rfl (lv_at hl 4 rfl) ?_
        refine lv_aload_n hx hb dX0_pass_101 rfl (lv_at hl 3 rfl) ?_
        refine lv_iload_n hx hb dX0_pass_102 rfl (lv_at hl 2 rfl) ?_
        refine va_calli (va_runV (As := [.int a1_1]) (rest := [.ref a1]) ⟨hx, hb, hml, hown, hts⟩ (c_X0_next l dC dI H.size a0 a1_1 a0_0 (.int a0_1) (.int a0_2) a0g_3 a0g_4 a0g_7 a0g_8 a0g_9 (.ref a0_10) (.ref a0_11) a0g_12 a0g_13 a0g_14 a0_5 a0_6 ba1_1_l ba1_1_u ba0_0_l ba0_0_u ba0_5_l ba0_5_u ba0_6_l ba0_6_u) (cwV 1 hts gX0_pass_X0_next rfl rfl rfl zd_X0_next ⟨Nat.le_of_ble_eq_true rfl, Nat.le_of_ble_eq_true rfl⟩) ⟨ax_blind (fun _ _ _ _ _ => trivial), zr_0 (zp_K hK) (zp_P1 hP) (q0 := 0) rfl, ax_pre (zp_P1 hP) (zp_K hK) (zp_D1 hD) (fun _ _ => trivial)⟩ rfl rfl hl.1 rfl (lv_room (Nat.le_of_ble_eq_true rfl)) dX0_pass_103 ⟨Nat.le_of_ble_eq_true rfl, Nat.le_of_ble_eq_true rfl⟩) hS (fun q _ h => zp_F1 hD hS hA q h) (zp_F1 hD hS hA) (fun r103 u t H locs ht hvm hw hB hz1 hk1 hS1 => zo1 hB ht hP hD hk1 (zp_F1 hD hS hA) hS1 (fun hP hK1 hD hS => ?_))
        have hw : (0 : Int) ≤ r103.toInt ∧ r103.toInt ≤ (8 : Int) := hw
        obtain ⟨h103_0, h103_1⟩ := hw
        refine zc_cutc (wc := [(a1, .inr (5, [.int x81, .int a1_1, .int x10, .int a1_3, .int a1_4, .ref a1_5, .ref a1_6]))]) hP hD hS hA [1] (by decide +kernel) rfl (fun hPc hDc hFc hCc => ?_)
        have hKc := zp_K hK
        refine va_callv (va_runV (As := [.int r103]) (rest := []) ⟨hx, hb, hml, hown, hts⟩ (c_X5_startTurn l dC dI H.size a1 r103 (.int x81) (.int a1_3) (.int a1_4) (.ref a1_5) (.ref a1_6) a1_1 x10 h103_0 h103_1 ba1_1_l ba1_1_u) (cwV 1 hts gX0_pass_X5_startTurn rfl rfl rfl zd_X5_startTurn ⟨Nat.le_of_ble_eq_true rfl, Nat.le_of_ble_eq_true rfl⟩) ⟨ax_blind (fun _ _ _ _ _ => trivial), zr_5 hKc hPc (q0 := 0) rfl, ax_pre hPc hKc hDc (fun _ _ => trivial)⟩ rfl rfl hl.1 rfl (lv_room (Nat.le_of_ble_eq_true rfl)) dX0_pass_106 ⟨Nat.le_of_ble_eq_true rfl, Nat.le_of_ble_eq_true rfl⟩) hS (fun q _ h => hFc q h) hFc (fun u t H locs ht hvm hw => zx_2 (fun v106na0_1 v106na0_2 => zy_1 (fun bv106na0_1 hB hz1 hk1 hS1 => zo hB ht hS1 (fun hP1 hK1 hD1 hS => ?_))))
        refine zc_backc (w := [(a0, .inr (0, [.int a0_0, .int a0_1, .int a0_2, a0g_3, a0g_4, .int a0_5, .int a0_6, a0g_7, a0g_8, a0g_9, .ref a0_10, .ref a0_11, a0g_12, a0g_13, a0g_14])), (a1, .inr (5, [.int x81, .int v106na0_1, .int v106na0_2, .int a1_3, .int a1_4, .ref a1_5, .ref a1_6])), (a0_10, .inl (ka0_10, 9, .inl (fa0_10))), (a0_11, .inl (ka0_11, 9, .inl (fa0_11))), (a1_5, .inl (ka1_5, 9, .inl (fa1_5))), (a2, .inr (6, [.int a2_0, .int a2_1, .ref a2_2, .ref a2_3])), (a2_3, .inl (ka2_3, 3, .inl (fa2_3))), (a2_2, .inl (ka2_2, 3, .inl (fa2_2))), (a1_6, .inl (ka1_6, 9, .inl (fa1_6)))]) hP hD hCc hk1 hFc hP1 hD1 [.inl 0, .inr 0, .inl 2, .inl 3, .inl 4, .inl 5, .inl 6, .inl 7, .inl 8] (by decide +kernel) rfl (fun hP hD => ?_)
        exact W.vret hx hb hr (fun t ht hW => ⟨⟨(), rfl, trivial, x81, v106na0_1, v106na0_2, a1_3, a1_4, fa1_5, fa1_6, ⟨bv106na0_1.1, bv106na0_1.2⟩, by rw [ht]; exact hP, va_K.moved hW.alike hK, hD⟩, hS.F ht⟩) hS.2.2 dX0_pass_109
    · have gc41 := ai_ne c41
      refine lv_aload_n hx hb dX0_pass_44 rfl (lv_at hl 4 rfl) ?_
      refine va_get (D := (dC, dI)) (ci := 5) (v := .ref a1_5) (C := RX5) (T := TX5) (N := 7) hx hb hts zi_X0_pass_5 hown hK hP 1 rfl rfl 5 (by decide) (hts (.fieldLink RX0 99 "WaxTurns$Scene" "places" "[I") (zm_X0_pass_r1 (List.mem_of_getElem? (i := 2) rfl))) (fun _ h9 => h9) rfl dX0_pass_45 ?_
      refine lv_iload_n hx hb dX0_pass_48 rfl (lv_at hl 2 rfl) ?_
      refine va_iald hx hb hK hP 4 2 rfl rfl (ai_in ba1_1_l ba1_1_u (by decide) (by decide)) dX0_pass_49 ?_
      refine lv_topi (fun x49 ex49 => ?_)
      refine lv_aload_n hx hb dX0_pass_50 rfl (lv_at hl 5 rfl) ?_
      refine lv_aload_n hx hb dX0_pass_51 rfl (lv_at hl 4 rfl) ?_
      refine va_get (D := (dC, dI)) (ci := 5) (v := .int a1_0) (C := RX5) (T := TX5) (N := 7) hx hb hts zi_X0_pass_5 hown hK hP 1 rfl rfl 0 (by decide) (hts (.fieldLink RX0 102 "WaxTurns$Scene" "minute" "I") (zm_X0_pass_r1 (List.mem_of_getElem? (i := 3) rfl))) (fun _ h9 => h9) rfl dX0_pass_52 ?_
      refine zc_cutc (wc := [(a2, .inr (6, [.int a2_0, .int a2_1, .ref a2_2, .ref a2_3])), (a2_3, .inl (ka2_3, 3, .inl (fa2_3))), (a2_2, .inl (ka2_2, 3, .inl (fa2_2)))]) hP hD hS hA [5, 6, 7] (by decide +kernel) rfl (fun hPc hDc hFc hCc => ?_)
      have hKc := hK.sub (tys' := [(ka2_3, .int), (ka2_2, .int)]) [3, 4] rfl
      refine va_calli (va_runV (As := [.int a1_0]) (rest := [.int x49]) ⟨hx, hb, hml, hown, hts⟩ (c_X6_placesIn l dC dI H.size a2 a1_0 a2_0 a2_1 a2_2 a2_3 ka2_3 fa2_3 ka2_2 fa2_2 ba2_0_l ba2_0_u bfa2_3 bfa2_2) (cwV 1 hts gX0_pass_X6_placesIn rfl rfl rfl zd_X6_placesIn ⟨Nat.le_of_ble_eq_true rfl, Nat.le_of_ble_eq_true rfl⟩) ⟨ax_blind (fun _ _ _ _ _ => trivial), zr_6 hKc hPc (q0 := 0) rfl, ax_pre hPc hKc hDc (fun _ _ => trivial)⟩ rfl rfl hl.1 rfl (lv_room (Nat.le_of_ble_eq_true rfl)) dX0_pass_55 ⟨Nat.le_of_ble_eq_true rfl, Nat.le_of_ble_eq_true rfl⟩) hS (fun q _ h => hFc q h) hFc (fun r55 u t H locs ht hvm hw hB hz1 hk1 hS1 => zo hB ht hS1 (fun hP1 hK1 hD1 hS => ?_))
      refine zc_backc (w := [(a0, .inr (0, [.int a0_0, .int a0_1, .int a0_2, a0g_3, a0g_4, .int a0_5, .int a0_6, a0g_7, a0g_8, a0g_9, .ref a0_10, .ref a0_11, a0g_12, a0g_13, a0g_14])), (a1, .inr (5, [.int a1_0, .int a1_1, .int a1_2, .int a1_3, .int a1_4, .ref a1_5, .ref a1_6])), (a0_10, .inl (ka0_10, 9, .inl (fa0_10))), (a0_11, .inl (ka0_11, 9, .inl (fa0_11))), (a1_5, .inl (ka1_5, 9, .inl (fa1_5))), (a2, .inr (6, [.int a2_0, .int a2_1, .ref a2_2, .ref a2_3])), (a2_3, .inl (ka2_3, 3, .inl (fa2_3))), (a2_2, .inl (ka2_2, 3, .inl (fa2_2))), (a1_6, .inl (ka1_6, 9, .inl (fa1_6)))]) hP hD hCc hk1 hFc hP1 hD1 [.inl 0, .inl 1, .inl 2, .inl 3, .inl 4, .inr 0, .inr 1, .inr 2, .inl 8] (by decide +kernel) rfl (fun hP hD => ?_)
      refine va_calli (va_runS (As := [.int x49, .int r55]) (rest := []) ⟨hx, hb, hml, hown, hts⟩ (c_X0_isHeardAt l dC dI H.size x49 r55 ) (va_cwS 2 hts gX0_pass_X0_isHeardAt rfl rfl rfl zd_X0_isHeardAt.2 ⟨Nat.le_of_ble_eq_true rfl, Nat.le_of_ble_eq_true rfl⟩) ⟨ax_blind (fun _ _ _ _ _ => trivial), ax_pre (zp_P0 hP) (zp_K hK) (zp_D0 hD) (fun _ _ => trivial)⟩ rfl rfl hl.1 rfl (lv_room (Nat.le_of_ble_eq_true rfl)) dX0_pass_58 ⟨Nat.le_of_ble_eq_true rfl, Nat.le_of_ble_eq_true rfl⟩) hS (fun q _ h => zp_F0 hD hS hA q h) (zp_F0 hD hS hA) (fun r58 u t H locs ht hvm hw hB hz1 hk1 hS1 => zo0 hB ht hP hD hk1 (zp_F0 hD hS hA) hS1 (fun hP hK1 hD hS => ?_))
      rcases hw with hw | hw
      · subst hw
        refine lv_if_eq (tgt := 75) hx hb dX0_pass_61 (by decide) (fun c61 => absurd c61 (by decide +kernel)) (fun _ => ?_)
        refine lv_aload_n hx hb dX0_pass_64 rfl (lv_at hl 4 rfl) ?_
        refine va_get (D := (dC, dI)) (ci := 5) (v := .ref a1_6) (C := RX5) (T := TX5) (N := 7) hx hb hts zi_X0_pass_5 hown hK hP 1 rfl rfl 6 (by decide) (hts (.fieldLink RX0 111 "WaxTurns$Scene" "heardBits" "[I") (zm_X0_pass_r1 (List.mem_of_getElem? (i := 4) rfl))) (fun _ h9 => h9) rfl dX0_pass_65 ?_
        refine lv_iload_n hx hb dX0_pass_68 rfl (lv_at hl 2 rfl) ?_
        refine lv_dup2_11 hx hb dX0_pass_69 rfl rfl ?_
        refine va_iald hx hb hK hP 8 5 rfl rfl (ai_in ba1_1_l ba1_1_u (by decide) (by decide)) dX0_pass_70 ?_
        refine lv_topi (fun x70 ex70 => ?_)
        refine lv_iload hx hb dX0_pass_71 (lv_at hl 0 rfl) ?_
        refine lv_ior hx hb dX0_pass_73 ?_
        refine lv_topi (fun x73 ex73 => ?_)
        refine va_iast hx hb hK hP hD hS 8 5 rfl rfl (ai_in ba1_1_l ba1_1_u (by decide) (by decide)) dX0_pass_74 (fun H locs hP hD hS => ?_)
        obtain ⟨f74, hP, hD⟩ : ∃ f74 : Nat → Int32, va_P (dC, dI) vwCl [(a0, .inr (0, [.int a0_0, .int a0_1, .int a0_2, a0g_3, a0g_4, .int a0_5, .int a0_6, a0g_7, a0g_8, a0g_9, .ref a0_10, .ref a0_11, a0g_12, a0g_13, a0g_14])), (a1, .inr (5, [.int a1_0, .int a1_1, .int a1_2, .int a1_3, .int a1_4, .ref a1_5, .ref a1_6])), (a0_10, .inl (ka0_10, 9, .inl (fa0_10))), (a0_11, .inl (ka0_11, 9, .inl (fa0_11))), (a1_5, .inl (ka1_5, 9, .inl (fa1_5))), (a2, .inr (6, [.int a2_0, .int a2_1, .ref a2_2, .ref a2_3])), (a2_3, .inl (ka2_3, 3, .inl (fa2_3))), (a2_2, .inl (ka2_2, 3, .inl (fa2_2))), (a1_6, .inl (ka1_6, 9, .inl (f74)))] H ∧ va_D A [(a0, .inr (0, [.int a0_0, .int a0_1, .int a0_2, a0g_3, a0g_4, .int a0_5, .int a0_6, a0g_7, a0g_8, a0g_9, .ref a0_10, .ref a0_11, a0g_12, a0g_13, a0g_14])), (a1, .inr (5, [.int a1_0, .int a1_1, .int a1_2, .int a1_3, .int a1_4, .ref a1_5, .ref a1_6])), (a0_10, .inl (ka0_10, 9, .inl (fa0_10))), (a0_11, .inl (ka0_11, 9, .inl (fa0_11))), (a1_5, .inl (ka1_5, 9, .inl (fa1_5))), (a2, .inr (6, [.int a2_0, .int a2_1, .ref a2_2, .ref a2_3])), (a2_3, .inl (ka2_3, 3, .inl (fa2_3))), (a2_2, .inl (ka2_2, 3, .inl (fa2_2))), (a1_6, .inl (ka1_6, 9, .inl (f74)))] := ⟨_, hP, hD⟩
        refine lv_aload_n hx hb dX0_pass_75 rfl (lv_at hl 4 rfl) ?_
        refine lv_dup hx hb dX0_pass_76 rfl ?_
        refine va_get (D := (dC, dI)) (ci := 5) (v := .int a1_0) (C := RX5) (T := TX5) (N := 7) hx hb hts zi_X0_pass_5 hown hK hP 1 rfl rfl 0 (by decide) (hts (.fieldLink RX0 102 "WaxTurns$Scene" "minute" "I") (zm_X0_pass_r1 (List.mem_of_getElem? (i := 3) rfl))) (fun _ h9 => h9) rfl dX0_pass_77 ?_
        refine lv_iconst (v := 1) hx hb dX0_pass_80 zk_iconst_1 ?_
        refine lv_iadd hx hb dX0_pass_81 ?_
        refine lv_topi (fun x81 ex81 => ?_)
        refine va_put (D := (dC, dI)) (ci := 5) (v := .int x81) (ty := .int) (C := RX5) (T := TX5) (N := 7) hx hb hts zi_X0_pass_5 tyX5 tyX5_ok nmX5 hown hK hP hD hS 1 rfl rfl 0 (by decide) (hts (.fieldLink RX0 102 "WaxTurns$Scene" "minute" "I") (zm_X0_pass_r1 (List.mem_of_getElem? (i := 3) rfl))) (fun _ h9 => h9) rfl (tyX5_ok 0 (by decide)) rfl rfl (Nat.le_of_ble_eq_true rfl) dX0_pass_82 (fun H locs hP hD hS => ?_)
        refine zs_1 (y := (a1, .inr (5, [.int x81, .int a1_1, .int a1_2, .int a1_3, .int a1_4, .ref a1_5, .ref a1_6]))) hP hD rfl (fun hP hD => ?_)
        refine lv_aload_n hx hb dX0_pass_85 rfl (lv_at hl 4 rfl) ?_
        refine lv_iload hx hb dX0_pass_86 (lv_at hl 1 rfl) ?_
        refine va_put (D := (dC, dI)) (ci := 5) (v := .int x10) (ty := .int) (C := RX5) (T := TX5) (N := 7) hx hb hts zi_X0_pass_5 tyX5 tyX5_ok nmX5 hown hK hP hD hS 1 rfl rfl 2 (by decide) (hts (.fieldLink RX0 84 "WaxTurns$Scene" "spent" "I") (zm_X0_pass_r1 (List.mem_of_getElem? (i := 1) rfl))) (fun _ h9 => h9) rfl (tyX5_ok 2 (by decide)) rfl rfl (Nat.le_of_ble_eq_true rfl) dX0_pass_88 (fun H locs hP hD hS => ?_)
        refine zs_1 (y := (a1, .inr (5, [.int x81, .int a1_1, .int x10, .int a1_3, .int a1_4, .ref a1_5, .ref a1_6]))) hP hD rfl (fun hP hD => ?_)
        refine lv_iload hx hb dX0_pass_91 (lv_at hl 1 rfl) ?_
        refine lv_aload_n hx hb dX0_pass_93 rfl (lv_at hl 3 rfl) ?_
        refine va_get (D := (dC, dI)) (ci := 0) (v := .int a0_1) (C := RX0) (T := TX0) (N := 15) hx hb hts zi_X0_pass_0 hown hK hP 0 rfl rfl 1 (by decide) (hts (.fieldLink RX0 48 "WaxTurns$Hall" "span" "I") (zm_X0_pass_r1 (List.mem_of_getElem? (i := 5) rfl))) (fun _ h9 => h9) rfl dX0_pass_94 ?_
        refine lv_icmp_lt (tgt := 109) hx hb dX0_pass_97 (by decide) (fun c97 => ?_) (fun c97 => ?_)
        · have gc97 := ai_lt c97
          have u97t_x10 : x10.toInt ≤ (2147483646 : Int) := ai_lthi gc97 (ai_max a0_1)
          have l97t_a0_1 : (-2147483647 : Int) ≤ a0_1.toInt := ai_ltlo gc97 (ai_min x10)
          exact W.vret hx hb hr (fun t ht hW => ⟨⟨(), rfl, trivial, x81, a1_1, x10, a1_3, a1_4, fa1_5, f74, ⟨ba1_1_l, ba1_1_u⟩, by rw [ht]; exact hP, va_K.moved hW.alike hK, hD⟩, hS.F ht⟩) hS.2.2 dX0_pass_109
        · have gc97 := ai_nlt c97
          refine lv_aload_n hx hb dX0_pass_100 rfl (lv_at hl 4 rfl) ?_
          refine lv_aload_n hx hb dX0_pass_101 rfl (lv_at hl 3 rfl) ?_
          refine lv_iload_n hx hb dX0_pass_102 rfl (lv_at hl 2 rfl) ?_
          refine va_calli (va_runV (As := [.int a1_1]) (rest := [.ref a1]) ⟨hx, hb, hml, hown, hts⟩ (c_X0_next l dC dI H.size a0 a1_1 a0_0 (.int a0_1) (.int a0_2) a0g_3 a0g_4 a0g_7 a0g_8 a0g_9 (.ref a0_10) (.ref a0_11) a0g_12 a0g_13 a0g_14 a0_5 a0_6 ba1_1_l ba1_1_u ba0_0_l ba0_0_u ba0_5_l ba0_5_u ba0_6_l ba0_6_u) (cwV 1 hts gX0_pass_X0_next rfl rfl rfl zd_X0_next ⟨Nat.le_of_ble_eq_true rfl, Nat.le_of_ble_eq_true rfl⟩) ⟨ax_blind (fun _ _ _ _ _ => trivial), zr_0 (zp_K hK) (zp_P1 hP) (q0 := 0) rfl, ax_pre (zp_P1 hP) (zp_K hK) (zp_D1 hD) (fun _ _ => trivial)⟩ rfl rfl hl.1 rfl (lv_room (Nat.le_of_ble_eq_true rfl)) dX0_pass_103 ⟨Nat.le_of_ble_eq_true rfl, Nat.le_of_ble_eq_true rfl⟩) hS (fun q _ h => zp_F1 hD hS hA q h) (zp_F1 hD hS hA) (fun r103 u t H locs ht hvm hw hB hz1 hk1 hS1 => zo1 hB ht hP hD hk1 (zp_F1 hD hS hA) hS1 (fun hP hK1 hD hS => ?_))
          have hw : (0 : Int) ≤ r103.toInt ∧ r103.toInt ≤ (8 : Int) := hw
          obtain ⟨h103_0, h103_1⟩ := hw
          refine zc_cutc (wc := [(a1, .inr (5, [.int x81, .int a1_1, .int x10, .int a1_3, .int a1_4, .ref a1_5, .ref a1_6]))]) hP hD hS hA [1] (by decide +kernel) rfl (fun hPc hDc hFc hCc => ?_)
          have hKc := zp_K hK
          refine va_callv (va_runV (As := [.int r103]) (rest := []) ⟨hx, hb, hml, hown, hts⟩ (c_X5_startTurn l dC dI H.size a1 r103 (.int x81) (.int a1_3) (.int a1_4) (.ref a1_5) (.ref a1_6) a1_1 x10 h103_0 h103_1 ba1_1_l ba1_1_u) (cwV 1 hts gX0_pass_X5_startTurn rfl rfl rfl zd_X5_startTurn ⟨Nat.le_of_ble_eq_true rfl, Nat.le_of_ble_eq_true rfl⟩) ⟨ax_blind (fun _ _ _ _ _ => trivial), zr_5 hKc hPc (q0 := 0) rfl, ax_pre hPc hKc hDc (fun _ _ => trivial)⟩ rfl rfl hl.1 rfl (lv_room (Nat.le_of_ble_eq_true rfl)) dX0_pass_106 ⟨Nat.le_of_ble_eq_true rfl, Nat.le_of_ble_eq_true rfl⟩) hS (fun q _ h => hFc q h) hFc (fun u t H locs ht hvm hw => zx_2 (fun v106na0_1 v106na0_2 => zy_1 (fun bv106na0_1 hB hz1 hk1 hS1 => zo hB ht hS1 (fun hP1 hK1 hD1 hS => ?_))))
          refine zc_backc (w := [(a0, .inr (0, [.int a0_0, .int a0_1, .int a0_2, a0g_3, a0g_4, .int a0_5, .int a0_6, a0g_7, a0g_8, a0g_9, .ref a0_10, .ref a0_11, a0g_12, a0g_13, a0g_14])), (a1, .inr (5, [.int x81, .int v106na0_1, .int v106na0_2, .int a1_3, .int a1_4, .ref a1_5, .ref a1_6])), (a0_10, .inl (ka0_10, 9, .inl (fa0_10))), (a0_11, .inl (ka0_11, 9, .inl (fa0_11))), (a1_5, .inl (ka1_5, 9, .inl (fa1_5))), (a2, .inr (6, [.int a2_0, .int a2_1, .ref a2_2, .ref a2_3])), (a2_3, .inl (ka2_3, 3, .inl (fa2_3))), (a2_2, .inl (ka2_2, 3, .inl (fa2_2))), (a1_6, .inl (ka1_6, 9, .inl (f74)))]) hP hD hCc hk1 hFc hP1 hD1 [.inl 0, .inr 0, .inl 2, .inl 3, .inl 4, .inl 5, .inl 6, .inl 7, .inl 8] (by decide +kernel) rfl (fun hP hD => ?_)
          exact W.vret hx hb hr (fun t ht hW => ⟨⟨(), rfl, trivial, x81, v106na0_1, v106na0_2, a1_3, a1_4, fa1_5, f74, ⟨bv106na0_1.1, bv106na0_1.2⟩, by rw [ht]; exact hP, va_K.moved hW.alike hK, hD⟩, hS.F ht⟩) hS.2.2 dX0_pass_109
      · subst hw
        refine lv_if_eq (tgt := 75) hx hb dX0_pass_61 (by decide) (fun _ => ?_) (fun c61 => absurd (by decide +kernel) c61)
        refine lv_aload_n hx hb dX0_pass_75 rfl (lv_at hl 4 rfl) ?_
        refine lv_dup hx hb dX0_pass_76 rfl ?_
        refine va_get (D := (dC, dI)) (ci := 5) (v := .int a1_0) (C := RX5) (T := TX5) (N := 7) hx hb hts zi_X0_pass_5 hown hK hP 1 rfl rfl 0 (by decide) (hts (.fieldLink RX0 102 "WaxTurns$Scene" "minute" "I") (zm_X0_pass_r1 (List.mem_of_getElem? (i := 3) rfl))) (fun _ h9 => h9) rfl dX0_pass_77 ?_
        refine lv_iconst (v := 1) hx hb dX0_pass_80 zk_iconst_1 ?_
        refine lv_iadd hx hb dX0_pass_81 ?_
        refine lv_topi (fun x81 ex81 => ?_)
        refine va_put (D := (dC, dI)) (ci := 5) (v := .int x81) (ty := .int) (C := RX5) (T := TX5) (N := 7) hx hb hts zi_X0_pass_5 tyX5 tyX5_ok nmX5 hown hK hP hD hS 1 rfl rfl 0 (by decide) (hts (.fieldLink RX0 102 "WaxTurns$Scene" "minute" "I") (zm_X0_pass_r1 (List.mem_of_getElem? (i := 3) rfl))) (fun _ h9 => h9) rfl (tyX5_ok 0 (by decide)) rfl rfl (Nat.le_of_ble_eq_true rfl) dX0_pass_82 (fun H locs hP hD hS => ?_)
        refine zs_1 (y := (a1, .inr (5, [.int x81, .int a1_1, .int a1_2, .int a1_3, .int a1_4, .ref a1_5, .ref a1_6]))) hP hD rfl (fun hP hD => ?_)
        refine lv_aload_n hx hb dX0_pass_85 rfl (lv_at hl 4 rfl) ?_
        refine lv_iload hx hb dX0_pass_86 (lv_at hl 1 rfl) ?_
        refine va_put (D := (dC, dI)) (ci := 5) (v := .int x10) (ty := .int) (C := RX5) (T := TX5) (N := 7) hx hb hts zi_X0_pass_5 tyX5 tyX5_ok nmX5 hown hK hP hD hS 1 rfl rfl 2 (by decide) (hts (.fieldLink RX0 84 "WaxTurns$Scene" "spent" "I") (zm_X0_pass_r1 (List.mem_of_getElem? (i := 1) rfl))) (fun _ h9 => h9) rfl (tyX5_ok 2 (by decide)) rfl rfl (Nat.le_of_ble_eq_true rfl) dX0_pass_88 (fun H locs hP hD hS => ?_)
        refine zs_1 (y := (a1, .inr (5, [.int x81, .int a1_1, .int x10, .int a1_3, .int a1_4, .ref a1_5, .ref a1_6]))) hP hD rfl (fun hP hD => ?_)
        refine lv_iload hx hb dX0_pass_91 (lv_at hl 1 rfl) ?_
        refine lv_aload_n hx hb dX0_pass_93 rfl (lv_at hl 3 rfl) ?_
        refine va_get (D := (dC, dI)) (ci := 0) (v := .int a0_1) (C := RX0) (T := TX0) (N := 15) hx hb hts zi_X0_pass_0 hown hK hP 0 rfl rfl 1 (by decide) (hts (.fieldLink RX0 48 "WaxTurns$Hall" "span" "I") (zm_X0_pass_r1 (List.mem_of_getElem? (i := 5) rfl))) (fun _ h9 => h9) rfl dX0_pass_94 ?_
        refine lv_icmp_lt (tgt := 109) hx hb dX0_pass_97 (by decide) (fun c97 => ?_) (fun c97 => ?_)
        · have gc97 := ai_lt c97
          have u97t_x10 : x10.toInt ≤ (2147483646 : Int) := ai_lthi gc97 (ai_max a0_1)
          have l97t_a0_1 : (-2147483647 : Int) ≤ a0_1.toInt := ai_ltlo gc97 (ai_min x10)
          exact W.vret hx hb hr (fun t ht hW => ⟨⟨(), rfl, trivial, x81, a1_1, x10, a1_3, a1_4, fa1_5, fa1_6, ⟨ba1_1_l, ba1_1_u⟩, by rw [ht]; exact hP, va_K.moved hW.alike hK, hD⟩, hS.F ht⟩) hS.2.2 dX0_pass_109
        · have gc97 := ai_nlt c97
          refine lv_aload_n hx hb dX0_pass_100 rfl (lv_at hl 4 rfl) ?_
          refine lv_aload_n hx hb dX0_pass_101 rfl (lv_at hl 3 rfl) ?_
          refine lv_iload_n hx hb dX0_pass_102 rfl (lv_at hl 2 rfl) ?_
          refine va_calli (va_runV (As := [.int a1_1]) (rest := [.ref a1]) ⟨hx, hb, hml, hown, hts⟩ (c_X0_next l dC dI H.size a0 a1_1 a0_0 (.int a0_1) (.int a0_2) a0g_3 a0g_4 a0g_7 a0g_8 a0g_9 (.ref a0_10) (.ref a0_11) a0g_12 a0g_13 a0g_14 a0_5 a0_6 ba1_1_l ba1_1_u ba0_0_l ba0_0_u ba0_5_l ba0_5_u ba0_6_l ba0_6_u) (cwV 1 hts gX0_pass_X0_next rfl rfl rfl zd_X0_next ⟨Nat.le_of_ble_eq_true rfl, Nat.le_of_ble_eq_true rfl⟩) ⟨ax_blind (fun _ _ _ _ _ => trivial), zr_0 (zp_K hK) (zp_P1 hP) (q0 := 0) rfl, ax_pre (zp_P1 hP) (zp_K hK) (zp_D1 hD) (fun _ _ => trivial)⟩ rfl rfl hl.1 rfl (lv_room (Nat.le_of_ble_eq_true rfl)) dX0_pass_103 ⟨Nat.le_of_ble_eq_true rfl, Nat.le_of_ble_eq_true rfl⟩) hS (fun q _ h => zp_F1 hD hS hA q h) (zp_F1 hD hS hA) (fun r103 u t H locs ht hvm hw hB hz1 hk1 hS1 => zo1 hB ht hP hD hk1 (zp_F1 hD hS hA) hS1 (fun hP hK1 hD hS => ?_))
          have hw : (0 : Int) ≤ r103.toInt ∧ r103.toInt ≤ (8 : Int) := hw
          obtain ⟨h103_0, h103_1⟩ := hw
          refine zc_cutc (wc := [(a1, .inr (5, [.int x81, .int a1_1, .int x10, .int a1_3, .int a1_4, .ref a1_5, .ref a1_6]))]) hP hD hS hA [1] (by decide +kernel) rfl (fun hPc hDc hFc hCc => ?_)
          have hKc := zp_K hK
          refine va_callv (va_runV (As := [.int r103]) (rest := []) ⟨hx, hb, hml, hown, hts⟩ (c_X5_startTurn l dC dI H.size a1 r103 (.int x81) (.int a1_3) (.int a1_4) (.ref a1_5) (.ref a1_6) a1_1 x10 h103_0 h103_1 ba1_1_l ba1_1_u) (cwV 1 hts gX0_pass_X5_startTurn rfl rfl rfl zd_X5_startTurn ⟨Nat.le_of_ble_eq_true rfl, Nat.le_of_ble_eq_true rfl⟩) ⟨ax_blind (fun _ _ _ _ _ => trivial), zr_5 hKc hPc (q0 := 0) rfl, ax_pre hPc hKc hDc (fun _ _ => trivial)⟩ rfl rfl hl.1 rfl (lv_room (Nat.le_of_ble_eq_true rfl)) dX0_pass_106 ⟨Nat.le_of_ble_eq_true rfl, Nat.le_of_ble_eq_true rfl⟩) hS (fun q _ h => hFc q h) hFc (fun u t H locs ht hvm hw => zx_2 (fun v106na0_1 v106na0_2 => zy_1 (fun bv106na0_1 hB hz1 hk1 hS1 => zo hB ht hS1 (fun hP1 hK1 hD1 hS => ?_))))
          refine zc_backc (w := [(a0, .inr (0, [.int a0_0, .int a0_1, .int a0_2, a0g_3, a0g_4, .int a0_5, .int a0_6, a0g_7, a0g_8, a0g_9, .ref a0_10, .ref a0_11, a0g_12, a0g_13, a0g_14])), (a1, .inr (5, [.int x81, .int v106na0_1, .int v106na0_2, .int a1_3, .int a1_4, .ref a1_5, .ref a1_6])), (a0_10, .inl (ka0_10, 9, .inl (fa0_10))), (a0_11, .inl (ka0_11, 9, .inl (fa0_11))), (a1_5, .inl (ka1_5, 9, .inl (fa1_5))), (a2, .inr (6, [.int a2_0, .int a2_1, .ref a2_2, .ref a2_3])), (a2_3, .inl (ka2_3, 3, .inl (fa2_3))), (a2_2, .inl (ka2_2, 3, .inl (fa2_2))), (a1_6, .inl (ka1_6, 9, .inl (fa1_6)))]) hP hD hCc hk1 hFc hP1 hD1 [.inl 0, .inr 0, .inl 2, .inl 3, .inl 4, .inl 5, .inl 6, .inl 7, .inl 8] (by decide +kernel) rfl (fun hP hD => ?_)
          exact W.vret hx hb hr (fun t ht hW => ⟨⟨(), rfl, trivial, x81, v106na0_1, v106na0_2, a1_3, a1_4, fa1_5, fa1_6, ⟨bv106na0_1.1, bv106na0_1.2⟩, by rw [ht]; exact hP, va_K.moved hW.alike hK, hD⟩, hS.F ht⟩) hS.2.2 dX0_pass_109
end P102_safe
section P103_safe
set_option maxHeartbeats 4000000 in
set_option maxRecDepth 100000 in
theorem c_X2_addIfFit (l : Launch) (dC : Nat → ClassId) (dI : Nat → Nat → Nat) (sz : Nat) (a0 : Nat) (a1 : Nat) (a2 : Int32) (a0_0 : Int32) (a0g_1 a0g_2 a0g_4 a0g_5 a0g_6 : Value) (a0_3 : Nat) (a1_0 : Int32) (a1_1 : Int32) (a1g_2 a1g_3 a1g_4 a1g_5 a1g_6 a1g_7 a1g_8 a1g_10 a1g_11 a1g_14 : Value) (a1_9 : Int32) (a1_12 : Nat) (a1_13 : Nat) (ka0_3 : ClassId) (fa0_3 : Nat → Int32) (ka1_13 : ClassId) (fa1_13 : Nat → Int32) (ka1_12 : ClassId) (fa1_12 : Nat → Int32) (ba2_l : (0 : Int) ≤ a2.toInt) (ba2_u : a2.toInt ≤ (888 : Int)) (ba0_0_l : (0 : Int) ≤ a0_0.toInt) (ba0_0_u : a0_0.toInt ≤ (729 : Int)) (ba1_0_l : (0 : Int) ≤ a1_0.toInt) (ba1_0_u : a1_0.toInt ≤ (9 : Int)) (ba1_9_l : (0 : Int) ≤ a1_9.toInt) (ba1_9_u : a1_9.toInt ≤ (6 : Int)) (bfa0_3 : (∀ k, (0 : Int) ≤ (fa0_3 k).toInt ∧ (fa0_3 k).toInt ≤ 888 ∧ (fa0_3 k).toInt % 10 ≤ 8)) (bfa1_13 : (∀ k, (0 : Int) ≤ (fa1_13 k).toInt ∧ (fa1_13 k).toInt ≤ 999)) (m_a2 : a2.toInt % 10 ≤ 8) : zm l yX2_addIfFit wsX2_addIfFit ({ frames := 2, cells := 0, slots := 0, locals := 51 }) [.ref a0, .ref a1, .int a2] dC dI sz [(a0, .inr (2, [.int a0_0, a0g_1, a0g_2, .ref a0_3, a0g_4, a0g_5, a0g_6])), (a1, .inr (0, [.int a1_0, .int a1_1, a1g_2, a1g_3, a1g_4, a1g_5, a1g_6, a1g_7, a1g_8, .int a1_9, a1g_10, a1g_11, .ref a1_12, .ref a1_13, a1g_14])), (a0_3, .inl (ka0_3, 729, .inl (fa0_3))), (a1_13, .inl (ka1_13, 6, .inl (fa1_13))), (a1_12, .inl (ka1_12, 6, .inl (fa1_12)))] [(ka0_3, .int), (ka1_13, .int), (ka1_12, .int)] (fun A U => va_Nw (.methodLinkNest RX0 72 yX7_laterTurn RX7) U) (fun A => va_Qv (fun (_ : Unit) => True) (fun (_ : Unit) (t : State) => ∃ na0_0 : Int32, ∃ nfa0_3 : Nat → Int32, ((0 : Int) ≤ na0_0.toInt ∧ na0_0.toInt ≤ 729) ∧ (∀ k, (0 : Int) ≤ (nfa0_3 k).toInt ∧ (nfa0_3 k).toInt ≤ 888 ∧ (nfa0_3 k).toInt % 10 ≤ 8) ∧ ax_B dC dI A [(a0, .inr (2, [.int na0_0, a0g_1, a0g_2, .ref a0_3, a0g_4, a0g_5, a0g_6])), (a1, .inr (0, [.int a1_0, .int a1_1, a1g_2, a1g_3, a1g_4, a1g_5, a1g_6, a1g_7, a1g_8, .int a1_9, a1g_10, a1g_11, .ref a1_12, .ref a1_13, a1g_14])), (a0_3, .inl (ka0_3, 729, .inl (nfa0_3))), (a1_13, .inl (ka1_13, 6, .inl (fa1_13))), (a1_12, .inl (ka1_12, 6, .inl (fa1_12)))] [(ka0_3, .int), (ka1_13, .int), (ka1_12, .int)] t) A) := by
  refine zh (cc := cX2_addIfFit) (maxL := 4) (ret := none) zn_RX2 rfl (Nat.le_of_ble_eq_true rfl) (fun p e s m below meth c A ls hx hb hml hr hts (hown : s.vm.findClass RX2 = some m.cls) hlocks hA hS hP hK hD hE (hl : lv_has ls 4 [(0, .ref a0), (1, .ref a1), (2, .int a2)]) => ?_)
  have hE0 := hE
  refine ai_open (fun K hK0 => ?_)
  refine (hK0 _ _ _).mpr ?_
  refine lv_iconst (v := 0) hx hb dX2_addIfFit_0 zk_iconst_0 ?_
  refine lv_istore_n (lv' := [(3, .int 0), (0, .ref a0), (1, .ref a1), (2, .int a2)]) hx hb dX2_addIfFit_1 rfl hl (by decide) rfl (fun ls hl => ?_)
  have J2 : ∀ (n : Nat) (j2l3 : Int32) (H : Heap) (locs : List Loc) (ls : Array Slot), (7 : Int) - j2l3.toInt ≤ (n : Int) → (0 : Int) ≤ j2l3.toInt → j2l3.toInt ≤ (6 : Int) → va_P (dC, dI) vwCl [(a0, .inr (2, [.int a0_0, a0g_1, a0g_2, .ref a0_3, a0g_4, a0g_5, a0g_6])), (a1, .inr (0, [.int a1_0, .int a1_1, a1g_2, a1g_3, a1g_4, a1g_5, a1g_6, a1g_7, a1g_8, .int a1_9, a1g_10, a1g_11, .ref a1_12, .ref a1_13, a1g_14])), (a0_3, .inl (ka0_3, 729, .inl (fa0_3))), (a1_13, .inl (ka1_13, 6, .inl (fa1_13))), (a1_12, .inl (ka1_12, 6, .inl (fa1_12)))] H → va_D A [(a0, .inr (2, [.int a0_0, a0g_1, a0g_2, .ref a0_3, a0g_4, a0g_5, a0g_6])), (a1, .inr (0, [.int a1_0, .int a1_1, a1g_2, a1g_3, a1g_4, a1g_5, a1g_6, a1g_7, a1g_8, .int a1_9, a1g_10, a1g_11, .ref a1_12, .ref a1_13, a1g_14])), (a0_3, .inl (ka0_3, 729, .inl (fa0_3))), (a1_13, .inl (ka1_13, 6, .inl (fa1_13))), (a1_12, .inl (ka1_12, 6, .inl (fa1_12)))] → va_S A s.heap H locs → lv_has ls 4 [(0, .ref a0), (1, .ref a1), (2, .int a2), (3, .int j2l3)] → K H locs (F0 m 2 ls []) := by
    intro n
    induction n with
    | zero =>
      intro j2l3 H locs ls hm bj2l3_l bj2l3_u hP hD hS hl
      first | exact zg_0 hm bj2l3_u (by decide) | (have h8 := ai_min j2l3; have h9 := ai_max j2l3; exact absurd hm (by omega))
    | succ n ih2 =>
      intro j2l3 H locs ls hm bj2l3_l bj2l3_u hP hD hS hl
      refine (hK0 _ _ _).mpr ?_
      have hm2 := hm
      refine lv_iload_n hx hb dX2_addIfFit_2 rfl (lv_at hl 3 rfl) ?_
      refine lv_aload_n hx hb dX2_addIfFit_3 rfl (lv_at hl 1 rfl) ?_
      refine va_get (D := (dC, dI)) (ci := 0) (v := .int a1_9) (C := RX0) (T := TX0) (N := 15) hx hb hts zi_X2_addIfFit_0 hown hK hP 1 rfl rfl 9 (by decide) (hts (.fieldLink RX2 38 "WaxTurns$Hall" "seenCount" "I") (List.mem_cons_of_mem _ (List.mem_append_left _ (List.mem_append_left _ (List.mem_of_getElem? (i := 0) rfl))))) (fun _ h9 => h9) rfl dX2_addIfFit_4 ?_
      refine lv_icmp_ge (tgt := 37) hx hb dX2_addIfFit_7 (by decide) (fun c7 => ?_) (fun c7 => ?_)
      · have gc7 := ai_le c7
        have u7t_a1_9 : a1_9.toInt ≤ (6 : Int) := ba1_9_u
        have l7t_j2l3 : (0 : Int) ≤ j2l3.toInt := bj2l3_l
        refine lv_aload_n hx hb dX2_addIfFit_37 rfl (lv_at hl 0 rfl) ?_
        refine va_get (D := (dC, dI)) (ci := 2) (v := .int a0_0) (C := RX2) (T := TX2) (N := 7) hx hb hts zi_X2_addIfFit_2 hown hK hP 0 rfl rfl 0 (by decide) (hts (.fieldLink RX2 25 "WaxTurns$Laws" "fitCount" "I") (List.mem_cons_of_mem _ (List.mem_append_left _ (List.mem_append_left _ (List.mem_of_getElem? (i := 3) rfl))))) (fun _ h9 => h9) rfl dX2_addIfFit_38 ?_
        refine lv_sipush (v := 729) hx hb dX2_addIfFit_41 zk_sipush_729 ?_
        refine lv_icmp_ge (tgt := 67) hx hb dX2_addIfFit_44 (by decide) (fun c44 => ?_) (fun c44 => ?_)
        · have gc44 := ai_le c44
          have l44t_a0_0 : (729 : Int) ≤ a0_0.toInt := Int.le_trans zq29 gc44
          exact W.vret hx hb hr (fun t ht hW => ⟨⟨(), rfl, trivial, a0_0, fa0_3, ⟨Int.le_trans (by decide) l44t_a0_0, ba0_0_u⟩, bfa0_3, by rw [ht]; exact hP, va_K.moved hW.alike hK, hD⟩, hS.F ht⟩) hS.2.2 dX2_addIfFit_67
        · have gc44 := ai_nle c44
          have u44f_a0_0 : a0_0.toInt ≤ (728 : Int) := ai_lthi gc44 zq30
          refine lv_aload_n hx hb dX2_addIfFit_47 rfl (lv_at hl 0 rfl) ?_
          refine va_get (D := (dC, dI)) (ci := 2) (v := .ref a0_3) (C := RX2) (T := TX2) (N := 7) hx hb hts zi_X2_addIfFit_2 hown hK hP 0 rfl rfl 3 (by decide) (hts (.fieldLink RX2 9 "WaxTurns$Laws" "fitting" "[I") (List.mem_cons_of_mem _ (List.mem_append_left _ (List.mem_append_left _ (List.mem_of_getElem? (i := 4) rfl))))) (fun _ h9 => h9) rfl dX2_addIfFit_48 ?_
          refine lv_aload_n hx hb dX2_addIfFit_51 rfl (lv_at hl 0 rfl) ?_
          refine va_get (D := (dC, dI)) (ci := 2) (v := .int a0_0) (C := RX2) (T := TX2) (N := 7) hx hb hts zi_X2_addIfFit_2 hown hK hP 0 rfl rfl 0 (by decide) (hts (.fieldLink RX2 25 "WaxTurns$Laws" "fitCount" "I") (List.mem_cons_of_mem _ (List.mem_append_left _ (List.mem_append_left _ (List.mem_of_getElem? (i := 3) rfl))))) (fun _ h9 => h9) rfl dX2_addIfFit_52 ?_
          refine lv_iload_n hx hb dX2_addIfFit_55 rfl (lv_at hl 2 rfl) ?_
          refine va_iast hx hb hK hP hD hS 2 0 rfl rfl (ai_in ba0_0_l u44f_a0_0 (by decide) (by decide)) dX2_addIfFit_56 (fun H locs hP hD hS => ?_)
          obtain ⟨f56, bf56, hP, hD⟩ : ∃ f56 : Nat → Int32, (∀ k, (0 : Int) ≤ (f56 k).toInt ∧ (f56 k).toInt ≤ 888 ∧ (f56 k).toInt % 10 ≤ 8) ∧ va_P (dC, dI) vwCl [(a0, .inr (2, [.int a0_0, a0g_1, a0g_2, .ref a0_3, a0g_4, a0g_5, a0g_6])), (a1, .inr (0, [.int a1_0, .int a1_1, a1g_2, a1g_3, a1g_4, a1g_5, a1g_6, a1g_7, a1g_8, .int a1_9, a1g_10, a1g_11, .ref a1_12, .ref a1_13, a1g_14])), (a0_3, .inl (ka0_3, 729, .inl (f56))), (a1_13, .inl (ka1_13, 6, .inl (fa1_13))), (a1_12, .inl (ka1_12, 6, .inl (fa1_12)))] H ∧ va_D A [(a0, .inr (2, [.int a0_0, a0g_1, a0g_2, .ref a0_3, a0g_4, a0g_5, a0g_6])), (a1, .inr (0, [.int a1_0, .int a1_1, a1g_2, a1g_3, a1g_4, a1g_5, a1g_6, a1g_7, a1g_8, .int a1_9, a1g_10, a1g_11, .ref a1_12, .ref a1_13, a1g_14])), (a0_3, .inl (ka0_3, 729, .inl (f56))), (a1_13, .inl (ka1_13, 6, .inl (fa1_13))), (a1_12, .inl (ka1_12, 6, .inl (fa1_12)))] := ⟨_, ai_updm bfa0_3 _ ⟨ba2_l, ba2_u, m_a2⟩, hP, hD⟩
          refine lv_aload_n hx hb dX2_addIfFit_57 rfl (lv_at hl 0 rfl) ?_
          refine lv_dup hx hb dX2_addIfFit_58 rfl ?_
          refine va_get (D := (dC, dI)) (ci := 2) (v := .int a0_0) (C := RX2) (T := TX2) (N := 7) hx hb hts zi_X2_addIfFit_2 hown hK hP 0 rfl rfl 0 (by decide) (hts (.fieldLink RX2 25 "WaxTurns$Laws" "fitCount" "I") (List.mem_cons_of_mem _ (List.mem_append_left _ (List.mem_append_left _ (List.mem_of_getElem? (i := 3) rfl))))) (fun _ h9 => h9) rfl dX2_addIfFit_59 ?_
          refine lv_iconst (v := 1) hx hb dX2_addIfFit_62 zk_iconst_1 ?_
          refine lv_iadd hx hb dX2_addIfFit_63 ?_
          refine lv_topi (fun x63 ex63 => ?_)
          have qx63 : x63.toInt = a0_0.toInt + (1 : Int32).toInt := ai_add ex63 ⟨ba0_0_l, u44f_a0_0⟩ ⟨zq1, zq0⟩ (by decide) (by decide)
          have bx63 : (1 : Int) ≤ x63.toInt ∧ x63.toInt ≤ 729 := ⟨by rw [qx63]; exact Int.add_le_add ba0_0_l zq1, by rw [qx63]; exact Int.add_le_add u44f_a0_0 zq0⟩
          have wx63 : x63.toInt = a0_0.toInt + 1 := qx63
          refine va_put (D := (dC, dI)) (ci := 2) (v := .int x63) (ty := .int) (C := RX2) (T := TX2) (N := 7) hx hb hts zi_X2_addIfFit_2 tyX2 tyX2_ok nmX2 hown hK hP hD hS 0 rfl rfl 0 (by decide) (hts (.fieldLink RX2 25 "WaxTurns$Laws" "fitCount" "I") (List.mem_cons_of_mem _ (List.mem_append_left _ (List.mem_append_left _ (List.mem_of_getElem? (i := 3) rfl))))) (fun _ h9 => h9) rfl (tyX2_ok 0 (by decide)) rfl rfl (Nat.le_of_ble_eq_true rfl) dX2_addIfFit_64 (fun H locs hP hD hS => ?_)
          refine zs_0 (y := (a0, .inr (2, [.int x63, a0g_1, a0g_2, .ref a0_3, a0g_4, a0g_5, a0g_6]))) hP hD rfl (fun hP hD => ?_)
          exact W.vret hx hb hr (fun t ht hW => ⟨⟨(), rfl, trivial, x63, f56, ⟨Int.le_trans (by decide) bx63.1, bx63.2⟩, bf56, by rw [ht]; exact hP, va_K.moved hW.alike hK, hD⟩, hS.F ht⟩) hS.2.2 dX2_addIfFit_67
      · have gc7 := ai_nle c7
        have u7f_j2l3 : j2l3.toInt ≤ (5 : Int) := ai_lthi gc7 ba1_9_u
        have l7f_a1_9 : (1 : Int) ≤ a1_9.toInt := ai_ltlo gc7 bj2l3_l
        refine lv_aload_n hx hb dX2_addIfFit_10 rfl (lv_at hl 1 rfl) ?_
        refine lv_iload_n hx hb dX2_addIfFit_11 rfl (lv_at hl 2 rfl) ?_
        refine lv_aload_n hx hb dX2_addIfFit_12 rfl (lv_at hl 1 rfl) ?_
        refine va_get (D := (dC, dI)) (ci := 0) (v := .ref a1_13) (C := RX0) (T := TX0) (N := 15) hx hb hts zi_X2_addIfFit_0 hown hK hP 1 rfl rfl 13 (by decide) (hts (.fieldLink RX2 41 "WaxTurns$Hall" "seenMinutes" "[I") (List.mem_cons_of_mem _ (List.mem_append_left _ (List.mem_append_left _ (List.mem_of_getElem? (i := 1) rfl))))) (fun _ h9 => h9) rfl dX2_addIfFit_13 ?_
        refine lv_iload_n hx hb dX2_addIfFit_16 rfl (lv_at hl 3 rfl) ?_
        refine va_iald hx hb hK hP 3 1 rfl rfl (ai_in bj2l3_l u7f_j2l3 (by decide) (by decide)) dX2_addIfFit_17 ?_
        refine lv_topi (fun x17 ex17 => ?_)
        have bx17 : (0 : Int) ≤ x17.toInt ∧ x17.toInt ≤ 999 := by rw [ex17]; exact bfa1_13 _
        refine zc_cutc (wc := [(a1, .inr (0, [.int a1_0, .int a1_1, a1g_2, a1g_3, a1g_4, a1g_5, a1g_6, a1g_7, a1g_8, .int a1_9, a1g_10, a1g_11, .ref a1_12, .ref a1_13, a1g_14]))]) hP hD hS hA [1] (by decide +kernel) rfl (fun hPc hDc hFc hCc => ?_)
        have hKc := zp_K hK
        refine va_calli (va_runV (As := [.int a2, .int x17]) (rest := []) ⟨hx, hb, hml, hown, hts⟩ (c_X0_aliveByLaw l dC dI H.size a1 a2 x17 a1_0 a1_1 a1g_2 a1g_3 a1g_4 a1g_5 a1g_6 a1g_7 a1g_8 (.int a1_9) a1g_10 a1g_11 (.ref a1_12) (.ref a1_13) a1g_14 ba2_l (Int.le_trans ba2_u zq31) bx17.1 bx17.2 ba1_0_l ba1_0_u) (cwV 2 hts gX2_addIfFit_X0_aliveByLaw rfl rfl rfl zd_X0_aliveByLaw ⟨Nat.le_of_ble_eq_true rfl, Nat.le_of_ble_eq_true rfl⟩) ⟨ax_blind (fun _ _ _ _ hq => va_Nw.same rfl rfl (hq)), zr_0 hKc hPc (q0 := 0) rfl, ax_pre hPc hKc hDc (fun _ hW => va_Nw.warmM hW hE0)⟩ rfl rfl hl.1 rfl (lv_room (Nat.le_of_ble_eq_true rfl)) dX2_addIfFit_18 ⟨Nat.le_of_ble_eq_true rfl, Nat.le_of_ble_eq_true rfl⟩) hS (fun q _ h => hFc q h) hFc (fun r18 u t H locs ht hvm hw hB hz1 hk1 hS1 => zo hB ht hS1 (fun hP1 hK1 hD1 hS => ?_))
        refine zc_backc (w := [(a0, .inr (2, [.int a0_0, a0g_1, a0g_2, .ref a0_3, a0g_4, a0g_5, a0g_6])), (a1, .inr (0, [.int a1_0, .int a1_1, a1g_2, a1g_3, a1g_4, a1g_5, a1g_6, a1g_7, a1g_8, .int a1_9, a1g_10, a1g_11, .ref a1_12, .ref a1_13, a1g_14])), (a0_3, .inl (ka0_3, 729, .inl (fa0_3))), (a1_13, .inl (ka1_13, 6, .inl (fa1_13))), (a1_12, .inl (ka1_12, 6, .inl (fa1_12)))]) hP hD hCc hk1 hFc hP1 hD1 [.inl 0, .inr 0, .inl 2, .inl 3, .inl 4] (by decide +kernel) rfl (fun hP hD => ?_)
        have hw : (0 : Int) ≤ r18.toInt ∧ r18.toInt ≤ (9 : Int) := hw
        obtain ⟨h18_0, h18_1⟩ := hw
        refine lv_aload_n hx hb dX2_addIfFit_21 rfl (lv_at hl 1 rfl) ?_
        refine va_get (D := (dC, dI)) (ci := 0) (v := .ref a1_12) (C := RX0) (T := TX0) (N := 15) hx hb hts zi_X2_addIfFit_0 hown hK hP 1 rfl rfl 12 (by decide) (hts (.fieldLink RX2 48 "WaxTurns$Hall" "seenFigures" "[I") (List.mem_cons_of_mem _ (List.mem_append_left _ (List.mem_append_left _ (List.mem_of_getElem? (i := 2) rfl))))) (fun _ h9 => h9) rfl dX2_addIfFit_22 ?_
        refine lv_iload_n hx hb dX2_addIfFit_25 rfl (lv_at hl 3 rfl) ?_
        refine va_iald hx hb hK hP 4 2 rfl rfl (ai_in bj2l3_l u7f_j2l3 (by decide) (by decide)) dX2_addIfFit_26 ?_
        refine lv_topi (fun x26 ex26 => ?_)
        refine lv_icmp_eq (tgt := 31) hx hb dX2_addIfFit_27 (by decide) (fun c27 => ?_) (fun c27 => ?_)
        · have gc27 := ai_eq c27
          have u27t_x26 : x26.toInt ≤ (9 : Int) := Int.le_trans (Int.le_of_eq gc27.symm) h18_1
          have l27t_x26 : (0 : Int) ≤ x26.toInt := Int.le_trans h18_0 (Int.le_of_eq gc27)
          obtain ⟨x31, ex31⟩ : ∃ y : Int32, y = j2l3 + Int32.ofInt 1 := ⟨_, rfl⟩
          have qx31 : x31.toInt = j2l3.toInt + 1 := ai_inc ex31 (by decide) (by decide) u7f_j2l3 (by decide)
          have bx31 : (1 : Int) ≤ x31.toInt ∧ x31.toInt ≤ 6 := ⟨by rw [qx31]; exact Int.add_le_add bj2l3_l (Int.le_refl _), by rw [qx31]; exact Int.add_le_add u7f_j2l3 (Int.le_refl _)⟩
          refine lv_iinc (v := x31) (lv' := [(3, .int x31), (0, .ref a0), (1, .ref a1), (2, .int a2)]) hx hb dX2_addIfFit_31 hl (k := 3) rfl ex31.symm (by decide) rfl (fun ls hl => ?_)
          refine lv_goto (tgt := 2) hx hb dX2_addIfFit_34 (by decide) ?_
          exact (hK0 _ _ _).mp (ih2 x31 _ _ _ (by first | exact zg_s hm2 qx31 | (have h0 := qx31; omega)) (Int.le_trans zq4 bx31.1) bx31.2 hP hD hS (lv_sub hl [1, 2, 3, 0] rfl))
        · have gc27 := ai_ne c27
          exact W.vret hx hb hr (fun t ht hW => ⟨⟨(), rfl, trivial, a0_0, fa0_3, ⟨ba0_0_l, ba0_0_u⟩, bfa0_3, by rw [ht]; exact hP, va_K.moved hW.alike hK, hD⟩, hS.F ht⟩) hS.2.2 dX2_addIfFit_30
  exact (hK0 _ _ _).mp (J2 7 0 _ _ _ (by first | decide +kernel | (have h1 : (0 : Int) ≤ (0 : Int32).toInt := zq5; have h2 : (0 : Int32).toInt ≤ (0 : Int) := zq6; omega)) zq5 (Int.le_trans zq6 zq17) hP hD hS (lv_sub hl [1, 2, 3, 0] rfl))

set_option maxHeartbeats 4000000 in
set_option maxRecDepth 100000 in
theorem c_X2_list (l : Launch) (dC : Nat → ClassId) (dI : Nat → Nat → Nat) (sz : Nat) (a0 : Nat) (a1 : Nat) (a0_0 : Int32) (a0g_1 a0g_2 a0g_4 a0g_6 : Value) (a0_3 : Nat) (a0_5 : Int32) (a1_0 : Int32) (a1_1 : Int32) (a1g_2 a1g_3 a1g_4 a1g_5 a1g_6 a1g_7 a1g_8 a1g_10 a1g_11 a1g_14 : Value) (a1_9 : Int32) (a1_12 : Nat) (a1_13 : Nat) (ka0_3 : ClassId) (fa0_3 : Nat → Int32) (ka1_13 : ClassId) (fa1_13 : Nat → Int32) (ka1_12 : ClassId) (fa1_12 : Nat → Int32) (ba0_0_l : (0 : Int) ≤ a0_0.toInt) (ba0_0_u : a0_0.toInt ≤ (729 : Int)) (ba0_5_l : (0 : Int) ≤ a0_5.toInt) (ba0_5_u : a0_5.toInt ≤ (1 : Int)) (ba1_0_l : (0 : Int) ≤ a1_0.toInt) (ba1_0_u : a1_0.toInt ≤ (9 : Int)) (ba1_9_l : (0 : Int) ≤ a1_9.toInt) (ba1_9_u : a1_9.toInt ≤ (6 : Int)) (bfa0_3 : (∀ k, (0 : Int) ≤ (fa0_3 k).toInt ∧ (fa0_3 k).toInt ≤ 888 ∧ (fa0_3 k).toInt % 10 ≤ 8)) (bfa1_13 : (∀ k, (0 : Int) ≤ (fa1_13 k).toInt ∧ (fa1_13 k).toInt ≤ 999)) : zm l yX2_list wsX2_list ({ frames := 3, cells := 0, slots := 0, locals := 74 }) [.ref a0, .ref a1] dC dI sz [(a0, .inr (2, [.int a0_0, a0g_1, a0g_2, .ref a0_3, a0g_4, .int a0_5, a0g_6])), (a1, .inr (0, [.int a1_0, .int a1_1, a1g_2, a1g_3, a1g_4, a1g_5, a1g_6, a1g_7, a1g_8, .int a1_9, a1g_10, a1g_11, .ref a1_12, .ref a1_13, a1g_14])), (a0_3, .inl (ka0_3, 729, .inl (fa0_3))), (a1_13, .inl (ka1_13, 6, .inl (fa1_13))), (a1_12, .inl (ka1_12, 6, .inl (fa1_12)))] [(ka0_3, .int), (ka1_13, .int), (ka1_12, .int)] (fun A U => va_Nw (.methodLinkNest RX0 72 yX7_laterTurn RX7) U) (fun A => va_Qv (fun (_ : Unit) => True) (fun (_ : Unit) (t : State) => ∃ na0_0 : Int32, ∃ na0_5 : Int32, ∃ nfa0_3 : Nat → Int32, ((0 : Int) ≤ na0_0.toInt ∧ na0_0.toInt ≤ 729) ∧ ((0 : Int) ≤ na0_5.toInt ∧ na0_5.toInt ≤ 1) ∧ (∀ k, (0 : Int) ≤ (nfa0_3 k).toInt ∧ (nfa0_3 k).toInt ≤ 888 ∧ (nfa0_3 k).toInt % 10 ≤ 8) ∧ ax_B dC dI A [(a0, .inr (2, [.int na0_0, a0g_1, a0g_2, .ref a0_3, a0g_4, .int na0_5, a0g_6])), (a1, .inr (0, [.int a1_0, .int a1_1, a1g_2, a1g_3, a1g_4, a1g_5, a1g_6, a1g_7, a1g_8, .int a1_9, a1g_10, a1g_11, .ref a1_12, .ref a1_13, a1g_14])), (a0_3, .inl (ka0_3, 729, .inl (nfa0_3))), (a1_13, .inl (ka1_13, 6, .inl (fa1_13))), (a1_12, .inl (ka1_12, 6, .inl (fa1_12)))] [(ka0_3, .int), (ka1_13, .int), (ka1_12, .int)] t) A) := by
  refine zh (cc := cX2_list) (maxL := 5) (ret := none) zn_RX2 rfl (Nat.le_of_ble_eq_true rfl) (fun p e s m below meth c A ls hx hb hml hr hts (hown : s.vm.findClass RX2 = some m.cls) hlocks hA hS hP hK hD hE (hl : lv_has ls 5 [(0, .ref a0), (1, .ref a1)]) => ?_)
  have hE0 := hE
  refine ai_open (fun K hK0 => ?_)
  refine (hK0 _ _ _).mpr ?_
  refine lv_aload_n hx hb dX2_list_0 rfl (lv_at hl 0 rfl) ?_
  refine va_get (D := (dC, dI)) (ci := 2) (v := .int a0_5) (C := RX2) (T := TX2) (N := 7) hx hb hts zi_X2_list_2 hown hK hP 0 rfl rfl 5 (by decide) (hts (.fieldLink RX2 18 "WaxTurns$Laws" "listed" "Z") (List.mem_cons_of_mem _ (List.mem_append_left _ (List.mem_append_left _ (List.mem_of_getElem? (i := 0) rfl))))) (fun _ h9 => h9) rfl dX2_list_1 ?_
  refine lv_if_eq (tgt := 8) hx hb dX2_list_4 (by decide) (fun c4 => ?_) (fun c4 => ?_)
  · have gc4 := ai_eq c4
    have u4t_a0_5 : a0_5.toInt ≤ (0 : Int) := Int.le_trans (Int.le_of_eq gc4) zq6
    have l4t_a0_5 : (0 : Int) ≤ a0_5.toInt := ba0_5_l
    refine lv_aload_n hx hb dX2_list_8 rfl (lv_at hl 0 rfl) ?_
    refine lv_iconst (v := 1) hx hb dX2_list_9 zk_iconst_1 ?_
    refine va_put (D := (dC, dI)) (ci := 2) (v := .int 1) (ty := .boolean) (C := RX2) (T := TX2) (N := 7) hx hb hts zi_X2_list_2 tyX2 tyX2_ok nmX2 hown hK hP hD hS 0 rfl rfl 5 (by decide) (hts (.fieldLink RX2 18 "WaxTurns$Laws" "listed" "Z") (List.mem_cons_of_mem _ (List.mem_append_left _ (List.mem_append_left _ (List.mem_of_getElem? (i := 0) rfl))))) (fun _ h9 => h9) rfl (tyX2_ok 5 (by decide)) rfl rfl (Nat.le_of_ble_eq_true rfl) dX2_list_10 (fun H locs hP hD hS => ?_)
    refine zs_0 (y := (a0, .inr (2, [.int a0_0, a0g_1, a0g_2, .ref a0_3, a0g_4, .int 1, a0g_6]))) hP hD rfl (fun hP hD => ?_)
    refine lv_aload_n hx hb dX2_list_13 rfl (lv_at hl 0 rfl) ?_
    refine lv_iconst (v := 0) hx hb dX2_list_14 zk_iconst_0 ?_
    refine va_put (D := (dC, dI)) (ci := 2) (v := .int 0) (ty := .int) (C := RX2) (T := TX2) (N := 7) hx hb hts zi_X2_list_2 tyX2 tyX2_ok nmX2 hown hK hP hD hS 0 rfl rfl 0 (by decide) (hts (.fieldLink RX2 25 "WaxTurns$Laws" "fitCount" "I") (List.mem_cons_of_mem _ (List.mem_append_left _ (List.mem_append_left _ (List.mem_of_getElem? (i := 1) rfl))))) (fun _ h9 => h9) rfl (tyX2_ok 0 (by decide)) rfl rfl (Nat.le_of_ble_eq_true rfl) dX2_list_15 (fun H locs hP hD hS => ?_)
    refine zs_0 (y := (a0, .inr (2, [.int 0, a0g_1, a0g_2, .ref a0_3, a0g_4, .int 1, a0g_6]))) hP hD rfl (fun hP hD => ?_)
    refine lv_iconst (v := 0) hx hb dX2_list_18 zk_iconst_0 ?_
    refine lv_istore_n (lv' := [(2, .int 0), (0, .ref a0), (1, .ref a1)]) hx hb dX2_list_19 rfl hl (by decide) rfl (fun ls hl => ?_)
    have J20 : ∀ (n : Nat) (j20l2 : Int32) (j20a0_0 : Int32) (j20a0_3_a : Nat → Int32) (H : Heap) (locs : List Loc) (ls : Array Slot), (10 : Int) - j20l2.toInt ≤ (n : Int) → (0 : Int) ≤ j20l2.toInt → j20l2.toInt ≤ (9 : Int) → (0 : Int) ≤ j20a0_0.toInt → j20a0_0.toInt ≤ (729 : Int) → (∀ k, (0 : Int) ≤ (j20a0_3_a k).toInt ∧ (j20a0_3_a k).toInt ≤ 888 ∧ (j20a0_3_a k).toInt % 10 ≤ 8) → va_P (dC, dI) vwCl [(a0, .inr (2, [.int j20a0_0, a0g_1, a0g_2, .ref a0_3, a0g_4, .int 1, a0g_6])), (a1, .inr (0, [.int a1_0, .int a1_1, a1g_2, a1g_3, a1g_4, a1g_5, a1g_6, a1g_7, a1g_8, .int a1_9, a1g_10, a1g_11, .ref a1_12, .ref a1_13, a1g_14])), (a0_3, .inl (ka0_3, 729, .inl (j20a0_3_a))), (a1_13, .inl (ka1_13, 6, .inl (fa1_13))), (a1_12, .inl (ka1_12, 6, .inl (fa1_12)))] H → va_D A [(a0, .inr (2, [.int j20a0_0, a0g_1, a0g_2, .ref a0_3, a0g_4, .int 1, a0g_6])), (a1, .inr (0, [.int a1_0, .int a1_1, a1g_2, a1g_3, a1g_4, a1g_5, a1g_6, a1g_7, a1g_8, .int a1_9, a1g_10, a1g_11, .ref a1_12, .ref a1_13, a1g_14])), (a0_3, .inl (ka0_3, 729, .inl (j20a0_3_a))), (a1_13, .inl (ka1_13, 6, .inl (fa1_13))), (a1_12, .inl (ka1_12, 6, .inl (fa1_12)))] → va_S A s.heap H locs → lv_has ls 5 [(0, .ref a0), (1, .ref a1), (2, .int j20l2)] → K H locs (F0 m 20 ls []) := by
      intro n
      induction n with
      | zero =>
        intro j20l2 j20a0_0 j20a0_3_a H locs ls hm bj20l2_l bj20l2_u bj20a0_0_l bj20a0_0_u bj20a0_3_a hP hD hS hl
        first | exact zg_0 hm bj20l2_u (by decide) | (have h8 := ai_min j20l2; have h9 := ai_max j20l2; exact absurd hm (by omega))
      | succ n ih20 =>
        intro j20l2 j20a0_0 j20a0_3_a H locs ls hm bj20l2_l bj20l2_u bj20a0_0_l bj20a0_0_u bj20a0_3_a hP hD hS hl
        refine (hK0 _ _ _).mpr ?_
        have hm20 := hm
        refine lv_iload_n hx hb dX2_list_20 rfl (lv_at hl 2 rfl) ?_
        refine lv_aload_n hx hb dX2_list_21 rfl (lv_at hl 1 rfl) ?_
        refine va_get (D := (dC, dI)) (ci := 0) (v := .int a1_0) (C := RX0) (T := TX0) (N := 15) hx hb hts zi_X2_list_0 hown hK hP 1 rfl rfl 0 (by decide) (hts (.fieldLink RX2 29 "WaxTurns$Hall" "figures" "I") (List.mem_cons_of_mem _ (List.mem_append_left _ (List.mem_append_left _ (List.mem_of_getElem? (i := 2) rfl))))) (fun _ h9 => h9) rfl dX2_list_22 ?_
        refine lv_icmp_ge (tgt := 85) hx hb dX2_list_25 (by decide) (fun c25 => ?_) (fun c25 => ?_)
        · have gc25 := ai_le c25
          have u25t_a1_0 : a1_0.toInt ≤ (9 : Int) := ba1_0_u
          have l25t_j20l2 : (0 : Int) ≤ j20l2.toInt := bj20l2_l
          exact W.vret hx hb hr (fun t ht hW => ⟨⟨(), rfl, trivial, j20a0_0, 1, j20a0_3_a, ⟨bj20a0_0_l, bj20a0_0_u⟩, ⟨Int.le_trans (by decide) zq1, zq0⟩, bj20a0_3_a, by rw [ht]; exact hP, va_K.moved hW.alike hK, hD⟩, hS.F ht⟩) hS.2.2 dX2_list_85
        · have gc25 := ai_nle c25
          have u25f_j20l2 : j20l2.toInt ≤ (8 : Int) := ai_lthi gc25 ba1_0_u
          have l25f_a1_0 : (1 : Int) ≤ a1_0.toInt := ai_ltlo gc25 bj20l2_l
          refine lv_iconst (v := 0) hx hb dX2_list_28 zk_iconst_0 ?_
          refine lv_istore_n (lv' := [(3, .int 0), (0, .ref a0), (1, .ref a1), (2, .int j20l2)]) hx hb dX2_list_29 rfl hl (by decide) rfl (fun ls hl => ?_)
          have J30 : ∀ (n : Nat) (j30l3 : Int32) (j30a0_0 : Int32) (j30a0_3_a : Nat → Int32) (H : Heap) (locs : List Loc) (ls : Array Slot), (10 : Int) - j30l3.toInt ≤ (n : Int) → (0 : Int) ≤ j30l3.toInt → j30l3.toInt ≤ (9 : Int) → (0 : Int) ≤ j30a0_0.toInt → j30a0_0.toInt ≤ (729 : Int) → (∀ k, (0 : Int) ≤ (j30a0_3_a k).toInt ∧ (j30a0_3_a k).toInt ≤ 888 ∧ (j30a0_3_a k).toInt % 10 ≤ 8) → va_P (dC, dI) vwCl [(a0, .inr (2, [.int j30a0_0, a0g_1, a0g_2, .ref a0_3, a0g_4, .int 1, a0g_6])), (a1, .inr (0, [.int a1_0, .int a1_1, a1g_2, a1g_3, a1g_4, a1g_5, a1g_6, a1g_7, a1g_8, .int a1_9, a1g_10, a1g_11, .ref a1_12, .ref a1_13, a1g_14])), (a0_3, .inl (ka0_3, 729, .inl (j30a0_3_a))), (a1_13, .inl (ka1_13, 6, .inl (fa1_13))), (a1_12, .inl (ka1_12, 6, .inl (fa1_12)))] H → va_D A [(a0, .inr (2, [.int j30a0_0, a0g_1, a0g_2, .ref a0_3, a0g_4, .int 1, a0g_6])), (a1, .inr (0, [.int a1_0, .int a1_1, a1g_2, a1g_3, a1g_4, a1g_5, a1g_6, a1g_7, a1g_8, .int a1_9, a1g_10, a1g_11, .ref a1_12, .ref a1_13, a1g_14])), (a0_3, .inl (ka0_3, 729, .inl (j30a0_3_a))), (a1_13, .inl (ka1_13, 6, .inl (fa1_13))), (a1_12, .inl (ka1_12, 6, .inl (fa1_12)))] → va_S A s.heap H locs → lv_has ls 5 [(0, .ref a0), (1, .ref a1), (2, .int j20l2), (3, .int j30l3)] → K H locs (F0 m 30 ls []) := by
            intro n
            induction n with
            | zero =>
              intro j30l3 j30a0_0 j30a0_3_a H locs ls hm bj30l3_l bj30l3_u bj30a0_0_l bj30a0_0_u bj30a0_3_a hP hD hS hl
              first | exact zg_0 hm bj30l3_u (by decide) | (have h8 := ai_min j30l3; have h9 := ai_max j30l3; exact absurd hm (by omega))
            | succ n ih30 =>
              intro j30l3 j30a0_0 j30a0_3_a H locs ls hm bj30l3_l bj30l3_u bj30a0_0_l bj30a0_0_u bj30a0_3_a hP hD hS hl
              refine (hK0 _ _ _).mpr ?_
              have hm30 := hm
              refine lv_iload_n hx hb dX2_list_30 rfl (lv_at hl 3 rfl) ?_
              refine lv_aload_n hx hb dX2_list_31 rfl (lv_at hl 1 rfl) ?_
              refine va_get (D := (dC, dI)) (ci := 0) (v := .int a1_0) (C := RX0) (T := TX0) (N := 15) hx hb hts zi_X2_list_0 hown hK hP 1 rfl rfl 0 (by decide) (hts (.fieldLink RX2 29 "WaxTurns$Hall" "figures" "I") (List.mem_cons_of_mem _ (List.mem_append_left _ (List.mem_append_left _ (List.mem_of_getElem? (i := 2) rfl))))) (fun _ h9 => h9) rfl dX2_list_32 ?_
              refine lv_icmp_ge (tgt := 79) hx hb dX2_list_35 (by decide) (fun c35 => ?_) (fun c35 => ?_)
              · have gc35 := ai_le c35
                have u35t_a1_0 : a1_0.toInt ≤ (9 : Int) := ba1_0_u
                have l35t_j30l3 : (1 : Int) ≤ j30l3.toInt := Int.le_trans l25f_a1_0 gc35
                obtain ⟨x79, ex79⟩ : ∃ y : Int32, y = j20l2 + Int32.ofInt 1 := ⟨_, rfl⟩
                have qx79 : x79.toInt = j20l2.toInt + 1 := ai_inc ex79 (by decide) (by decide) u25f_j20l2 (by decide)
                have bx79 : (1 : Int) ≤ x79.toInt ∧ x79.toInt ≤ 9 := ⟨by rw [qx79]; exact Int.add_le_add bj20l2_l (Int.le_refl _), by rw [qx79]; exact Int.add_le_add u25f_j20l2 (Int.le_refl _)⟩
                refine lv_iinc (v := x79) (lv' := [(2, .int x79), (0, .ref a0), (1, .ref a1), (3, .int j30l3)]) hx hb dX2_list_79 hl (k := 2) rfl ex79.symm (by decide) rfl (fun ls hl => ?_)
                refine lv_goto (tgt := 20) hx hb dX2_list_82 (by decide) ?_
                exact (hK0 _ _ _).mp (ih20 x79 j30a0_0 j30a0_3_a _ _ _ (by first | exact zg_s hm20 qx79 | (have h0 := qx79; omega)) (Int.le_trans zq4 bx79.1) bx79.2 bj30a0_0_l bj30a0_0_u bj30a0_3_a hP hD hS (lv_sub hl [1, 2, 0] rfl))
              · have gc35 := ai_nle c35
                have u35f_j30l3 : j30l3.toInt ≤ (8 : Int) := ai_lthi gc35 ba1_0_u
                have l35f_a1_0 : (1 : Int) ≤ a1_0.toInt := l25f_a1_0
                refine lv_iconst (v := 0) hx hb dX2_list_38 zk_iconst_0 ?_
                refine lv_istore (lv' := [(4, .int 0), (0, .ref a0), (1, .ref a1), (2, .int j20l2), (3, .int j30l3)]) hx hb dX2_list_39 hl (by decide) rfl (fun ls hl => ?_)
                have J41 : ∀ (n : Nat) (j41l4 : Int32) (j41a0_0 : Int32) (j41a0_3_a : Nat → Int32) (H : Heap) (locs : List Loc) (ls : Array Slot), (10 : Int) - j41l4.toInt ≤ (n : Int) → (0 : Int) ≤ j41l4.toInt → j41l4.toInt ≤ (9 : Int) → (0 : Int) ≤ j41a0_0.toInt → j41a0_0.toInt ≤ (729 : Int) → (∀ k, (0 : Int) ≤ (j41a0_3_a k).toInt ∧ (j41a0_3_a k).toInt ≤ 888 ∧ (j41a0_3_a k).toInt % 10 ≤ 8) → va_P (dC, dI) vwCl [(a0, .inr (2, [.int j41a0_0, a0g_1, a0g_2, .ref a0_3, a0g_4, .int 1, a0g_6])), (a1, .inr (0, [.int a1_0, .int a1_1, a1g_2, a1g_3, a1g_4, a1g_5, a1g_6, a1g_7, a1g_8, .int a1_9, a1g_10, a1g_11, .ref a1_12, .ref a1_13, a1g_14])), (a0_3, .inl (ka0_3, 729, .inl (j41a0_3_a))), (a1_13, .inl (ka1_13, 6, .inl (fa1_13))), (a1_12, .inl (ka1_12, 6, .inl (fa1_12)))] H → va_D A [(a0, .inr (2, [.int j41a0_0, a0g_1, a0g_2, .ref a0_3, a0g_4, .int 1, a0g_6])), (a1, .inr (0, [.int a1_0, .int a1_1, a1g_2, a1g_3, a1g_4, a1g_5, a1g_6, a1g_7, a1g_8, .int a1_9, a1g_10, a1g_11, .ref a1_12, .ref a1_13, a1g_14])), (a0_3, .inl (ka0_3, 729, .inl (j41a0_3_a))), (a1_13, .inl (ka1_13, 6, .inl (fa1_13))), (a1_12, .inl (ka1_12, 6, .inl (fa1_12)))] → va_S A s.heap H locs → lv_has ls 5 [(0, .ref a0), (1, .ref a1), (2, .int j20l2), (3, .int j30l3), (4, .int j41l4)] → K H locs (F0 m 41 ls []) := by
                  intro n
                  induction n with
                  | zero =>
                    intro j41l4 j41a0_0 j41a0_3_a H locs ls hm bj41l4_l bj41l4_u bj41a0_0_l bj41a0_0_u bj41a0_3_a hP hD hS hl
                    first | exact zg_0 hm bj41l4_u (by decide) | (have h8 := ai_min j41l4; have h9 := ai_max j41l4; exact absurd hm (by omega))
                  | succ n ih41 =>
                    intro j41l4 j41a0_0 j41a0_3_a H locs ls hm bj41l4_l bj41l4_u bj41a0_0_l bj41a0_0_u bj41a0_3_a hP hD hS hl
                    refine (hK0 _ _ _).mpr ?_
                    have hm41 := hm
                    refine lv_iload hx hb dX2_list_41 (lv_at hl 4 rfl) ?_
                    refine lv_aload_n hx hb dX2_list_43 rfl (lv_at hl 1 rfl) ?_
                    refine va_get (D := (dC, dI)) (ci := 0) (v := .int a1_0) (C := RX0) (T := TX0) (N := 15) hx hb hts zi_X2_list_0 hown hK hP 1 rfl rfl 0 (by decide) (hts (.fieldLink RX2 29 "WaxTurns$Hall" "figures" "I") (List.mem_cons_of_mem _ (List.mem_append_left _ (List.mem_append_left _ (List.mem_of_getElem? (i := 2) rfl))))) (fun _ h9 => h9) rfl dX2_list_44 ?_
                    refine lv_icmp_ge (tgt := 73) hx hb dX2_list_47 (by decide) (fun c47 => ?_) (fun c47 => ?_)
                    · have gc47 := ai_le c47
                      have u47t_a1_0 : a1_0.toInt ≤ (9 : Int) := ba1_0_u
                      have l47t_j41l4 : (1 : Int) ≤ j41l4.toInt := Int.le_trans l35f_a1_0 gc47
                      obtain ⟨x73, ex73⟩ : ∃ y : Int32, y = j30l3 + Int32.ofInt 1 := ⟨_, rfl⟩
                      have qx73 : x73.toInt = j30l3.toInt + 1 := ai_inc ex73 (by decide) (by decide) u35f_j30l3 (by decide)
                      have bx73 : (1 : Int) ≤ x73.toInt ∧ x73.toInt ≤ 9 := ⟨by rw [qx73]; exact Int.add_le_add bj30l3_l (Int.le_refl _), by rw [qx73]; exact Int.add_le_add u35f_j30l3 (Int.le_refl _)⟩
                      refine lv_iinc (v := x73) (lv' := [(3, .int x73), (0, .ref a0), (1, .ref a1), (2, .int j20l2), (4, .int j41l4)]) hx hb dX2_list_73 hl (k := 3) rfl ex73.symm (by decide) rfl (fun ls hl => ?_)
                      refine lv_goto (tgt := 30) hx hb dX2_list_76 (by decide) ?_
                      exact (hK0 _ _ _).mp (ih30 x73 j41a0_0 j41a0_3_a _ _ _ (by first | exact zg_s hm30 qx73 | (have h0 := qx73; omega)) (Int.le_trans zq4 bx73.1) bx73.2 bj41a0_0_l bj41a0_0_u bj41a0_3_a hP hD hS (lv_sub hl [1, 2, 3, 0] rfl))
                    · have gc47 := ai_nle c47
                      have u47f_j41l4 : j41l4.toInt ≤ (8 : Int) := ai_lthi gc47 ba1_0_u
                      have l47f_a1_0 : (1 : Int) ≤ a1_0.toInt := l35f_a1_0
                      refine lv_aload_n hx hb dX2_list_50 rfl (lv_at hl 0 rfl) ?_
                      refine lv_aload_n hx hb dX2_list_51 rfl (lv_at hl 1 rfl) ?_
                      refine lv_bipush (v := 100) hx hb dX2_list_52 zk_bipush_100 ?_
                      refine lv_iload_n hx hb dX2_list_54 rfl (lv_at hl 2 rfl) ?_
                      refine lv_imul hx hb dX2_list_55 ?_
                      refine lv_topi (fun x55 ex55 => ?_)
                      have qx55 : x55.toInt = (100 : Int32).toInt * j20l2.toInt ∧ (0 : Int) ≤ x55.toInt ∧ x55.toInt ≤ 800 := ai_mul ex55 ⟨zq24, zq32⟩ ⟨bj20l2_l, u25f_j20l2⟩ (by decide) (by decide) zq33
                      have wx55 : x55.toInt = 100 * j20l2.toInt := qx55.1
                      refine lv_bipush (v := 10) hx hb dX2_list_56 zk_bipush_10 ?_
                      refine lv_iload_n hx hb dX2_list_58 rfl (lv_at hl 3 rfl) ?_
                      refine lv_imul hx hb dX2_list_59 ?_
                      refine lv_topi (fun x59 ex59 => ?_)
                      have qx59 : x59.toInt = (10 : Int32).toInt * j30l3.toInt ∧ (0 : Int) ≤ x59.toInt ∧ x59.toInt ≤ 80 := ai_mul ex59 ⟨zq26, zq27⟩ ⟨bj30l3_l, u35f_j30l3⟩ (by decide) (by decide) zq34
                      have wx59 : x59.toInt = 10 * j30l3.toInt := qx59.1
                      refine lv_iadd hx hb dX2_list_60 ?_
                      refine lv_topi (fun x60 ex60 => ?_)
                      have qx60 : x60.toInt = x55.toInt + x59.toInt := ai_add ex60 ⟨qx55.2.1, qx55.2.2⟩ ⟨qx59.2.1, qx59.2.2⟩ (by decide) (by decide)
                      have bx60 : (0 : Int) ≤ x60.toInt ∧ x60.toInt ≤ 880 := ⟨by rw [qx60]; exact Int.add_le_add qx55.2.1 qx59.2.1, by rw [qx60]; exact Int.add_le_add qx55.2.2 qx59.2.2⟩
                      refine lv_iload hx hb dX2_list_61 (lv_at hl 4 rfl) ?_
                      refine lv_iadd hx hb dX2_list_63 ?_
                      refine lv_topi (fun x63 ex63 => ?_)
                      have qx63 : x63.toInt = x60.toInt + j41l4.toInt := ai_add ex63 ⟨bx60.1, bx60.2⟩ ⟨bj41l4_l, u47f_j41l4⟩ (by decide) (by decide)
                      have bx63 : (0 : Int) ≤ x63.toInt ∧ x63.toInt ≤ 888 := ⟨by rw [qx63]; exact Int.add_le_add bx60.1 bj41l4_l, by rw [qx63]; exact Int.add_le_add bx60.2 u47f_j41l4⟩
                      have hKc := hK.sub (tys' := [(ka0_3, .int), (ka1_13, .int), (ka1_12, .int)]) [0, 1, 2] rfl
                      refine va_callv (va_runV (As := [.ref a1, .int x63]) (rest := []) ⟨hx, hb, hml, hown, hts⟩ (c_X2_addIfFit l dC dI H.size a0 a1 x63 j41a0_0 a0g_1 a0g_2 a0g_4 (.int 1) a0g_6 a0_3 a1_0 a1_1 a1g_2 a1g_3 a1g_4 a1g_5 a1g_6 a1g_7 a1g_8 a1g_10 a1g_11 a1g_14 a1_9 a1_12 a1_13 ka0_3 j41a0_3_a ka1_13 fa1_13 ka1_12 fa1_12 bx63.1 bx63.2 bj41a0_0_l bj41a0_0_u (Int.le_trans zq4 l47f_a1_0) ba1_0_u ba1_9_l ba1_9_u bj41a0_3_a bfa1_13 (by omega)) (cwV 2 hts gX2_list_X2_addIfFit rfl rfl rfl zd_X2_addIfFit ⟨Nat.le_of_ble_eq_true rfl, Nat.le_of_ble_eq_true rfl⟩) ⟨ax_blind (fun _ _ _ _ hq => va_Nw.same rfl rfl (hq)), zr_2 hKc (zp_P5 hP) (q0 := 0) rfl, ax_pre (zp_P5 hP) hKc (zp_D5 hD) (fun _ hW => va_Nw.warmM hW hE0)⟩ rfl rfl hl.1 rfl (lv_room (Nat.le_of_ble_eq_true rfl)) dX2_list_64 ⟨Nat.le_of_ble_eq_true rfl, Nat.le_of_ble_eq_true rfl⟩) hS (fun q _ h => zp_F5 hD hS hA q h) (zp_F5 hD hS hA) (fun u t H locs ht hvm hw => zx_2 (fun v64na0_0 v64nfa0_3 => zy_2 (fun bv64na0_0 bv64nfa0_3 hB hz1 hk1 hS1 => zo5 hB ht hP hD hk1 (zp_F5 hD hS hA) hS1 (fun hP hK1 hD hS => ?_))))
                      obtain ⟨x67, ex67⟩ : ∃ y : Int32, y = j41l4 + Int32.ofInt 1 := ⟨_, rfl⟩
                      have qx67 : x67.toInt = j41l4.toInt + 1 := ai_inc ex67 (by decide) (by decide) u47f_j41l4 (by decide)
                      have bx67 : (1 : Int) ≤ x67.toInt ∧ x67.toInt ≤ 9 := ⟨by rw [qx67]; exact Int.add_le_add bj41l4_l (Int.le_refl _), by rw [qx67]; exact Int.add_le_add u47f_j41l4 (Int.le_refl _)⟩
                      refine lv_iinc (v := x67) (lv' := [(4, .int x67), (0, .ref a0), (1, .ref a1), (2, .int j20l2), (3, .int j30l3)]) hx hb dX2_list_67 hl (k := 4) rfl ex67.symm (by decide) rfl (fun ls hl => ?_)
                      refine lv_goto (tgt := 41) hx hb dX2_list_70 (by decide) ?_
                      exact (hK0 _ _ _).mp (ih41 x67 v64na0_0 v64nfa0_3 _ _ _ (by first | exact zg_s hm41 qx67 | (have h0 := qx67; omega)) (Int.le_trans zq4 bx67.1) bx67.2 bv64na0_0.1 bv64na0_0.2 bv64nfa0_3 hP hD hS (lv_sub hl [1, 2, 3, 4, 0] rfl))
                exact (hK0 _ _ _).mp (J41 10 0 j30a0_0 j30a0_3_a _ _ _ (by first | decide +kernel | (have h1 : (0 : Int) ≤ (0 : Int32).toInt := zq5; have h2 : (0 : Int32).toInt ≤ (0 : Int) := zq6; omega)) zq5 (Int.le_trans zq6 zq7) bj30a0_0_l bj30a0_0_u bj30a0_3_a hP hD hS (lv_sub hl [1, 2, 3, 4, 0] rfl))
          exact (hK0 _ _ _).mp (J30 10 0 j20a0_0 j20a0_3_a _ _ _ (by first | decide +kernel | (have h1 : (0 : Int) ≤ (0 : Int32).toInt := zq5; have h2 : (0 : Int32).toInt ≤ (0 : Int) := zq6; omega)) zq5 (Int.le_trans zq6 zq7) bj20a0_0_l bj20a0_0_u bj20a0_3_a hP hD hS (lv_sub hl [1, 2, 3, 0] rfl))
    exact (hK0 _ _ _).mp (J20 10 0 0 fa0_3 _ _ _ (by first | decide +kernel | (have h1 : (0 : Int) ≤ (0 : Int32).toInt := zq5; have h2 : (0 : Int32).toInt ≤ (0 : Int) := zq6; omega)) zq5 (Int.le_trans zq6 zq7) zq5 (Int.le_trans zq6 zq35) bfa0_3 hP hD hS (lv_sub hl [1, 2, 0] rfl))
  · have gc4 := ai_ne c4
    have l4f_a0_5 : (1 : Int) ≤ a0_5.toInt := (by first | exact zg_l ba0_5_l gc4 (by decide) (by decide) | (have h1 := ba0_5_l; have h2 : (0 : Int32).toInt = 0 := (by decide); rw [h2] at gc4; omega))
    exact W.vret hx hb hr (fun t ht hW => ⟨⟨(), rfl, trivial, a0_0, a0_5, fa0_3, ⟨ba0_0_l, ba0_0_u⟩, ⟨Int.le_trans (by decide) l4f_a0_5, ba0_5_u⟩, bfa0_3, by rw [ht]; exact hP, va_K.moved hW.alike hK, hD⟩, hS.F ht⟩) hS.2.2 dX2_list_7

set_option maxHeartbeats 4000000 in
set_option maxRecDepth 100000 in
theorem c_X2_mostOf (l : Launch) (dC : Nat → ClassId) (dI : Nat → Nat → Nat) (sz : Nat) (a0 : Nat) (a1 : Int32) (a0g_0 a0g_1 a0g_2 a0g_3 a0g_5 a0g_6 : Value) (a0_4 : Nat) (ka0_4 : ClassId) (fa0_4 : Nat → Int32) (ba1_l : (0 : Int) ≤ a1.toInt) (ba1_u : a1.toInt ≤ (99 : Int)) : zm l yX2_mostOf wsX2_mostOf ({ frames := 1, cells := 0, slots := 0, locals := 24 }) [.ref a0, .int a1] dC dI sz [(a0, .inr (2, [a0g_0, a0g_1, a0g_2, a0g_3, .ref a0_4, a0g_5, a0g_6])), (a0_4, .inl (ka0_4, 900, .inl (fa0_4)))] [(ka0_4, .int)] (fun A _ => True) (fun A => va_Qi (fun (r : Int32) (_ : Unit) => True) (fun (_ : Unit) (t : State) => ax_B dC dI A [(a0, .inr (2, [a0g_0, a0g_1, a0g_2, a0g_3, .ref a0_4, a0g_5, a0g_6])), (a0_4, .inl (ka0_4, 900, .inl (fa0_4)))] [(ka0_4, .int)] t) A) := by
  refine zh (cc := cX2_mostOf) (maxL := 4) (ret := (some .int)) zn_RX2 rfl (Nat.le_of_ble_eq_true rfl) (fun p e s m below meth c A ls hx hb hml hr hts (hown : s.vm.findClass RX2 = some m.cls) hlocks hA hS hP hK hD hE (hl : lv_has ls 4 [(0, .ref a0), (1, .int a1)]) => ?_)
  refine ai_open (fun K hK0 => ?_)
  refine (hK0 _ _ _).mpr ?_
  refine lv_iconst (v := 0) hx hb dX2_mostOf_0 zk_iconst_0 ?_
  refine lv_istore_n (lv' := [(2, .int 0), (0, .ref a0), (1, .int a1)]) hx hb dX2_mostOf_1 rfl hl (by decide) rfl (fun ls hl => ?_)
  refine lv_iconst (v := 0) hx hb dX2_mostOf_2 zk_iconst_0 ?_
  refine lv_istore_n (lv' := [(3, .int 0), (2, .int 0), (0, .ref a0), (1, .int a1)]) hx hb dX2_mostOf_3 rfl hl (by decide) rfl (fun ls hl => ?_)
  have J4 : ∀ (n : Nat) (j4l3 : Int32) (j4l2 : Int32) (H : Heap) (locs : List Loc) (ls : Array Slot), (10 : Int) - j4l3.toInt ≤ (n : Int) → (0 : Int) ≤ j4l3.toInt → j4l3.toInt ≤ (9 : Int) → va_P (dC, dI) vwCl [(a0, .inr (2, [a0g_0, a0g_1, a0g_2, a0g_3, .ref a0_4, a0g_5, a0g_6])), (a0_4, .inl (ka0_4, 900, .inl (fa0_4)))] H → va_D A [(a0, .inr (2, [a0g_0, a0g_1, a0g_2, a0g_3, .ref a0_4, a0g_5, a0g_6])), (a0_4, .inl (ka0_4, 900, .inl (fa0_4)))] → va_S A s.heap H locs → lv_has ls 4 [(0, .ref a0), (1, .int a1), (2, .int j4l2), (3, .int j4l3)] → K H locs (F0 m 4 ls []) := by
    intro n
    induction n with
    | zero =>
      intro j4l3 j4l2 H locs ls hm bj4l3_l bj4l3_u hP hD hS hl
      first | exact zg_0 hm bj4l3_u (by decide) | (have h8 := ai_min j4l3; have h9 := ai_max j4l3; exact absurd hm (by omega))
    | succ n ih4 =>
      intro j4l3 j4l2 H locs ls hm bj4l3_l bj4l3_u hP hD hS hl
      refine (hK0 _ _ _).mpr ?_
      have hm4 := hm
      refine lv_iload_n hx hb dX2_mostOf_4 rfl (lv_at hl 3 rfl) ?_
      refine lv_bipush (v := 9) hx hb dX2_mostOf_5 zk_bipush_9 ?_
      refine lv_icmp_ge (tgt := 32) hx hb dX2_mostOf_7 (by decide) (fun c7 => ?_) (fun c7 => ?_)
      · have gc7 := ai_le c7
        have l7t_j4l3 : (9 : Int) ≤ j4l3.toInt := Int.le_trans zq2 gc7
        refine lv_iload_n hx hb dX2_mostOf_32 rfl (lv_at hl 2 rfl) ?_
        exact W.iret (v := j4l2) hx hb hr (fun t ht hW => ⟨⟨j4l2, (), rfl, trivial, by rw [ht]; exact hP, va_K.moved hW.alike hK, hD⟩, hS.F ht⟩) hS.2.2 dX2_mostOf_33
      · have gc7 := ai_nle c7
        have u7f_j4l3 : j4l3.toInt ≤ (8 : Int) := ai_lthi gc7 zq3
        refine lv_iload_n hx hb dX2_mostOf_10 rfl (lv_at hl 2 rfl) ?_
        refine lv_aload_n hx hb dX2_mostOf_11 rfl (lv_at hl 0 rfl) ?_
        refine va_get (D := (dC, dI)) (ci := 2) (v := .ref a0_4) (C := RX2) (T := TX2) (N := 7) hx hb hts zi_X2_mostOf_2 hown hK hP 0 rfl rfl 4 (by decide) (hts (.fieldLink RX2 15 "WaxTurns$Laws" "tallies" "[I") (List.mem_cons_of_mem _ (List.mem_append_left _ (List.mem_of_getElem? (i := 0) rfl)))) (fun _ h9 => h9) rfl dX2_mostOf_12 ?_
        refine lv_iload_n hx hb dX2_mostOf_15 rfl (lv_at hl 1 rfl) ?_
        refine lv_bipush (v := 9) hx hb dX2_mostOf_16 zk_bipush_9 ?_
        refine lv_imul hx hb dX2_mostOf_18 ?_
        refine lv_topi (fun x18 ex18 => ?_)
        have qx18 : x18.toInt = a1.toInt * (9 : Int32).toInt ∧ (0 : Int) ≤ x18.toInt ∧ x18.toInt ≤ 891 := ai_mul ex18 ⟨ba1_l, ba1_u⟩ ⟨zq2, zq3⟩ (by decide) (by decide) zq36
        have wx18 : x18.toInt = a1.toInt * 9 := qx18.1
        refine lv_iload_n hx hb dX2_mostOf_19 rfl (lv_at hl 3 rfl) ?_
        refine lv_iadd hx hb dX2_mostOf_20 ?_
        refine lv_topi (fun x20 ex20 => ?_)
        have qx20 : x20.toInt = x18.toInt + j4l3.toInt := ai_add ex20 ⟨qx18.2.1, qx18.2.2⟩ ⟨bj4l3_l, u7f_j4l3⟩ (by decide) (by decide)
        have bx20 : (0 : Int) ≤ x20.toInt ∧ x20.toInt ≤ 899 := ⟨by rw [qx20]; exact Int.add_le_add qx18.2.1 bj4l3_l, by rw [qx20]; exact Int.add_le_add qx18.2.2 u7f_j4l3⟩
        refine va_iald hx hb hK hP 1 0 rfl rfl (ai_in bx20.1 bx20.2 (by decide) (by decide)) dX2_mostOf_21 ?_
        refine lv_topi (fun x21 ex21 => ?_)
        refine va_mmax hx hb (by rw [hml]; exact hl.1.symm) hown (hts (.methodLink RX2 72 Lib.Math.max.name) (List.mem_cons_of_mem _ (List.mem_append_left _ (List.mem_of_getElem? (i := 1) rfl)))) (hts (.static Lib.Math.max.name) (List.mem_cons_of_mem _ (List.mem_append_left _ (List.mem_of_getElem? (i := 2) rfl)))) (hts (.initialized "java/lang/Math") (List.mem_cons_of_mem _ (List.mem_append_left _ (List.mem_of_getElem? (i := 3) rfl)))) (hts _ mxX2_mostOf) (Nat.le_of_ble_eq_true rfl) (Nat.le_of_ble_eq_true rfl) (Nat.le_of_ble_eq_true rfl) (Nat.le_of_ble_eq_true rfl) dX2_mostOf_22 ?_
        refine lv_topi (fun x22 ex22 => ?_)
        refine lv_istore_n (lv' := [(2, .int x22), (0, .ref a0), (1, .int a1), (3, .int j4l3)]) hx hb dX2_mostOf_25 rfl hl (by decide) rfl (fun ls hl => ?_)
        obtain ⟨x26, ex26⟩ : ∃ y : Int32, y = j4l3 + Int32.ofInt 1 := ⟨_, rfl⟩
        have qx26 : x26.toInt = j4l3.toInt + 1 := ai_inc ex26 (by decide) (by decide) u7f_j4l3 (by decide)
        have bx26 : (1 : Int) ≤ x26.toInt ∧ x26.toInt ≤ 9 := ⟨by rw [qx26]; exact Int.add_le_add bj4l3_l (Int.le_refl _), by rw [qx26]; exact Int.add_le_add u7f_j4l3 (Int.le_refl _)⟩
        refine lv_iinc (v := x26) (lv' := [(3, .int x26), (2, .int x22), (0, .ref a0), (1, .int a1)]) hx hb dX2_mostOf_26 hl (k := 3) rfl ex26.symm (by decide) rfl (fun ls hl => ?_)
        refine lv_goto (tgt := 4) hx hb dX2_mostOf_29 (by decide) ?_
        exact (hK0 _ _ _).mp (ih4 x26 x22 _ _ _ (by first | exact zg_s hm4 qx26 | (have h0 := qx26; omega)) (Int.le_trans zq4 bx26.1) bx26.2 hP hD hS (lv_sub hl [2, 3, 1, 0] rfl))
  exact (hK0 _ _ _).mp (J4 10 0 0 _ _ _ (by first | decide +kernel | (have h1 : (0 : Int) ≤ (0 : Int32).toInt := zq5; have h2 : (0 : Int32).toInt ≤ (0 : Int) := zq6; omega)) zq5 (Int.le_trans zq6 zq7) hP hD hS (lv_sub hl [2, 3, 1, 0] rfl))

set_option maxHeartbeats 4000000 in
set_option maxRecDepth 100000 in
theorem c_X2_tally (l : Launch) (dC : Nat → ClassId) (dI : Nat → Nat → Nat) (sz : Nat) (a0 : Nat) (a1 : Int32) (a2 : Int32) (a0_0 : Int32) (a0g_1 a0g_2 a0g_5 a0g_6 : Value) (a0_3 : Nat) (a0_4 : Nat) (ka0_4 : ClassId) (fa0_4 : Nat → Int32) (ka0_3 : ClassId) (fa0_3 : Nat → Int32) (ba1_l : (0 : Int) ≤ a1.toInt) (ba1_u : a1.toInt ≤ (9 : Int)) (ba0_0_l : (0 : Int) ≤ a0_0.toInt) (ba0_0_u : a0_0.toInt ≤ (729 : Int)) (bfa0_3 : (∀ k, (0 : Int) ≤ (fa0_3 k).toInt ∧ (fa0_3 k).toInt ≤ 888 ∧ (fa0_3 k).toInt % 10 ≤ 8)) : zm l yX2_tally wsX2_tally ({ frames := 0, cells := 0, slots := 0, locals := 0 }) [.ref a0, .int a1, .int a2] dC dI sz [(a0, .inr (2, [.int a0_0, a0g_1, a0g_2, .ref a0_3, .ref a0_4, a0g_5, a0g_6])), (a0_4, .inl (ka0_4, 900, .inl (fa0_4))), (a0_3, .inl (ka0_3, 729, .inl (fa0_3)))] [(ka0_4, .int), (ka0_3, .int)] (fun A _ => True) (fun A => va_Qv (fun (_ : Unit) => True) (fun (_ : Unit) (t : State) => ∃ nfa0_4 : Nat → Int32, ax_B dC dI A [(a0, .inr (2, [.int a0_0, a0g_1, a0g_2, .ref a0_3, .ref a0_4, a0g_5, a0g_6])), (a0_4, .inl (ka0_4, 900, .inl (nfa0_4))), (a0_3, .inl (ka0_3, 729, .inl (fa0_3)))] [(ka0_4, .int), (ka0_3, .int)] t) A) := by
  refine zh (cc := cX2_tally) (maxL := 8) (ret := none) zn_RX2 rfl (Nat.le_of_ble_eq_true rfl) (fun p e s m below meth c A ls hx hb hml hr hts (hown : s.vm.findClass RX2 = some m.cls) hlocks hA hS hP hK hD hE (hl : lv_has ls 8 [(0, .ref a0), (1, .int a1), (2, .int a2)]) => ?_)
  refine ai_open (fun K hK0 => ?_)
  refine (hK0 _ _ _).mpr ?_
  refine lv_iconst (v := 0) hx hb dX2_tally_0 zk_iconst_0 ?_
  refine lv_istore_n (lv' := [(3, .int 0), (0, .ref a0), (1, .int a1), (2, .int a2)]) hx hb dX2_tally_1 rfl hl (by decide) rfl (fun ls hl => ?_)
  have J2 : ∀ (n : Nat) (j2l3 : Int32) (j2a0_4_a : Nat → Int32) (H : Heap) (locs : List Loc) (ls : Array Slot), (901 : Int) - j2l3.toInt ≤ (n : Int) → (0 : Int) ≤ j2l3.toInt → j2l3.toInt ≤ (900 : Int) → va_P (dC, dI) vwCl [(a0, .inr (2, [.int a0_0, a0g_1, a0g_2, .ref a0_3, .ref a0_4, a0g_5, a0g_6])), (a0_4, .inl (ka0_4, 900, .inl (j2a0_4_a))), (a0_3, .inl (ka0_3, 729, .inl (fa0_3)))] H → va_D A [(a0, .inr (2, [.int a0_0, a0g_1, a0g_2, .ref a0_3, .ref a0_4, a0g_5, a0g_6])), (a0_4, .inl (ka0_4, 900, .inl (j2a0_4_a))), (a0_3, .inl (ka0_3, 729, .inl (fa0_3)))] → va_S A s.heap H locs → lv_has ls 8 [(0, .ref a0), (1, .int a1), (2, .int a2), (3, .int j2l3)] → K H locs (F0 m 2 ls []) := by
    intro n
    induction n with
    | zero =>
      intro j2l3 j2a0_4_a H locs ls hm bj2l3_l bj2l3_u hP hD hS hl
      first | exact zg_0 hm bj2l3_u (by decide) | (have h8 := ai_min j2l3; have h9 := ai_max j2l3; exact absurd hm (by omega))
    | succ n ih2 =>
      intro j2l3 j2a0_4_a H locs ls hm bj2l3_l bj2l3_u hP hD hS hl
      refine (hK0 _ _ _).mpr ?_
      have hm2 := hm
      refine lv_iload_n hx hb dX2_tally_2 rfl (lv_at hl 3 rfl) ?_
      refine lv_aload_n hx hb dX2_tally_3 rfl (lv_at hl 0 rfl) ?_
      refine va_get (D := (dC, dI)) (ci := 2) (v := .ref a0_4) (C := RX2) (T := TX2) (N := 7) hx hb hts zi_X2_tally_2 hown hK hP 0 rfl rfl 4 (by decide) (hts (.fieldLink RX2 15 "WaxTurns$Laws" "tallies" "[I") (List.mem_cons_of_mem _ (List.mem_append_left _ (List.mem_of_getElem? (i := 0) rfl)))) (fun _ h9 => h9) rfl dX2_tally_4 ?_
      refine va_alen hx hb hK hP 1 0 rfl rfl (v := 900) rfl dX2_tally_7 ?_
      refine lv_icmp_ge (tgt := 24) hx hb dX2_tally_8 (by decide) (fun c8 => ?_) (fun c8 => ?_)
      · have gc8 := ai_le c8
        have l8t_j2l3 : (900 : Int) ≤ j2l3.toInt := Int.le_trans zq37 gc8
        refine lv_iload_n hx hb dX2_tally_24 rfl (lv_at hl 1 rfl) ?_
        refine lv_if_le (tgt := 34) hx hb dX2_tally_25 (by decide) (fun c25 => ?_) (fun c25 => ?_)
        · have gc25 := ai_le c25
          have u25t_a1 : a1.toInt ≤ (0 : Int) := Int.le_trans gc25 zq6
          exact W.vret hx hb hr (fun t ht hW => ⟨⟨(), rfl, trivial, j2a0_4_a, by rw [ht]; exact hP, va_K.moved hW.alike hK, hD⟩, hS.F ht⟩) hS.2.2 dX2_tally_34
        · have gc25 := ai_nle c25
          have l25f_a1 : (1 : Int) ≤ a1.toInt := ai_ltlo gc25 zq5
          refine lv_iload_n hx hb dX2_tally_28 rfl (lv_at hl 2 rfl) ?_
          refine lv_bipush (v := 100) hx hb dX2_tally_29 zk_bipush_100 ?_
          refine lv_icmp_le (tgt := 35) hx hb dX2_tally_31 (by decide) (fun c31 => ?_) (fun c31 => ?_)
          · have gc31 := ai_le c31
            have u31t_a2 : a2.toInt ≤ (100 : Int) := Int.le_trans gc31 zq32
            refine lv_iconst (v := 0) hx hb dX2_tally_35 zk_iconst_0 ?_
            refine lv_istore_n (lv' := [(3, .int 0), (0, .ref a0), (1, .int a1), (2, .int a2)]) hx hb dX2_tally_36 rfl hl (by decide) rfl (fun ls hl => ?_)
            have J37 : ∀ (n : Nat) (j37l3 : Int32) (j37a0_4_a : Nat → Int32) (H : Heap) (locs : List Loc) (ls : Array Slot), (730 : Int) - j37l3.toInt ≤ (n : Int) → (0 : Int) ≤ j37l3.toInt → j37l3.toInt ≤ (729 : Int) → va_P (dC, dI) vwCl [(a0, .inr (2, [.int a0_0, a0g_1, a0g_2, .ref a0_3, .ref a0_4, a0g_5, a0g_6])), (a0_4, .inl (ka0_4, 900, .inl (j37a0_4_a))), (a0_3, .inl (ka0_3, 729, .inl (fa0_3)))] H → va_D A [(a0, .inr (2, [.int a0_0, a0g_1, a0g_2, .ref a0_3, .ref a0_4, a0g_5, a0g_6])), (a0_4, .inl (ka0_4, 900, .inl (j37a0_4_a))), (a0_3, .inl (ka0_3, 729, .inl (fa0_3)))] → va_S A s.heap H locs → lv_has ls 8 [(0, .ref a0), (1, .int a1), (2, .int a2), (3, .int j37l3)] → K H locs (F0 m 37 ls []) := by
              intro n
              induction n with
              | zero =>
                intro j37l3 j37a0_4_a H locs ls hm bj37l3_l bj37l3_u hP hD hS hl
                first | exact zg_0 hm bj37l3_u (by decide) | (have h8 := ai_min j37l3; have h9 := ai_max j37l3; exact absurd hm (by omega))
              | succ n ih37 =>
                intro j37l3 j37a0_4_a H locs ls hm bj37l3_l bj37l3_u hP hD hS hl
                refine (hK0 _ _ _).mpr ?_
                have hm37 := hm
                refine lv_iload_n hx hb dX2_tally_37 rfl (lv_at hl 3 rfl) ?_
                refine lv_aload_n hx hb dX2_tally_38 rfl (lv_at hl 0 rfl) ?_
                refine va_get (D := (dC, dI)) (ci := 2) (v := .int a0_0) (C := RX2) (T := TX2) (N := 7) hx hb hts zi_X2_tally_2 hown hK hP 0 rfl rfl 0 (by decide) (hts (.fieldLink RX2 25 "WaxTurns$Laws" "fitCount" "I") (List.mem_cons_of_mem _ (List.mem_append_left _ (List.mem_of_getElem? (i := 1) rfl)))) (fun _ h9 => h9) rfl dX2_tally_39 ?_
                refine lv_icmp_ge (tgt := 131) hx hb dX2_tally_42 (by decide) (fun c42 => ?_) (fun c42 => ?_)
                · have gc42 := ai_le c42
                  have u42t_a0_0 : a0_0.toInt ≤ (729 : Int) := ba0_0_u
                  have l42t_j37l3 : (0 : Int) ≤ j37l3.toInt := bj37l3_l
                  exact W.vret hx hb hr (fun t ht hW => ⟨⟨(), rfl, trivial, j37a0_4_a, by rw [ht]; exact hP, va_K.moved hW.alike hK, hD⟩, hS.F ht⟩) hS.2.2 dX2_tally_131
                · have gc42 := ai_nle c42
                  have u42f_j37l3 : j37l3.toInt ≤ (728 : Int) := ai_lthi gc42 ba0_0_u
                  have l42f_a0_0 : (1 : Int) ≤ a0_0.toInt := ai_ltlo gc42 bj37l3_l
                  refine lv_aload_n hx hb dX2_tally_45 rfl (lv_at hl 0 rfl) ?_
                  refine va_get (D := (dC, dI)) (ci := 2) (v := .ref a0_3) (C := RX2) (T := TX2) (N := 7) hx hb hts zi_X2_tally_2 hown hK hP 0 rfl rfl 3 (by decide) (hts (.fieldLink RX2 9 "WaxTurns$Laws" "fitting" "[I") (List.mem_cons_of_mem _ (List.mem_append_left _ (List.mem_of_getElem? (i := 2) rfl)))) (fun _ h9 => h9) rfl dX2_tally_46 ?_
                  refine lv_iload_n hx hb dX2_tally_49 rfl (lv_at hl 3 rfl) ?_
                  refine va_iald hx hb hK hP 2 1 rfl rfl (ai_in bj37l3_l u42f_j37l3 (by decide) (by decide)) dX2_tally_50 ?_
                  refine lv_topi (fun x50 ex50 => ?_)
                  have bx50 : (0 : Int) ≤ x50.toInt ∧ x50.toInt ≤ 888 ∧ x50.toInt % 10 ≤ 8 := by rw [ex50]; exact bfa0_3 _
                  refine lv_bipush (v := 100) hx hb dX2_tally_51 zk_bipush_100 ?_
                  refine lv_idiv hx hb dX2_tally_53 (by decide +kernel) ?_
                  refine lv_topi (fun x53 ex53 => ?_)
                  have qx53 := ai_div ex53 ⟨bx50.1, bx50.2.1⟩ (Int.lt_of_lt_of_le zq23 zq24)
                  have u53z_x53 : x53.toInt ≤ (8 : Int) := (by have h1 := qx53.1; have h2 := bx50.2.1; have h3 : (100 : Int32).toInt = 100 := (by decide); rw [h3] at h1; omega)
                  refine lv_istore (lv' := [(4, .int x53), (0, .ref a0), (1, .int a1), (2, .int a2), (3, .int j37l3)]) hx hb dX2_tally_54 hl (by decide) rfl (fun ls hl => ?_)
                  refine lv_aload_n hx hb dX2_tally_56 rfl (lv_at hl 1 rfl) ?_
                  refine va_get (D := (dC, dI)) (ci := 2) (v := .ref a0_3) (C := RX2) (T := TX2) (N := 7) hx hb hts zi_X2_tally_2 hown hK hP 0 rfl rfl 3 (by decide) (hts (.fieldLink RX2 9 "WaxTurns$Laws" "fitting" "[I") (List.mem_cons_of_mem _ (List.mem_append_left _ (List.mem_of_getElem? (i := 2) rfl)))) (fun _ h9 => h9) rfl dX2_tally_57 ?_
                  refine lv_iload_n hx hb dX2_tally_60 rfl (lv_at hl 4 rfl) ?_
                  refine va_iald hx hb hK hP 2 1 rfl rfl (ai_in bj37l3_l u42f_j37l3 (by decide) (by decide)) dX2_tally_61 ?_
                  refine ax_ti x50 ex50.symm ?_
                  refine lv_bipush (v := 10) hx hb dX2_tally_62 zk_bipush_10 ?_
                  refine lv_idiv hx hb dX2_tally_64 (by decide +kernel) ?_
                  refine lv_topi (fun x64 ex64 => ?_)
                  have qx64 := ai_div ex64 ⟨bx50.1, bx50.2.1⟩ (Int.lt_of_lt_of_le zq25 zq26)
                  have u64z_x64 : x64.toInt ≤ (88 : Int) := (by have h1 := qx64.1; have h2 := bx50.2.1; have h3 : (10 : Int32).toInt = 10 := (by decide); rw [h3] at h1; omega)
                  refine lv_bipush (v := 10) hx hb dX2_tally_65 zk_bipush_10 ?_
                  refine lv_irem hx hb dX2_tally_67 (by decide +kernel) ?_
                  refine lv_topi (fun x67 ex67 => ?_)
                  have qx67 := ai_rem2 ex67 qx64.2.1 (Int.lt_of_lt_of_le zq25 zq26) zq27
                  have wx67 : x67.toInt = x64.toInt % 10 := qx67.1
                  refine lv_istore (lv' := [(5, .int x67), (4, .int x53), (0, .ref a0), (1, .int a1), (2, .int a2), (3, .int j37l3)]) hx hb dX2_tally_68 hl (by decide) rfl (fun ls hl => ?_)
                  refine lv_aload_n hx hb dX2_tally_70 rfl (lv_at hl 2 rfl) ?_
                  refine va_get (D := (dC, dI)) (ci := 2) (v := .ref a0_3) (C := RX2) (T := TX2) (N := 7) hx hb hts zi_X2_tally_2 hown hK hP 0 rfl rfl 3 (by decide) (hts (.fieldLink RX2 9 "WaxTurns$Laws" "fitting" "[I") (List.mem_cons_of_mem _ (List.mem_append_left _ (List.mem_of_getElem? (i := 2) rfl)))) (fun _ h9 => h9) rfl dX2_tally_71 ?_
                  refine lv_iload_n hx hb dX2_tally_74 rfl (lv_at hl 5 rfl) ?_
                  refine va_iald hx hb hK hP 2 1 rfl rfl (ai_in bj37l3_l u42f_j37l3 (by decide) (by decide)) dX2_tally_75 ?_
                  refine ax_ti x50 ex50.symm ?_
                  refine lv_bipush (v := 10) hx hb dX2_tally_76 zk_bipush_10 ?_
                  refine lv_irem hx hb dX2_tally_78 (by decide +kernel) ?_
                  refine lv_topi (fun x78 ex78 => ?_)
                  have qx78 := ai_rem2 ex78 bx50.1 (Int.lt_of_lt_of_le zq25 zq26) zq27
                  have wx78 : x78.toInt = x50.toInt % 10 := qx78.1
                  have u78z_x78 : x78.toInt ≤ (8 : Int) := by rw [wx78]; exact bx50.2.2
                  refine lv_istore (lv' := [(6, .int x78), (5, .int x67), (4, .int x53), (0, .ref a0), (1, .int a1), (2, .int a2), (3, .int j37l3)]) hx hb dX2_tally_79 hl (by decide) rfl (fun ls hl => ?_)
                  refine lv_iconst (v := 0) hx hb dX2_tally_81 zk_iconst_0 ?_
                  refine lv_istore (lv' := [(7, .int 0), (6, .int x78), (5, .int x67), (4, .int x53), (0, .ref a0), (1, .int a1), (2, .int a2), (3, .int j37l3)]) hx hb dX2_tally_82 hl (by decide) rfl (fun ls hl => ?_)
                  have J84 : ∀ (n : Nat) (j84l7 : Int32) (j84l6 : Int32) (j84a0_4_a : Nat → Int32) (H : Heap) (locs : List Loc) (ls : Array Slot), (101 : Int) - j84l7.toInt ≤ (n : Int) → (0 : Int) ≤ j84l7.toInt → j84l7.toInt ≤ (100 : Int) → (0 : Int) ≤ j84l6.toInt → j84l6.toInt ≤ (8 : Int) → va_P (dC, dI) vwCl [(a0, .inr (2, [.int a0_0, a0g_1, a0g_2, .ref a0_3, .ref a0_4, a0g_5, a0g_6])), (a0_4, .inl (ka0_4, 900, .inl (j84a0_4_a))), (a0_3, .inl (ka0_3, 729, .inl (fa0_3)))] H → va_D A [(a0, .inr (2, [.int a0_0, a0g_1, a0g_2, .ref a0_3, .ref a0_4, a0g_5, a0g_6])), (a0_4, .inl (ka0_4, 900, .inl (j84a0_4_a))), (a0_3, .inl (ka0_3, 729, .inl (fa0_3)))] → va_S A s.heap H locs → lv_has ls 8 [(0, .ref a0), (1, .int a1), (2, .int a2), (3, .int j37l3), (4, .int x53), (5, .int x67), (6, .int j84l6), (7, .int j84l7)] → K H locs (F0 m 84 ls []) := by
                    intro n
                    induction n with
                    | zero =>
                      intro j84l7 j84l6 j84a0_4_a H locs ls hm bj84l7_l bj84l7_u bj84l6_l bj84l6_u hP hD hS hl
                      first | exact zg_0 hm bj84l7_u (by decide) | (have h8 := ai_min j84l7; have h9 := ai_max j84l7; exact absurd hm (by omega))
                    | succ n ih84 =>
                      intro j84l7 j84l6 j84a0_4_a H locs ls hm bj84l7_l bj84l7_u bj84l6_l bj84l6_u hP hD hS hl
                      refine (hK0 _ _ _).mpr ?_
                      have hm84 := hm
                      refine lv_iload hx hb dX2_tally_84 (lv_at hl 7 rfl) ?_
                      refine lv_iload_n hx hb dX2_tally_86 rfl (lv_at hl 2 rfl) ?_
                      refine lv_icmp_ge (tgt := 125) hx hb dX2_tally_87 (by decide) (fun c87 => ?_) (fun c87 => ?_)
                      · have gc87 := ai_le c87
                        have u87t_a2 : a2.toInt ≤ (100 : Int) := u31t_a2
                        obtain ⟨x125, ex125⟩ : ∃ y : Int32, y = j37l3 + Int32.ofInt 1 := ⟨_, rfl⟩
                        have qx125 : x125.toInt = j37l3.toInt + 1 := ai_inc ex125 (by decide) (by decide) u42f_j37l3 (by decide)
                        have bx125 : (1 : Int) ≤ x125.toInt ∧ x125.toInt ≤ 729 := ⟨by rw [qx125]; exact Int.add_le_add bj37l3_l (Int.le_refl _), by rw [qx125]; exact Int.add_le_add u42f_j37l3 (Int.le_refl _)⟩
                        refine lv_iinc (v := x125) (lv' := [(3, .int x125), (0, .ref a0), (1, .int a1), (2, .int a2), (4, .int x53), (5, .int x67), (6, .int j84l6), (7, .int j84l7)]) hx hb dX2_tally_125 hl (k := 3) rfl ex125.symm (by decide) rfl (fun ls hl => ?_)
                        refine lv_goto (tgt := 37) hx hb dX2_tally_128 (by decide) ?_
                        exact (hK0 _ _ _).mp (ih37 x125 j84a0_4_a _ _ _ (by first | exact zg_s hm37 qx125 | (have h0 := qx125; omega)) (Int.le_trans zq4 bx125.1) bx125.2 hP hD hS (lv_sub hl [1, 2, 3, 0] rfl))
                      · have gc87 := ai_nle c87
                        have u87f_j84l7 : j84l7.toInt ≤ (99 : Int) := ai_lthi gc87 u31t_a2
                        have l87f_a2 : (1 : Int) ≤ a2.toInt := ai_ltlo gc87 bj84l7_l
                        refine lv_aload_n hx hb dX2_tally_90 rfl (lv_at hl 0 rfl) ?_
                        refine va_get (D := (dC, dI)) (ci := 2) (v := .ref a0_4) (C := RX2) (T := TX2) (N := 7) hx hb hts zi_X2_tally_2 hown hK hP 0 rfl rfl 4 (by decide) (hts (.fieldLink RX2 15 "WaxTurns$Laws" "tallies" "[I") (List.mem_cons_of_mem _ (List.mem_append_left _ (List.mem_of_getElem? (i := 0) rfl)))) (fun _ h9 => h9) rfl dX2_tally_91 ?_
                        refine lv_iload hx hb dX2_tally_94 (lv_at hl 7 rfl) ?_
                        refine lv_bipush (v := 9) hx hb dX2_tally_96 zk_bipush_9 ?_
                        refine lv_imul hx hb dX2_tally_98 ?_
                        refine lv_topi (fun x98 ex98 => ?_)
                        have qx98 : x98.toInt = j84l7.toInt * (9 : Int32).toInt ∧ (0 : Int) ≤ x98.toInt ∧ x98.toInt ≤ 891 := ai_mul ex98 ⟨bj84l7_l, u87f_j84l7⟩ ⟨zq2, zq3⟩ (by decide) (by decide) zq36
                        have wx98 : x98.toInt = j84l7.toInt * 9 := qx98.1
                        refine lv_iload hx hb dX2_tally_99 (lv_at hl 6 rfl) ?_
                        refine lv_iadd hx hb dX2_tally_101 ?_
                        refine lv_topi (fun x101 ex101 => ?_)
                        have qx101 : x101.toInt = x98.toInt + j84l6.toInt := ai_add ex101 ⟨qx98.2.1, qx98.2.2⟩ ⟨bj84l6_l, bj84l6_u⟩ (by decide) (by decide)
                        have bx101 : (0 : Int) ≤ x101.toInt ∧ x101.toInt ≤ 899 := ⟨by rw [qx101]; exact Int.add_le_add qx98.2.1 bj84l6_l, by rw [qx101]; exact Int.add_le_add qx98.2.2 bj84l6_u⟩
                        refine lv_dup2_11 hx hb dX2_tally_102 rfl rfl ?_
                        refine va_iald hx hb hK hP 1 0 rfl rfl (ai_in bx101.1 bx101.2 (by decide) (by decide)) dX2_tally_103 ?_
                        refine lv_topi (fun x103 ex103 => ?_)
                        refine lv_iconst (v := 1) hx hb dX2_tally_104 zk_iconst_1 ?_
                        refine lv_iadd hx hb dX2_tally_105 ?_
                        refine lv_topi (fun x105 ex105 => ?_)
                        refine va_iast hx hb hK hP hD hS 1 0 rfl rfl (ai_in bx101.1 bx101.2 (by decide) (by decide)) dX2_tally_106 (fun H locs hP hD hS => ?_)
                        obtain ⟨f106, hP, hD⟩ : ∃ f106 : Nat → Int32, va_P (dC, dI) vwCl [(a0, .inr (2, [.int a0_0, a0g_1, a0g_2, .ref a0_3, .ref a0_4, a0g_5, a0g_6])), (a0_4, .inl (ka0_4, 900, .inl (f106))), (a0_3, .inl (ka0_3, 729, .inl (fa0_3)))] H ∧ va_D A [(a0, .inr (2, [.int a0_0, a0g_1, a0g_2, .ref a0_3, .ref a0_4, a0g_5, a0g_6])), (a0_4, .inl (ka0_4, 900, .inl (f106))), (a0_3, .inl (ka0_3, 729, .inl (fa0_3)))] := ⟨_, hP, hD⟩
                        refine lv_iload hx hb dX2_tally_107 (lv_at hl 6 rfl) ?_
                        refine lv_iload hx hb dX2_tally_109 (lv_at hl 4 rfl) ?_
                        refine lv_imul hx hb dX2_tally_111 ?_
                        refine lv_topi (fun x111 ex111 => ?_)
                        have qx111 : x111.toInt = j84l6.toInt * x53.toInt ∧ (0 : Int) ≤ x111.toInt ∧ x111.toInt ≤ 64 := ai_mul ex111 ⟨bj84l6_l, bj84l6_u⟩ ⟨qx53.2.1, u53z_x53⟩ (by decide) (by decide) zq18
                        refine lv_iload hx hb dX2_tally_112 (lv_at hl 5 rfl) ?_
                        refine lv_iadd hx hb dX2_tally_114 ?_
                        refine lv_topi (fun x114 ex114 => ?_)
                        have qx114 : x114.toInt = x111.toInt + x67.toInt := ai_add ex114 ⟨qx111.2.1, qx111.2.2⟩ ⟨qx67.2.1, qx67.2.2⟩ (by decide) (by decide)
                        have bx114 : (0 : Int) ≤ x114.toInt ∧ x114.toInt ≤ 73 := ⟨by rw [qx114]; exact Int.add_le_add qx111.2.1 qx67.2.1, by rw [qx114]; exact Int.add_le_add qx111.2.2 qx67.2.2⟩
                        refine lv_iload_n hx hb dX2_tally_115 rfl (lv_at hl 1 rfl) ?_
                        refine lv_irem hx hb dX2_tally_116 (ai_nz l25f_a1 (by decide)) ?_
                        refine lv_topi (fun x116 ex116 => ?_)
                        have qx116 := ai_rem2 ex116 bx114.1 (Int.lt_of_lt_of_le zq19 l25f_a1) ba1_u
                        refine lv_istore (lv' := [(6, .int x116), (0, .ref a0), (1, .int a1), (2, .int a2), (3, .int j37l3), (4, .int x53), (5, .int x67), (7, .int j84l7)]) hx hb dX2_tally_117 hl (by decide) rfl (fun ls hl => ?_)
                        obtain ⟨x119, ex119⟩ : ∃ y : Int32, y = j84l7 + Int32.ofInt 1 := ⟨_, rfl⟩
                        have qx119 : x119.toInt = j84l7.toInt + 1 := ai_inc ex119 (by decide) (by decide) u87f_j84l7 (by decide)
                        have bx119 : (1 : Int) ≤ x119.toInt ∧ x119.toInt ≤ 100 := ⟨by rw [qx119]; exact Int.add_le_add bj84l7_l (Int.le_refl _), by rw [qx119]; exact Int.add_le_add u87f_j84l7 (Int.le_refl _)⟩
                        refine lv_iinc (v := x119) (lv' := [(7, .int x119), (6, .int x116), (0, .ref a0), (1, .int a1), (2, .int a2), (3, .int j37l3), (4, .int x53), (5, .int x67)]) hx hb dX2_tally_119 hl (k := 7) rfl ex119.symm (by decide) rfl (fun ls hl => ?_)
                        refine lv_goto (tgt := 84) hx hb dX2_tally_122 (by decide) ?_
                        exact (hK0 _ _ _).mp (ih84 x119 x116 f106 _ _ _ (by first | exact zg_s hm84 qx119 | (have h0 := qx119; omega)) (Int.le_trans zq4 bx119.1) bx119.2 qx116.2.1 qx116.2.2 hP hD hS (lv_sub hl [2, 3, 4, 5, 6, 7, 1, 0] rfl))
                  exact (hK0 _ _ _).mp (J84 101 0 x78 j37a0_4_a _ _ _ (by first | decide +kernel | (have h1 : (0 : Int) ≤ (0 : Int32).toInt := zq5; have h2 : (0 : Int32).toInt ≤ (0 : Int) := zq6; omega)) zq5 (Int.le_trans zq6 zq38) qx78.2.1 u78z_x78 hP hD hS (lv_sub hl [4, 5, 6, 7, 3, 2, 1, 0] rfl))
            exact (hK0 _ _ _).mp (J37 730 0 j2a0_4_a _ _ _ (by first | decide +kernel | (have h1 : (0 : Int) ≤ (0 : Int32).toInt := zq5; have h2 : (0 : Int32).toInt ≤ (0 : Int) := zq6; omega)) zq5 (Int.le_trans zq6 zq35) hP hD hS (lv_sub hl [1, 2, 3, 0] rfl))
          · have gc31 := ai_nle c31
            have l31f_a2 : (101 : Int) ≤ a2.toInt := ai_ltlo gc31 zq24
            exact W.vret hx hb hr (fun t ht hW => ⟨⟨(), rfl, trivial, j2a0_4_a, by rw [ht]; exact hP, va_K.moved hW.alike hK, hD⟩, hS.F ht⟩) hS.2.2 dX2_tally_34
      · have gc8 := ai_nle c8
        have u8f_j2l3 : j2l3.toInt ≤ (899 : Int) := ai_lthi gc8 zq39
        refine lv_aload_n hx hb dX2_tally_11 rfl (lv_at hl 0 rfl) ?_
        refine va_get (D := (dC, dI)) (ci := 2) (v := .ref a0_4) (C := RX2) (T := TX2) (N := 7) hx hb hts zi_X2_tally_2 hown hK hP 0 rfl rfl 4 (by decide) (hts (.fieldLink RX2 15 "WaxTurns$Laws" "tallies" "[I") (List.mem_cons_of_mem _ (List.mem_append_left _ (List.mem_of_getElem? (i := 0) rfl)))) (fun _ h9 => h9) rfl dX2_tally_12 ?_
        refine lv_iload_n hx hb dX2_tally_15 rfl (lv_at hl 3 rfl) ?_
        refine lv_iconst (v := 0) hx hb dX2_tally_16 zk_iconst_0 ?_
        refine va_iast hx hb hK hP hD hS 1 0 rfl rfl (ai_in bj2l3_l u8f_j2l3 (by decide) (by decide)) dX2_tally_17 (fun H locs hP hD hS => ?_)
        obtain ⟨f17, hP, hD⟩ : ∃ f17 : Nat → Int32, va_P (dC, dI) vwCl [(a0, .inr (2, [.int a0_0, a0g_1, a0g_2, .ref a0_3, .ref a0_4, a0g_5, a0g_6])), (a0_4, .inl (ka0_4, 900, .inl (f17))), (a0_3, .inl (ka0_3, 729, .inl (fa0_3)))] H ∧ va_D A [(a0, .inr (2, [.int a0_0, a0g_1, a0g_2, .ref a0_3, .ref a0_4, a0g_5, a0g_6])), (a0_4, .inl (ka0_4, 900, .inl (f17))), (a0_3, .inl (ka0_3, 729, .inl (fa0_3)))] := ⟨_, hP, hD⟩
        obtain ⟨x18, ex18⟩ : ∃ y : Int32, y = j2l3 + Int32.ofInt 1 := ⟨_, rfl⟩
        have qx18 : x18.toInt = j2l3.toInt + 1 := ai_inc ex18 (by decide) (by decide) u8f_j2l3 (by decide)
        have bx18 : (1 : Int) ≤ x18.toInt ∧ x18.toInt ≤ 900 := ⟨by rw [qx18]; exact Int.add_le_add bj2l3_l (Int.le_refl _), by rw [qx18]; exact Int.add_le_add u8f_j2l3 (Int.le_refl _)⟩
        refine lv_iinc (v := x18) (lv' := [(3, .int x18), (0, .ref a0), (1, .int a1), (2, .int a2)]) hx hb dX2_tally_18 hl (k := 3) rfl ex18.symm (by decide) rfl (fun ls hl => ?_)
        refine lv_goto (tgt := 2) hx hb dX2_tally_21 (by decide) ?_
        exact (hK0 _ _ _).mp (ih2 x18 f17 _ _ _ (by first | exact zg_s hm2 qx18 | (have h0 := qx18; omega)) (Int.le_trans zq4 bx18.1) bx18.2 hP hD hS (lv_sub hl [1, 2, 3, 0] rfl))
  exact (hK0 _ _ _).mp (J2 901 0 fa0_4 _ _ _ (by first | decide +kernel | (have h1 : (0 : Int) ≤ (0 : Int32).toInt := zq5; have h2 : (0 : Int32).toInt ≤ (0 : Int) := zq6; omega)) zq5 (Int.le_trans zq6 zq40) hP hD hS (lv_sub hl [1, 2, 3, 0] rfl))

set_option maxHeartbeats 4000000 in
set_option maxRecDepth 100000 in
theorem c_X2_chooseLook (l : Launch) (dC : Nat → ClassId) (dI : Nat → Nat → Nat) (sz : Nat) (a0 : Nat) (a1 : Nat) (a0_0 : Int32) (a0_1 : Int32) (a0_2 : Int32) (a0_3 : Nat) (a0_4 : Nat) (a0_5 : Int32) (a0_6 : Int32) (a1_0 : Int32) (a1_1 : Int32) (a1g_2 a1g_3 a1g_4 a1g_5 a1g_6 a1g_7 a1g_8 a1g_10 a1g_11 a1g_14 : Value) (a1_9 : Int32) (a1_12 : Nat) (a1_13 : Nat) (ka0_3 : ClassId) (fa0_3 : Nat → Int32) (ka1_13 : ClassId) (fa1_13 : Nat → Int32) (ka1_12 : ClassId) (fa1_12 : Nat → Int32) (ka0_4 : ClassId) (fa0_4 : Nat → Int32) (ba0_0_l : (0 : Int) ≤ a0_0.toInt) (ba0_0_u : a0_0.toInt ≤ (729 : Int)) (ba0_5_l : (0 : Int) ≤ a0_5.toInt) (ba0_5_u : a0_5.toInt ≤ (1 : Int)) (ba0_6_l : (0 : Int) ≤ a0_6.toInt) (ba0_6_u : a0_6.toInt ≤ (1 : Int)) (ba1_0_l : (0 : Int) ≤ a1_0.toInt) (ba1_0_u : a1_0.toInt ≤ (9 : Int)) (ba1_9_l : (0 : Int) ≤ a1_9.toInt) (ba1_9_u : a1_9.toInt ≤ (6 : Int)) (bfa0_3 : (∀ k, (0 : Int) ≤ (fa0_3 k).toInt ∧ (fa0_3 k).toInt ≤ 888 ∧ (fa0_3 k).toInt % 10 ≤ 8)) (bfa1_13 : (∀ k, (0 : Int) ≤ (fa1_13 k).toInt ∧ (fa1_13 k).toInt ≤ 999)) : zm l yX2_chooseLook wsX2_chooseLook ({ frames := 4, cells := 0, slots := 0, locals := 98 }) [.ref a0, .ref a1] dC dI sz [(a0, .inr (2, [.int a0_0, .int a0_1, .int a0_2, .ref a0_3, .ref a0_4, .int a0_5, .int a0_6])), (a1, .inr (0, [.int a1_0, .int a1_1, a1g_2, a1g_3, a1g_4, a1g_5, a1g_6, a1g_7, a1g_8, .int a1_9, a1g_10, a1g_11, .ref a1_12, .ref a1_13, a1g_14])), (a0_3, .inl (ka0_3, 729, .inl (fa0_3))), (a1_13, .inl (ka1_13, 6, .inl (fa1_13))), (a1_12, .inl (ka1_12, 6, .inl (fa1_12))), (a0_4, .inl (ka0_4, 900, .inl (fa0_4)))] [(ka0_3, .int), (ka1_13, .int), (ka1_12, .int), (ka0_4, .int)] (fun A U => va_Nw (.methodLinkNest RX0 72 yX7_laterTurn RX7) U) (fun A => va_Qv (fun (_ : Unit) => True) (fun (_ : Unit) (t : State) => ∃ na0_0 : Int32, ∃ na0_1 : Int32, ∃ na0_2 : Int32, ∃ na0_5 : Int32, ∃ na0_6 : Int32, ∃ nfa0_3 : Nat → Int32, ∃ nfa0_4 : Nat → Int32, ((0 : Int) ≤ na0_0.toInt ∧ na0_0.toInt ≤ 729) ∧ ((0 : Int) ≤ na0_5.toInt ∧ na0_5.toInt ≤ 1) ∧ ((0 : Int) ≤ na0_6.toInt ∧ na0_6.toInt ≤ 1) ∧ (∀ k, (0 : Int) ≤ (nfa0_3 k).toInt ∧ (nfa0_3 k).toInt ≤ 888 ∧ (nfa0_3 k).toInt % 10 ≤ 8) ∧ ax_B dC dI A [(a0, .inr (2, [.int na0_0, .int na0_1, .int na0_2, .ref a0_3, .ref a0_4, .int na0_5, .int na0_6])), (a1, .inr (0, [.int a1_0, .int a1_1, a1g_2, a1g_3, a1g_4, a1g_5, a1g_6, a1g_7, a1g_8, .int a1_9, a1g_10, a1g_11, .ref a1_12, .ref a1_13, a1g_14])), (a0_3, .inl (ka0_3, 729, .inl (nfa0_3))), (a1_13, .inl (ka1_13, 6, .inl (fa1_13))), (a1_12, .inl (ka1_12, 6, .inl (fa1_12))), (a0_4, .inl (ka0_4, 900, .inl (nfa0_4)))] [(ka0_3, .int), (ka1_13, .int), (ka1_12, .int), (ka0_4, .int)] t) A) := by
  refine zh (cc := cX2_chooseLook) (maxL := 5) (ret := none) zn_RX2 rfl (Nat.le_of_ble_eq_true rfl) (fun p e s m below meth c A ls hx hb hml hr hts (hown : s.vm.findClass RX2 = some m.cls) hlocks hA hS hP hK hD hE (hl : lv_has ls 5 [(0, .ref a0), (1, .ref a1)]) => ?_)
  have hE0 := hE
  refine ai_open (fun K hK0 => ?_)
  refine (hK0 _ _ _).mpr ?_
  refine lv_aload_n hx hb dX2_chooseLook_0 rfl (lv_at hl 0 rfl) ?_
  refine va_get (D := (dC, dI)) (ci := 2) (v := .int a0_6) (C := RX2) (T := TX2) (N := 7) hx hb hts zi_X2_chooseLook_2 hown hK hP 0 rfl rfl 6 (by decide) (hts (.fieldLink RX2 22 "WaxTurns$Laws" "looked" "Z") (zm_X2_chooseLook_r1 (List.mem_of_getElem? (i := 0) rfl))) (fun _ h9 => h9) rfl dX2_chooseLook_1 ?_
  refine lv_if_eq (tgt := 8) hx hb dX2_chooseLook_4 (by decide) (fun c4 => ?_) (fun c4 => ?_)
  · have gc4 := ai_eq c4
    have u4t_a0_6 : a0_6.toInt ≤ (0 : Int) := Int.le_trans (Int.le_of_eq gc4) zq6
    have l4t_a0_6 : (0 : Int) ≤ a0_6.toInt := ba0_6_l
    refine lv_aload_n hx hb dX2_chooseLook_8 rfl (lv_at hl 0 rfl) ?_
    refine lv_aload_n hx hb dX2_chooseLook_9 rfl (lv_at hl 1 rfl) ?_
    have hKc := hK.sub (tys' := [(ka0_3, .int), (ka1_13, .int), (ka1_12, .int)]) [0, 1, 2] rfl
    refine va_callv (va_runV (As := [.ref a1]) (rest := []) ⟨hx, hb, hml, hown, hts⟩ (c_X2_list l dC dI s.heap.size a0 a1 a0_0 (.int a0_1) (.int a0_2) (.ref a0_4) (.int a0_6) a0_3 a0_5 a1_0 a1_1 a1g_2 a1g_3 a1g_4 a1g_5 a1g_6 a1g_7 a1g_8 a1g_10 a1g_11 a1g_14 a1_9 a1_12 a1_13 ka0_3 fa0_3 ka1_13 fa1_13 ka1_12 fa1_12 ba0_0_l ba0_0_u ba0_5_l ba0_5_u ba1_0_l ba1_0_u ba1_9_l ba1_9_u bfa0_3 bfa1_13) (cwV 1 hts gX2_chooseLook_X2_list rfl rfl rfl zd_X2_list ⟨Nat.le_of_ble_eq_true rfl, Nat.le_of_ble_eq_true rfl⟩) ⟨ax_blind (fun _ _ _ _ hq => va_Nw.same rfl rfl (hq)), zr_2 hKc (zp_P5 hP) (q0 := 0) rfl, ax_pre (zp_P5 hP) hKc (zp_D5 hD) (fun _ hW => va_Nw.warmM hW hE0)⟩ rfl rfl hl.1 rfl (lv_room (Nat.le_of_ble_eq_true rfl)) dX2_chooseLook_10 ⟨Nat.le_of_ble_eq_true rfl, Nat.le_of_ble_eq_true rfl⟩) hS (fun q _ h => zp_F5 hD hS hA q h) (zp_F5 hD hS hA) (fun u t H locs ht hvm hw => zx_3 (fun v10na0_0 v10na0_5 v10nfa0_3 => zy_3 (fun bv10na0_0 bv10na0_5 bv10nfa0_3 hB hz1 hk1 hS1 => zo5 hB ht hP hD hk1 (zp_F5 hD hS hA) hS1 (fun hP hK1 hD hS => ?_))))
    refine lv_aload_n hx hb dX2_chooseLook_13 rfl (lv_at hl 0 rfl) ?_
    refine lv_iconst (v := 1) hx hb dX2_chooseLook_14 zk_iconst_1 ?_
    refine va_put (D := (dC, dI)) (ci := 2) (v := .int 1) (ty := .boolean) (C := RX2) (T := TX2) (N := 7) hx hb hts zi_X2_chooseLook_2 tyX2 tyX2_ok nmX2 hown hK hP hD hS 0 rfl rfl 6 (by decide) (hts (.fieldLink RX2 22 "WaxTurns$Laws" "looked" "Z") (zm_X2_chooseLook_r1 (List.mem_of_getElem? (i := 0) rfl))) (fun _ h9 => h9) rfl (tyX2_ok 6 (by decide)) rfl rfl (Nat.le_of_ble_eq_true rfl) dX2_chooseLook_15 (fun H locs hP hD hS => ?_)
    refine zs_0 (y := (a0, .inr (2, [.int v10na0_0, .int a0_1, .int a0_2, .ref a0_3, .ref a0_4, .int v10na0_5, .int 1]))) hP hD rfl (fun hP hD => ?_)
    refine lv_aload_n hx hb dX2_chooseLook_18 rfl (lv_at hl 0 rfl) ?_
    refine lv_bipush (v := (-2)) hx hb dX2_chooseLook_19 zk_bipush_n2 ?_
    refine va_put (D := (dC, dI)) (ci := 2) (v := .int (-2)) (ty := .int) (C := RX2) (T := TX2) (N := 7) hx hb hts zi_X2_chooseLook_2 tyX2 tyX2_ok nmX2 hown hK hP hD hS 0 rfl rfl 1 (by decide) (hts (.fieldLink RX2 55 "WaxTurns$Laws" "lookMinute" "I") (zm_X2_chooseLook_r1 (List.mem_of_getElem? (i := 1) rfl))) (fun _ h9 => h9) rfl (tyX2_ok 1 (by decide)) rfl rfl (Nat.le_of_ble_eq_true rfl) dX2_chooseLook_21 (fun H locs hP hD hS => ?_)
    refine zs_0 (y := (a0, .inr (2, [.int v10na0_0, .int (-2), .int a0_2, .ref a0_3, .ref a0_4, .int v10na0_5, .int 1]))) hP hD rfl (fun hP hD => ?_)
    refine lv_aload_n hx hb dX2_chooseLook_24 rfl (lv_at hl 0 rfl) ?_
    refine lv_bipush (v := (-2)) hx hb dX2_chooseLook_25 zk_bipush_n2 ?_
    refine va_put (D := (dC, dI)) (ci := 2) (v := .int (-2)) (ty := .int) (C := RX2) (T := TX2) (N := 7) hx hb hts zi_X2_chooseLook_2 tyX2 tyX2_ok nmX2 hown hK hP hD hS 0 rfl rfl 2 (by decide) (hts (.fieldLink RX2 58 "WaxTurns$Laws" "lookMost" "I") (zm_X2_chooseLook_r1 (List.mem_of_getElem? (i := 2) rfl))) (fun _ h9 => h9) rfl (tyX2_ok 2 (by decide)) rfl rfl (Nat.le_of_ble_eq_true rfl) dX2_chooseLook_27 (fun H locs hP hD hS => ?_)
    refine zs_0 (y := (a0, .inr (2, [.int v10na0_0, .int (-2), .int (-2), .ref a0_3, .ref a0_4, .int v10na0_5, .int 1]))) hP hD rfl (fun hP hD => ?_)
    refine lv_aload_n hx hb dX2_chooseLook_30 rfl (lv_at hl 0 rfl) ?_
    refine va_get (D := (dC, dI)) (ci := 2) (v := .int v10na0_0) (C := RX2) (T := TX2) (N := 7) hx hb hts zi_X2_chooseLook_2 hown hK hP 0 rfl rfl 0 (by decide) (hts (.fieldLink RX2 25 "WaxTurns$Laws" "fitCount" "I") (zm_X2_chooseLook_r1 (List.mem_of_getElem? (i := 3) rfl))) (fun _ h9 => h9) rfl dX2_chooseLook_31 ?_
    refine lv_if_eq (tgt := 44) hx hb dX2_chooseLook_34 (by decide) (fun c34 => ?_) (fun c34 => ?_)
    · have gc34 := ai_eq c34
      have u34t_v10na0_0 : v10na0_0.toInt ≤ (0 : Int) := Int.le_trans (Int.le_of_eq gc34) zq6
      have l34t_v10na0_0 : (0 : Int) ≤ v10na0_0.toInt := bv10na0_0.1
      exact W.vret hx hb hr (fun t ht hW => ⟨⟨(), rfl, trivial, v10na0_0, (-2), (-2), v10na0_5, 1, v10nfa0_3, fa0_4, ⟨l34t_v10na0_0, Int.le_trans u34t_v10na0_0 (by decide)⟩, ⟨bv10na0_5.1, bv10na0_5.2⟩, ⟨Int.le_trans (by decide) zq1, zq0⟩, bv10nfa0_3, by rw [ht]; exact hP, va_K.moved hW.alike hK, hD⟩, hS.F ht⟩) hS.2.2 dX2_chooseLook_44
    · have gc34 := ai_ne c34
      have l34f_v10na0_0 : (1 : Int) ≤ v10na0_0.toInt := (by first | exact zg_l bv10na0_0.1 gc34 (by decide) (by decide) | (have h1 := bv10na0_0.1; have h2 : (0 : Int32).toInt = 0 := (by decide); rw [h2] at gc34; omega))
      refine lv_aload_n hx hb dX2_chooseLook_37 rfl (lv_at hl 1 rfl) ?_
      refine va_get (D := (dC, dI)) (ci := 0) (v := .int a1_1) (C := RX0) (T := TX0) (N := 15) hx hb hts zi_X2_chooseLook_0 hown hK hP 1 rfl rfl 1 (by decide) (hts (.fieldLink RX2 61 "WaxTurns$Hall" "span" "I") (zm_X2_chooseLook_r1 (List.mem_of_getElem? (i := 4) rfl))) (fun _ h9 => h9) rfl dX2_chooseLook_38 ?_
      refine lv_if_gt (tgt := 45) hx hb dX2_chooseLook_41 (by decide) (fun c41 => ?_) (fun c41 => ?_)
      · have gc41 := ai_lt c41
        have l41t_a1_1 : (1 : Int) ≤ a1_1.toInt := ai_ltlo gc41 zq5
        refine lv_bipush (v := 99) hx hb dX2_chooseLook_45 zk_bipush_99 ?_
        refine lv_aload_n hx hb dX2_chooseLook_47 rfl (lv_at hl 1 rfl) ?_
        refine va_get (D := (dC, dI)) (ci := 0) (v := .int a1_1) (C := RX0) (T := TX0) (N := 15) hx hb hts zi_X2_chooseLook_0 hown hK hP 1 rfl rfl 1 (by decide) (hts (.fieldLink RX2 61 "WaxTurns$Hall" "span" "I") (zm_X2_chooseLook_r1 (List.mem_of_getElem? (i := 4) rfl))) (fun _ h9 => h9) rfl dX2_chooseLook_48 ?_
        refine lv_idiv hx hb dX2_chooseLook_51 (ai_nz l41t_a1_1 (by decide)) ?_
        refine lv_topi (fun x51 ex51 => ?_)
        have qx51 := ai_div ex51 ⟨(Int.le_trans zq41 zq42), zq43⟩ (Int.lt_of_lt_of_le zq19 l41t_a1_1)
        refine lv_iconst (v := 1) hx hb dX2_chooseLook_52 zk_iconst_1 ?_
        refine lv_iadd hx hb dX2_chooseLook_53 ?_
        refine lv_topi (fun x53 ex53 => ?_)
        have qx53 : x53.toInt = x51.toInt + (1 : Int32).toInt := ai_add ex53 ⟨qx51.2.1, qx51.2.2⟩ ⟨zq1, zq0⟩ (by decide) (by decide)
        have bx53 : (1 : Int) ≤ x53.toInt ∧ x53.toInt ≤ 100 := ⟨by rw [qx53]; exact Int.add_le_add qx51.2.1 zq1, by rw [qx53]; exact Int.add_le_add qx51.2.2 zq0⟩
        have wx53 : x53.toInt = x51.toInt + 1 := qx53
        refine lv_istore_n (lv' := [(2, .int x53), (0, .ref a0), (1, .ref a1)]) hx hb dX2_chooseLook_54 rfl hl (by decide) rfl (fun ls hl => ?_)
        refine lv_aload_n hx hb dX2_chooseLook_55 rfl (lv_at hl 1 rfl) ?_
        refine lv_aload_n hx hb dX2_chooseLook_56 rfl (lv_at hl 2 rfl) ?_
        refine va_get (D := (dC, dI)) (ci := 0) (v := .int a1_0) (C := RX0) (T := TX0) (N := 15) hx hb hts zi_X2_chooseLook_0 hown hK hP 1 rfl rfl 0 (by decide) (hts (.fieldLink RX2 29 "WaxTurns$Hall" "figures" "I") (zm_X2_chooseLook_r1 (List.mem_of_getElem? (i := 5) rfl))) (fun _ h9 => h9) rfl dX2_chooseLook_57 ?_
        refine lv_iload_n hx hb dX2_chooseLook_60 rfl (lv_at hl 0 rfl) ?_
        refine zc_cutc (wc := [(a0, .inr (2, [.int v10na0_0, .int (-2), .int (-2), .ref a0_3, .ref a0_4, .int v10na0_5, .int 1])), (a0_4, .inl (ka0_4, 900, .inl (fa0_4))), (a0_3, .inl (ka0_3, 729, .inl (v10nfa0_3)))]) hP hD hS hA [0, 5, 2] (by decide +kernel) rfl (fun hPc hDc hFc hCc => ?_)
        have hKc := hK.sub (tys' := [(ka0_4, .int), (ka0_3, .int)]) [3, 0] rfl
        refine va_callv (va_runV (As := [.int a1_0, .int x53]) (rest := []) ⟨hx, hb, hml, hown, hts⟩ (c_X2_tally l dC dI H.size a0 a1_0 x53 v10na0_0 (.int (-2)) (.int (-2)) (.int v10na0_5) (.int 1) a0_3 a0_4 ka0_4 fa0_4 ka0_3 v10nfa0_3 ba1_0_l ba1_0_u (Int.le_trans zq4 l34f_v10na0_0) bv10na0_0.2 bv10nfa0_3) (cwV 2 hts gX2_chooseLook_X2_tally rfl rfl rfl zd_X2_tally ⟨Nat.le_of_ble_eq_true rfl, Nat.le_of_ble_eq_true rfl⟩) ⟨ax_blind (fun _ _ _ _ _ => trivial), zr_2 hKc hPc (q0 := 0) rfl, ax_pre hPc hKc hDc (fun _ _ => trivial)⟩ rfl rfl hl.1 rfl (lv_room (Nat.le_of_ble_eq_true rfl)) dX2_chooseLook_61 ⟨Nat.le_of_ble_eq_true rfl, Nat.le_of_ble_eq_true rfl⟩) hS (fun q _ h => hFc q h) hFc (fun u t H locs ht hvm hw => zx_1 (fun v61nfa0_4 hB hz1 hk1 hS1 => zo hB ht hS1 (fun hP1 hK1 hD1 hS => ?_)))
        refine zc_backc (w := [(a0, .inr (2, [.int v10na0_0, .int (-2), .int (-2), .ref a0_3, .ref a0_4, .int v10na0_5, .int 1])), (a1, .inr (0, [.int a1_0, .int a1_1, a1g_2, a1g_3, a1g_4, a1g_5, a1g_6, a1g_7, a1g_8, .int a1_9, a1g_10, a1g_11, .ref a1_12, .ref a1_13, a1g_14])), (a0_3, .inl (ka0_3, 729, .inl (v10nfa0_3))), (a1_13, .inl (ka1_13, 6, .inl (fa1_13))), (a1_12, .inl (ka1_12, 6, .inl (fa1_12))), (a0_4, .inl (ka0_4, 900, .inl (v61nfa0_4)))]) hP hD hCc hk1 hFc hP1 hD1 [.inr 0, .inl 1, .inr 2, .inl 3, .inl 4, .inr 1] (by decide +kernel) rfl (fun hP hD => ?_)
        refine lv_iconst (v := 0) hx hb dX2_chooseLook_64 zk_iconst_0 ?_
        refine lv_istore_n (lv' := [(3, .int 0), (2, .int x53), (0, .ref a0), (1, .ref a1)]) hx hb dX2_chooseLook_65 rfl hl (by decide) rfl (fun ls hl => ?_)
        have J66 : ∀ (n : Nat) (j66l3 : Int32) (j66a0_1 : Int32) (j66a0_2 : Int32) (H : Heap) (locs : List Loc) (ls : Array Slot), (101 : Int) - j66l3.toInt ≤ (n : Int) → (0 : Int) ≤ j66l3.toInt → j66l3.toInt ≤ (100 : Int) → va_P (dC, dI) vwCl [(a0, .inr (2, [.int v10na0_0, .int j66a0_1, .int j66a0_2, .ref a0_3, .ref a0_4, .int v10na0_5, .int 1])), (a1, .inr (0, [.int a1_0, .int a1_1, a1g_2, a1g_3, a1g_4, a1g_5, a1g_6, a1g_7, a1g_8, .int a1_9, a1g_10, a1g_11, .ref a1_12, .ref a1_13, a1g_14])), (a0_3, .inl (ka0_3, 729, .inl (v10nfa0_3))), (a1_13, .inl (ka1_13, 6, .inl (fa1_13))), (a1_12, .inl (ka1_12, 6, .inl (fa1_12))), (a0_4, .inl (ka0_4, 900, .inl (v61nfa0_4)))] H → va_D A [(a0, .inr (2, [.int v10na0_0, .int j66a0_1, .int j66a0_2, .ref a0_3, .ref a0_4, .int v10na0_5, .int 1])), (a1, .inr (0, [.int a1_0, .int a1_1, a1g_2, a1g_3, a1g_4, a1g_5, a1g_6, a1g_7, a1g_8, .int a1_9, a1g_10, a1g_11, .ref a1_12, .ref a1_13, a1g_14])), (a0_3, .inl (ka0_3, 729, .inl (v10nfa0_3))), (a1_13, .inl (ka1_13, 6, .inl (fa1_13))), (a1_12, .inl (ka1_12, 6, .inl (fa1_12))), (a0_4, .inl (ka0_4, 900, .inl (v61nfa0_4)))] → va_S A s.heap H locs → lv_has ls 5 [(0, .ref a0), (1, .ref a1), (2, .int x53), (3, .int j66l3)] → K H locs (F0 m 66 ls []) := by
          intro n
          induction n with
          | zero =>
            intro j66l3 j66a0_1 j66a0_2 H locs ls hm bj66l3_l bj66l3_u hP hD hS hl
            first | exact zg_0 hm bj66l3_u (by decide) | (have h8 := ai_min j66l3; have h9 := ai_max j66l3; exact absurd hm (by omega))
          | succ n ih66 =>
            intro j66l3 j66a0_1 j66a0_2 H locs ls hm bj66l3_l bj66l3_u hP hD hS hl
            refine (hK0 _ _ _).mpr ?_
            have hm66 := hm
            refine lv_iload_n hx hb dX2_chooseLook_66 rfl (lv_at hl 3 rfl) ?_
            refine lv_iload_n hx hb dX2_chooseLook_67 rfl (lv_at hl 2 rfl) ?_
            refine lv_icmp_ge (tgt := 118) hx hb dX2_chooseLook_68 (by decide) (fun c68 => ?_) (fun c68 => ?_)
            · have gc68 := ai_le c68
              have u68t_x53 : x53.toInt ≤ (100 : Int) := bx53.2
              have l68t_j66l3 : (1 : Int) ≤ j66l3.toInt := Int.le_trans bx53.1 gc68
              exact W.vret hx hb hr (fun t ht hW => ⟨⟨(), rfl, trivial, v10na0_0, j66a0_1, j66a0_2, v10na0_5, 1, v10nfa0_3, v61nfa0_4, ⟨Int.le_trans (by decide) l34f_v10na0_0, bv10na0_0.2⟩, ⟨bv10na0_5.1, bv10na0_5.2⟩, ⟨Int.le_trans (by decide) zq1, zq0⟩, bv10nfa0_3, by rw [ht]; exact hP, va_K.moved hW.alike hK, hD⟩, hS.F ht⟩) hS.2.2 dX2_chooseLook_118
            · have gc68 := ai_nle c68
              have u68f_j66l3 : j66l3.toInt ≤ (99 : Int) := ai_lthi gc68 bx53.2
              have l68f_x53 : (1 : Int) ≤ x53.toInt := bx53.1
              refine lv_aload_n hx hb dX2_chooseLook_71 rfl (lv_at hl 0 rfl) ?_
              refine lv_iload_n hx hb dX2_chooseLook_72 rfl (lv_at hl 3 rfl) ?_
              refine zc_cutc (wc := [(a0, .inr (2, [.int v10na0_0, .int j66a0_1, .int j66a0_2, .ref a0_3, .ref a0_4, .int v10na0_5, .int 1])), (a0_4, .inl (ka0_4, 900, .inl (v61nfa0_4)))]) hP hD hS hA [0, 5] (by decide +kernel) rfl (fun hPc hDc hFc hCc => ?_)
              have hKc := hK.sub (tys' := [(ka0_4, .int)]) [3] rfl
              refine va_calli (va_runV (As := [.int j66l3]) (rest := []) ⟨hx, hb, hml, hown, hts⟩ (c_X2_mostOf l dC dI H.size a0 j66l3 (.int v10na0_0) (.int j66a0_1) (.int j66a0_2) (.ref a0_3) (.int v10na0_5) (.int 1) a0_4 ka0_4 v61nfa0_4 bj66l3_l u68f_j66l3) (cwV 1 hts gX2_chooseLook_X2_mostOf rfl rfl rfl zd_X2_mostOf ⟨Nat.le_of_ble_eq_true rfl, Nat.le_of_ble_eq_true rfl⟩) ⟨ax_blind (fun _ _ _ _ _ => trivial), zr_2 hKc hPc (q0 := 0) rfl, ax_pre hPc hKc hDc (fun _ _ => trivial)⟩ rfl rfl hl.1 rfl (lv_room (Nat.le_of_ble_eq_true rfl)) dX2_chooseLook_73 ⟨Nat.le_of_ble_eq_true rfl, Nat.le_of_ble_eq_true rfl⟩) hS (fun q _ h => hFc q h) hFc (fun r73 u t H locs ht hvm hw hB hz1 hk1 hS1 => zo hB ht hS1 (fun hP1 hK1 hD1 hS => ?_))
              refine zc_backc (w := [(a0, .inr (2, [.int v10na0_0, .int j66a0_1, .int j66a0_2, .ref a0_3, .ref a0_4, .int v10na0_5, .int 1])), (a1, .inr (0, [.int a1_0, .int a1_1, a1g_2, a1g_3, a1g_4, a1g_5, a1g_6, a1g_7, a1g_8, .int a1_9, a1g_10, a1g_11, .ref a1_12, .ref a1_13, a1g_14])), (a0_3, .inl (ka0_3, 729, .inl (v10nfa0_3))), (a1_13, .inl (ka1_13, 6, .inl (fa1_13))), (a1_12, .inl (ka1_12, 6, .inl (fa1_12))), (a0_4, .inl (ka0_4, 900, .inl (v61nfa0_4)))]) hP hD hCc hk1 hFc hP1 hD1 [.inr 0, .inl 1, .inl 2, .inl 3, .inl 4, .inr 1] (by decide +kernel) rfl (fun hP hD => ?_)
              refine lv_istore (lv' := [(4, .int r73), (0, .ref a0), (1, .ref a1), (2, .int x53), (3, .int j66l3)]) hx hb dX2_chooseLook_76 hl (by decide) rfl (fun ls hl => ?_)
              refine lv_aload_n hx hb dX2_chooseLook_78 rfl (lv_at hl 1 rfl) ?_
              refine va_get (D := (dC, dI)) (ci := 2) (v := .int j66a0_2) (C := RX2) (T := TX2) (N := 7) hx hb hts zi_X2_chooseLook_2 hown hK hP 0 rfl rfl 2 (by decide) (hts (.fieldLink RX2 58 "WaxTurns$Laws" "lookMost" "I") (zm_X2_chooseLook_r1 (List.mem_of_getElem? (i := 2) rfl))) (fun _ h9 => h9) rfl dX2_chooseLook_79 ?_
              refine lv_bipush (v := (-2)) hx hb dX2_chooseLook_82 zk_bipush_n2 ?_
              have J112 : ∀ (j112a0_1 : Int32) (j112a0_2 : Int32) (H : Heap) (locs : List Loc) (ls : Array Slot), va_P (dC, dI) vwCl [(a0, .inr (2, [.int v10na0_0, .int j112a0_1, .int j112a0_2, .ref a0_3, .ref a0_4, .int v10na0_5, .int 1])), (a1, .inr (0, [.int a1_0, .int a1_1, a1g_2, a1g_3, a1g_4, a1g_5, a1g_6, a1g_7, a1g_8, .int a1_9, a1g_10, a1g_11, .ref a1_12, .ref a1_13, a1g_14])), (a0_3, .inl (ka0_3, 729, .inl (v10nfa0_3))), (a1_13, .inl (ka1_13, 6, .inl (fa1_13))), (a1_12, .inl (ka1_12, 6, .inl (fa1_12))), (a0_4, .inl (ka0_4, 900, .inl (v61nfa0_4)))] H → va_D A [(a0, .inr (2, [.int v10na0_0, .int j112a0_1, .int j112a0_2, .ref a0_3, .ref a0_4, .int v10na0_5, .int 1])), (a1, .inr (0, [.int a1_0, .int a1_1, a1g_2, a1g_3, a1g_4, a1g_5, a1g_6, a1g_7, a1g_8, .int a1_9, a1g_10, a1g_11, .ref a1_12, .ref a1_13, a1g_14])), (a0_3, .inl (ka0_3, 729, .inl (v10nfa0_3))), (a1_13, .inl (ka1_13, 6, .inl (fa1_13))), (a1_12, .inl (ka1_12, 6, .inl (fa1_12))), (a0_4, .inl (ka0_4, 900, .inl (v61nfa0_4)))] → va_S A s.heap H locs → lv_has ls 5 [(0, .ref a0), (1, .ref a1), (2, .int x53), (3, .int j66l3)] → K H locs (F0 m 112 ls []) := by
                intro j112a0_1 j112a0_2 H locs ls   hP hD hS hl
                refine (hK0 _ _ _).mpr ?_
                obtain ⟨x112, ex112⟩ : ∃ y : Int32, y = j66l3 + Int32.ofInt 1 := ⟨_, rfl⟩
                have qx112 : x112.toInt = j66l3.toInt + 1 := ai_inc ex112 (by decide) (by decide) u68f_j66l3 (by decide)
                have bx112 : (1 : Int) ≤ x112.toInt ∧ x112.toInt ≤ 100 := ⟨by rw [qx112]; exact Int.add_le_add bj66l3_l (Int.le_refl _), by rw [qx112]; exact Int.add_le_add u68f_j66l3 (Int.le_refl _)⟩
                refine lv_iinc (v := x112) (lv' := [(3, .int x112), (0, .ref a0), (1, .ref a1), (2, .int x53)]) hx hb dX2_chooseLook_112 hl (k := 3) rfl ex112.symm (by decide) rfl (fun ls hl => ?_)
                refine lv_goto (tgt := 66) hx hb dX2_chooseLook_115 (by decide) ?_
                exact (hK0 _ _ _).mp (ih66 x112 j112a0_1 j112a0_2 _ _ _ (by first | exact zg_s hm66 qx112 | (have h0 := qx112; omega)) (Int.le_trans zq4 bx112.1) bx112.2 hP hD hS (lv_sub hl [1, 2, 3, 0] rfl))
              have J96 : ∀ (H : Heap) (locs : List Loc) (ls : Array Slot), va_P (dC, dI) vwCl [(a0, .inr (2, [.int v10na0_0, .int j66a0_1, .int j66a0_2, .ref a0_3, .ref a0_4, .int v10na0_5, .int 1])), (a1, .inr (0, [.int a1_0, .int a1_1, a1g_2, a1g_3, a1g_4, a1g_5, a1g_6, a1g_7, a1g_8, .int a1_9, a1g_10, a1g_11, .ref a1_12, .ref a1_13, a1g_14])), (a0_3, .inl (ka0_3, 729, .inl (v10nfa0_3))), (a1_13, .inl (ka1_13, 6, .inl (fa1_13))), (a1_12, .inl (ka1_12, 6, .inl (fa1_12))), (a0_4, .inl (ka0_4, 900, .inl (v61nfa0_4)))] H → va_D A [(a0, .inr (2, [.int v10na0_0, .int j66a0_1, .int j66a0_2, .ref a0_3, .ref a0_4, .int v10na0_5, .int 1])), (a1, .inr (0, [.int a1_0, .int a1_1, a1g_2, a1g_3, a1g_4, a1g_5, a1g_6, a1g_7, a1g_8, .int a1_9, a1g_10, a1g_11, .ref a1_12, .ref a1_13, a1g_14])), (a0_3, .inl (ka0_3, 729, .inl (v10nfa0_3))), (a1_13, .inl (ka1_13, 6, .inl (fa1_13))), (a1_12, .inl (ka1_12, 6, .inl (fa1_12))), (a0_4, .inl (ka0_4, 900, .inl (v61nfa0_4)))] → va_S A s.heap H locs → lv_has ls 5 [(0, .ref a0), (1, .ref a1), (2, .int x53), (3, .int j66l3), (4, .int r73)] → K H locs (F0 m 96 ls []) := by
                intro  H locs ls   hP hD hS hl
                refine (hK0 _ _ _).mpr ?_
                refine lv_aload_n hx hb dX2_chooseLook_96 rfl (lv_at hl 0 rfl) ?_
                refine lv_iload hx hb dX2_chooseLook_97 (lv_at hl 4 rfl) ?_
                refine va_put (D := (dC, dI)) (ci := 2) (v := .int r73) (ty := .int) (C := RX2) (T := TX2) (N := 7) hx hb hts zi_X2_chooseLook_2 tyX2 tyX2_ok nmX2 hown hK hP hD hS 0 rfl rfl 2 (by decide) (hts (.fieldLink RX2 58 "WaxTurns$Laws" "lookMost" "I") (zm_X2_chooseLook_r1 (List.mem_of_getElem? (i := 2) rfl))) (fun _ h9 => h9) rfl (tyX2_ok 2 (by decide)) rfl rfl (Nat.le_of_ble_eq_true rfl) dX2_chooseLook_99 (fun H locs hP hD hS => ?_)
                refine zs_0 (y := (a0, .inr (2, [.int v10na0_0, .int j66a0_1, .int r73, .ref a0_3, .ref a0_4, .int v10na0_5, .int 1]))) hP hD rfl (fun hP hD => ?_)
                refine lv_aload_n hx hb dX2_chooseLook_102 rfl (lv_at hl 0 rfl) ?_
                refine lv_iload_n hx hb dX2_chooseLook_103 rfl (lv_at hl 3 rfl) ?_
                refine lv_aload_n hx hb dX2_chooseLook_104 rfl (lv_at hl 1 rfl) ?_
                refine va_get (D := (dC, dI)) (ci := 0) (v := .int a1_1) (C := RX0) (T := TX0) (N := 15) hx hb hts zi_X2_chooseLook_0 hown hK hP 1 rfl rfl 1 (by decide) (hts (.fieldLink RX2 61 "WaxTurns$Hall" "span" "I") (zm_X2_chooseLook_r1 (List.mem_of_getElem? (i := 4) rfl))) (fun _ h9 => h9) rfl dX2_chooseLook_105 ?_
                refine lv_imul hx hb dX2_chooseLook_108 ?_
                refine lv_topi (fun x108 ex108 => ?_)
                refine va_put (D := (dC, dI)) (ci := 2) (v := .int x108) (ty := .int) (C := RX2) (T := TX2) (N := 7) hx hb hts zi_X2_chooseLook_2 tyX2 tyX2_ok nmX2 hown hK hP hD hS 0 rfl rfl 1 (by decide) (hts (.fieldLink RX2 55 "WaxTurns$Laws" "lookMinute" "I") (zm_X2_chooseLook_r1 (List.mem_of_getElem? (i := 1) rfl))) (fun _ h9 => h9) rfl (tyX2_ok 1 (by decide)) rfl rfl (Nat.le_of_ble_eq_true rfl) dX2_chooseLook_109 (fun H locs hP hD hS => ?_)
                refine zs_0 (y := (a0, .inr (2, [.int v10na0_0, .int x108, .int r73, .ref a0_3, .ref a0_4, .int v10na0_5, .int 1]))) hP hD rfl (fun hP hD => ?_)
                exact (hK0 _ _ _).mp (J112 x108 r73 _ _ _   hP hD hS (lv_sub hl [0, 1, 2, 3] rfl))
              refine lv_icmp_eq (tgt := 96) hx hb dX2_chooseLook_84 (by decide) (fun c84 => ?_) (fun c84 => ?_)
              · have gc84 := ai_eq c84
                have u84t_j66a0_2 : j66a0_2.toInt ≤ (-2 : Int) := Int.le_trans (Int.le_of_eq gc84) zq44
                have l84t_j66a0_2 : (-2 : Int) ≤ j66a0_2.toInt := Int.le_trans zq45 (Int.le_of_eq gc84.symm)
                exact (hK0 _ _ _).mp (J96  _ _ _   hP hD hS (lv_sub hl [1, 2, 3, 4, 0] rfl))
              · have gc84 := ai_ne c84
                refine lv_iload hx hb dX2_chooseLook_87 (lv_at hl 0 rfl) ?_
                refine lv_aload_n hx hb dX2_chooseLook_89 rfl (lv_at hl 1 rfl) ?_
                refine va_get (D := (dC, dI)) (ci := 2) (v := .int j66a0_2) (C := RX2) (T := TX2) (N := 7) hx hb hts zi_X2_chooseLook_2 hown hK hP 0 rfl rfl 2 (by decide) (hts (.fieldLink RX2 58 "WaxTurns$Laws" "lookMost" "I") (zm_X2_chooseLook_r1 (List.mem_of_getElem? (i := 2) rfl))) (fun _ h9 => h9) rfl dX2_chooseLook_90 ?_
                refine lv_icmp_ge (tgt := 112) hx hb dX2_chooseLook_93 (by decide) (fun c93 => ?_) (fun c93 => ?_)
                · have gc93 := ai_le c93
                  exact (hK0 _ _ _).mp (J112 j66a0_1 j66a0_2 _ _ _   hP hD hS (lv_sub hl [1, 2, 3, 4] rfl))
                · have gc93 := ai_nle c93
                  have u93f_r73 : r73.toInt ≤ (2147483646 : Int) := ai_lthi gc93 (ai_max j66a0_2)
                  have l93f_j66a0_2 : (-2147483647 : Int) ≤ j66a0_2.toInt := ai_ltlo gc93 (ai_min r73)
                  exact (hK0 _ _ _).mp (J96  _ _ _   hP hD hS (lv_sub hl [1, 2, 3, 4, 0] rfl))
        exact (hK0 _ _ _).mp (J66 101 0 (-2) (-2) _ _ _ (by first | decide +kernel | (have h1 : (0 : Int) ≤ (0 : Int32).toInt := zq5; have h2 : (0 : Int32).toInt ≤ (0 : Int) := zq6; omega)) zq5 (Int.le_trans zq6 zq38) hP hD hS (lv_sub hl [2, 3, 1, 0] rfl))
      · have gc41 := ai_nlt c41
        have u41f_a1_1 : a1_1.toInt ≤ (0 : Int) := Int.le_trans gc41 zq6
        exact W.vret hx hb hr (fun t ht hW => ⟨⟨(), rfl, trivial, v10na0_0, (-2), (-2), v10na0_5, 1, v10nfa0_3, fa0_4, ⟨Int.le_trans (by decide) l34f_v10na0_0, bv10na0_0.2⟩, ⟨bv10na0_5.1, bv10na0_5.2⟩, ⟨Int.le_trans (by decide) zq1, zq0⟩, bv10nfa0_3, by rw [ht]; exact hP, va_K.moved hW.alike hK, hD⟩, hS.F ht⟩) hS.2.2 dX2_chooseLook_44
  · have gc4 := ai_ne c4
    have l4f_a0_6 : (1 : Int) ≤ a0_6.toInt := (by first | exact zg_l ba0_6_l gc4 (by decide) (by decide) | (have h1 := ba0_6_l; have h2 : (0 : Int32).toInt = 0 := (by decide); rw [h2] at gc4; omega))
    exact W.vret hx hb hr (fun t ht hW => ⟨⟨(), rfl, trivial, a0_0, a0_1, a0_2, a0_5, a0_6, fa0_3, fa0_4, ⟨ba0_0_l, ba0_0_u⟩, ⟨ba0_5_l, ba0_5_u⟩, ⟨Int.le_trans (by decide) l4f_a0_6, ba0_6_u⟩, bfa0_3, by rw [ht]; exact hP, va_K.moved hW.alike hK, hD⟩, hS.F ht⟩) hS.2.2 dX2_chooseLook_7
end P103_safe
section P104_safe
set_option maxHeartbeats 4000000 in
set_option maxRecDepth 100000 in
theorem c_X4_aim (l : Launch) (dC : Nat → ClassId) (dI : Nat → Nat → Nat) (sz : Nat) (a0 : Nat) (a1 : Int32) (a2 : Int32) (a0g_0 a0g_2 : Value) (a0_1 : Nat) (ka0_1 : ClassId) (fa0_1 : Nat → Int32)  : zm l yX4_aim wsX4_aim ({ frames := 1, cells := 0, slots := 0, locals := 22 }) [.ref a0, .int a1, .int a2] dC dI sz [(a0, .inr (4, [a0g_0, .ref a0_1, a0g_2])), (a0_1, .inl (ka0_1, 61, .inl (fa0_1)))] [(ka0_1, .int)] (fun A U => va_Nw (.methodLinkNest RX4 18 yX7_within RX7) U) (fun A => va_Qv (fun (_ : Unit) => True) (fun (_ : Unit) (t : State) => ∃ nfa0_1 : Nat → Int32, ax_B dC dI A [(a0, .inr (4, [a0g_0, .ref a0_1, a0g_2])), (a0_1, .inl (ka0_1, 61, .inl (nfa0_1)))] [(ka0_1, .int)] t) A) := by
  refine zh (cc := cX4_aim) (maxL := 3) (ret := none) zn_RX4 rfl (Nat.le_of_ble_eq_true rfl) (fun p e s m below meth c A ls hx hb hml hr hts (hown : s.vm.findClass RX4 = some m.cls) hlocks hA hS hP hK hD hE (hl : lv_has ls 3 [(0, .ref a0), (1, .int a1), (2, .int a2)]) => ?_)
  have hE0 := hE
  refine lv_iload_n hx hb dX4_aim_0 rfl (lv_at hl 1 rfl) ?_
  refine lv_iconst (v := 1) hx hb dX4_aim_1 zk_iconst_1 ?_
  refine lv_bipush (v := 60) hx hb dX4_aim_2 zk_bipush_60 ?_
  refine va_calli (va_runSN (As := [.int a1, .int 1, .int 60]) (rest := []) ⟨hx, hb, hml, hown, hts⟩ (c_X7_within l dC dI s.heap.size a1 1 60 ) ⟨va_cnB 3 hts gX4_aim_X7_within_n18 rfl rfl rfl hE0 (hts (.initialized RX7) (List.mem_cons_of_mem _ (List.mem_append_left _ (List.mem_of_getElem? (i := 2) rfl)))) zd_X7_within.2 ⟨Nat.le_of_ble_eq_true rfl, Nat.le_of_ble_eq_true rfl⟩, (hts (.static yX7_within) (List.mem_cons_of_mem _ (List.mem_append_left _ (List.mem_of_getElem? (i := 1) rfl)))), trivial⟩ ⟨ax_blind (fun _ _ _ _ _ => trivial), ax_pre (zp_P0 hP) (zp_K hK) (zp_D0 hD) (fun _ _ => trivial)⟩ rfl rfl hl.1 rfl (lv_room (Nat.le_of_ble_eq_true rfl)) dX4_aim_4 ⟨Nat.le_of_ble_eq_true rfl, Nat.le_of_ble_eq_true rfl⟩) hS (fun q _ h => zp_F0 hD hS hA q h) (zp_F0 hD hS hA) (fun r4 u t H locs ht hvm hw hB hz1 hk1 hS1 => zo0 hB ht hP hD hk1 (zp_F0 hD hS hA) hS1 (fun hP hK1 hD hS => ?_))
  rcases hw with hw | hw
  · obtain ⟨hw, h4⟩ := hw
    subst hw
    have l4k0_a1 : (1 : Int) ≤ a1.toInt := Int.le_trans zq1 h4.1
    have u4k0_a1 : a1.toInt ≤ (60 : Int) := Int.le_trans h4.2 zq46
    refine lv_if_eq (tgt := 17) hx hb dX4_aim_7 (by decide) (fun c7 => absurd c7 (by decide +kernel)) (fun _ => ?_)
    refine lv_aload_n hx hb dX4_aim_10 rfl (lv_at hl 0 rfl) ?_
    refine va_get (D := (dC, dI)) (ci := 4) (v := .ref a0_1) (C := RX4) (T := TX4) (N := 3) hx hb hts zi_X4_aim_4 hown hK hP 0 rfl rfl 1 (by decide) (hts (.fieldLink RX4 9 "WaxTurns$Routes" "aims" "[I") (List.mem_cons_of_mem _ (List.mem_append_left _ (List.mem_of_getElem? (i := 0) rfl)))) (fun _ h9 => h9) rfl dX4_aim_11 ?_
    refine lv_iload_n hx hb dX4_aim_14 rfl (lv_at hl 1 rfl) ?_
    refine lv_iload_n hx hb dX4_aim_15 rfl (lv_at hl 2 rfl) ?_
    refine va_iast hx hb hK hP hD hS 1 0 rfl rfl (ai_in l4k0_a1 u4k0_a1 (by decide) (by decide)) dX4_aim_16 (fun H locs hP hD hS => ?_)
    obtain ⟨f16, hP, hD⟩ : ∃ f16 : Nat → Int32, va_P (dC, dI) vwCl [(a0, .inr (4, [a0g_0, .ref a0_1, a0g_2])), (a0_1, .inl (ka0_1, 61, .inl (f16)))] H ∧ va_D A [(a0, .inr (4, [a0g_0, .ref a0_1, a0g_2])), (a0_1, .inl (ka0_1, 61, .inl (f16)))] := ⟨_, hP, hD⟩
    exact W.vret hx hb hr (fun t ht hW => ⟨⟨(), rfl, trivial, f16, by rw [ht]; exact hP, va_K.moved hW.alike hK, hD⟩, hS.F ht⟩) hS.2.2 dX4_aim_17
  · obtain ⟨hw, h4⟩ := hw
    subst hw
    refine lv_if_eq (tgt := 17) hx hb dX4_aim_7 (by decide) (fun _ => ?_) (fun c7 => absurd (by decide +kernel) c7)
    exact W.vret hx hb hr (fun t ht hW => ⟨⟨(), rfl, trivial, fa0_1, by rw [ht]; exact hP, va_K.moved hW.alike hK, hD⟩, hS.F ht⟩) hS.2.2 dX4_aim_17

set_option maxHeartbeats 4000000 in
set_option maxRecDepth 100000 in
theorem c_X4_worth (l : Launch) (dC : Nat → ClassId) (dI : Nat → Nat → Nat) (sz : Nat) (a0 : Nat) (a1 : Int32) (a2 : Int32) (a0g_0 : Value) (a0_1 : Nat) (a0_2 : Nat) (ka0_2 : ClassId) (fa0_2 : Nat → Int32) (ka0_1 : ClassId) (fa0_1 : Nat → Int32) (ba1_l : (0 : Int) ≤ a1.toInt) (ba1_u : a1.toInt ≤ (60 : Int)) (ba2_l : (0 : Int) ≤ a2.toInt) (ba2_u : a2.toInt ≤ (8 : Int)) : zm l yX4_worth wsX4_worth ({ frames := 0, cells := 0, slots := 0, locals := 0 }) [.ref a0, .int a1, .int a2] dC dI sz [(a0, .inr (4, [a0g_0, .ref a0_1, .ref a0_2])), (a0_2, .inl (ka0_2, 549, .inl (fa0_2))), (a0_1, .inl (ka0_1, 61, .inl (fa0_1)))] [(ka0_2, .int), (ka0_1, .int)] (fun A _ => True) (fun A => va_Qi (fun (r : Int32) (_ : Unit) => True) (fun (_ : Unit) (t : State) => ax_B dC dI A [(a0, .inr (4, [a0g_0, .ref a0_1, .ref a0_2])), (a0_2, .inl (ka0_2, 549, .inl (fa0_2))), (a0_1, .inl (ka0_1, 61, .inl (fa0_1)))] [(ka0_2, .int), (ka0_1, .int)] t) A) := by
  refine zh (cc := cX4_worth) (maxL := 3) (ret := (some .int)) zn_RX4 rfl (Nat.le_of_ble_eq_true rfl) (fun p e s m below meth c A ls hx hb hml hr hts (hown : s.vm.findClass RX4 = some m.cls) hlocks hA hS hP hK hD hE (hl : lv_has ls 3 [(0, .ref a0), (1, .int a1), (2, .int a2)]) => ?_)
  refine lv_aload_n hx hb dX4_worth_0 rfl (lv_at hl 0 rfl) ?_
  refine va_get (D := (dC, dI)) (ci := 4) (v := .ref a0_2) (C := RX4) (T := TX4) (N := 3) hx hb hts zi_X4_worth_4 hown hK hP 0 rfl rfl 2 (by decide) (hts (.fieldLink RX4 15 "WaxTurns$Routes" "bestBehind" "[I") (List.mem_cons_of_mem _ (List.mem_append_left _ (List.mem_of_getElem? (i := 0) rfl)))) (fun _ h9 => h9) rfl dX4_worth_1 ?_
  refine lv_iload_n hx hb dX4_worth_4 rfl (lv_at hl 1 rfl) ?_
  refine lv_bipush (v := 9) hx hb dX4_worth_5 zk_bipush_9 ?_
  refine lv_imul hx hb dX4_worth_7 ?_
  refine lv_topi (fun x7 ex7 => ?_)
  have qx7 : x7.toInt = a1.toInt * (9 : Int32).toInt ∧ (0 : Int) ≤ x7.toInt ∧ x7.toInt ≤ 540 := ai_mul ex7 ⟨ba1_l, ba1_u⟩ ⟨zq2, zq3⟩ (by decide) (by decide) zq47
  have wx7 : x7.toInt = a1.toInt * 9 := qx7.1
  refine lv_iload_n hx hb dX4_worth_8 rfl (lv_at hl 2 rfl) ?_
  refine lv_iadd hx hb dX4_worth_9 ?_
  refine lv_topi (fun x9 ex9 => ?_)
  have qx9 : x9.toInt = x7.toInt + a2.toInt := ai_add ex9 ⟨qx7.2.1, qx7.2.2⟩ ⟨ba2_l, ba2_u⟩ (by decide) (by decide)
  have bx9 : (0 : Int) ≤ x9.toInt ∧ x9.toInt ≤ 548 := ⟨by rw [qx9]; exact Int.add_le_add qx7.2.1 ba2_l, by rw [qx9]; exact Int.add_le_add qx7.2.2 ba2_u⟩
  refine va_iald hx hb hK hP 1 0 rfl rfl (ai_in bx9.1 bx9.2 (by decide) (by decide)) dX4_worth_10 ?_
  refine lv_topi (fun x10 ex10 => ?_)
  refine lv_aload_n hx hb dX4_worth_11 rfl (lv_at hl 0 rfl) ?_
  refine va_get (D := (dC, dI)) (ci := 4) (v := .ref a0_1) (C := RX4) (T := TX4) (N := 3) hx hb hts zi_X4_worth_4 hown hK hP 0 rfl rfl 1 (by decide) (hts (.fieldLink RX4 9 "WaxTurns$Routes" "aims" "[I") (List.mem_cons_of_mem _ (List.mem_append_left _ (List.mem_of_getElem? (i := 1) rfl)))) (fun _ h9 => h9) rfl dX4_worth_12 ?_
  refine lv_iload_n hx hb dX4_worth_15 rfl (lv_at hl 1 rfl) ?_
  refine va_iald hx hb hK hP 2 1 rfl rfl (ai_in ba1_l ba1_u (by decide) (by decide)) dX4_worth_16 ?_
  refine lv_topi (fun x16 ex16 => ?_)
  refine lv_iload_n hx hb dX4_worth_17 rfl (lv_at hl 2 rfl) ?_
  refine lv_icmp_ne (tgt := 25) hx hb dX4_worth_18 (by decide) (fun c18 => ?_) (fun c18 => ?_)
  · have gc18 := ai_ne c18
    refine lv_iconst (v := 0) hx hb dX4_worth_25 zk_iconst_0 ?_
    refine lv_iadd hx hb dX4_worth_26 ?_
    refine lv_topi (fun x26 ex26 => ?_)
    have qx26 : x26.toInt = x10.toInt + (0 : Int32).toInt := ai_add ex26 ⟨(ai_min x10), (ai_max x10)⟩ ⟨zq5, zq6⟩ (by decide) (by decide)
    have bx26 : (-2147483648 : Int) ≤ x26.toInt ∧ x26.toInt ≤ 2147483647 := ⟨by rw [qx26]; exact Int.add_le_add (ai_min x10) zq5, by rw [qx26]; exact Int.add_le_add (ai_max x10) zq6⟩
    have wx26 : x26.toInt = x10.toInt + 0 := qx26
    exact W.iret (v := x26) hx hb hr (fun t ht hW => ⟨⟨x26, (), rfl, trivial, by rw [ht]; exact hP, va_K.moved hW.alike hK, hD⟩, hS.F ht⟩) hS.2.2 dX4_worth_27
  · have gc18 := ai_eq c18
    have u18f_x16 : x16.toInt ≤ (8 : Int) := Int.le_trans (Int.le_of_eq gc18) ba2_u
    have l18f_x16 : (0 : Int) ≤ x16.toInt := Int.le_trans ba2_l (Int.le_of_eq gc18.symm)
    refine lv_iconst (v := 1) hx hb dX4_worth_21 zk_iconst_1 ?_
    refine lv_goto (tgt := 26) hx hb dX4_worth_22 (by decide) ?_
    refine lv_iadd hx hb dX4_worth_26 ?_
    refine lv_topi (fun x26 ex26 => ?_)
    exact W.iret (v := x26) hx hb hr (fun t ht hW => ⟨⟨x26, (), rfl, trivial, by rw [ht]; exact hP, va_K.moved hW.alike hK, hD⟩, hS.F ht⟩) hS.2.2 dX4_worth_27

set_option maxHeartbeats 4000000 in
set_option maxRecDepth 100000 in
theorem c_X4_step (l : Launch) (dC : Nat → ClassId) (dI : Nat → Nat → Nat) (sz : Nat) (a0 : Nat) (a1 : Int32) (a2 : Int32) (a0_0 : Int32) (a0_1 : Nat) (a0_2 : Nat) (ka0_2 : ClassId) (fa0_2 : Nat → Int32) (ka0_1 : ClassId) (fa0_1 : Nat → Int32) (ba1_l : (0 : Int) ≤ a1.toInt) (ba1_u : a1.toInt ≤ (60 : Int)) (ba2_l : (0 : Int) ≤ a2.toInt) (ba2_u : a2.toInt ≤ (8 : Int)) (ba0_0_l : (0 : Int) ≤ a0_0.toInt) (ba0_0_u : a0_0.toInt ≤ (9 : Int)) : zm l yX4_step wsX4_step ({ frames := 1, cells := 0, slots := 0, locals := 22 }) [.ref a0, .int a1, .int a2] dC dI sz [(a0, .inr (4, [.int a0_0, .ref a0_1, .ref a0_2])), (a0_2, .inl (ka0_2, 549, .inl (fa0_2))), (a0_1, .inl (ka0_1, 61, .inl (fa0_1)))] [(ka0_2, .int), (ka0_1, .int)] (fun A _ => True) (fun A => va_Qi (fun (r : Int32) (_ : Unit) => (0 : Int) ≤ r.toInt ∧ r.toInt ≤ (8 : Int)) (fun (_ : Unit) (t : State) => ax_B dC dI A [(a0, .inr (4, [.int a0_0, .ref a0_1, .ref a0_2])), (a0_2, .inl (ka0_2, 549, .inl (fa0_2))), (a0_1, .inl (ka0_1, 61, .inl (fa0_1)))] [(ka0_2, .int), (ka0_1, .int)] t) A) := by
  refine zh (cc := cX4_step) (maxL := 4) (ret := (some .int)) zn_RX4 rfl (Nat.le_of_ble_eq_true rfl) (fun p e s m below meth c A ls hx hb hml hr hts (hown : s.vm.findClass RX4 = some m.cls) hlocks hA hS hP hK hD hE (hl : lv_has ls 4 [(0, .ref a0), (1, .int a1), (2, .int a2)]) => ?_)
  refine lv_iload_n hx hb dX4_step_0 rfl (lv_at hl 2 rfl) ?_
  refine lv_istore_n (lv' := [(3, .int a2), (0, .ref a0), (1, .int a1), (2, .int a2)]) hx hb dX4_step_1 rfl hl (by decide) rfl (fun ls hl => ?_)
  refine lv_iload_n hx hb dX4_step_2 rfl (lv_at hl 3 rfl) ?_
  refine lv_if_le (tgt := 27) hx hb dX4_step_3 (by decide) (fun c3 => ?_) (fun c3 => ?_)
  · have gc3 := ai_le c3
    have u3t_a2 : a2.toInt ≤ (0 : Int) := Int.le_trans gc3 zq6
    refine lv_iload_n hx hb dX4_step_27 rfl (lv_at hl 3 rfl) ?_
    refine lv_iconst (v := 1) hx hb dX4_step_28 zk_iconst_1 ?_
    refine lv_iadd hx hb dX4_step_29 ?_
    refine lv_topi (fun x29 ex29 => ?_)
    have qx29 : x29.toInt = a2.toInt + (1 : Int32).toInt := ai_add ex29 ⟨ba2_l, u3t_a2⟩ ⟨zq1, zq0⟩ (by decide) (by decide)
    have bx29 : (1 : Int) ≤ x29.toInt ∧ x29.toInt ≤ 1 := ⟨by rw [qx29]; exact Int.add_le_add ba2_l zq1, by rw [qx29]; exact Int.add_le_add u3t_a2 zq0⟩
    have wx29 : x29.toInt = a2.toInt + 1 := qx29
    refine lv_aload_n hx hb dX4_step_30 rfl (lv_at hl 1 rfl) ?_
    refine va_get (D := (dC, dI)) (ci := 4) (v := .int a0_0) (C := RX4) (T := TX4) (N := 3) hx hb hts zi_X4_step_4 hown hK hP 0 rfl rfl 0 (by decide) (hts (.fieldLink RX4 28 "WaxTurns$Routes" "figures" "I") (List.mem_cons_of_mem _ (List.mem_append_left _ (List.mem_of_getElem? (i := 0) rfl)))) (fun _ h9 => h9) rfl dX4_step_31 ?_
    refine lv_icmp_ge (tgt := 58) hx hb dX4_step_34 (by decide) (fun c34 => ?_) (fun c34 => ?_)
    · have gc34 := ai_le c34
      have u34t_a0_0 : a0_0.toInt ≤ (1 : Int) := Int.le_trans gc34 bx29.2
      have l34t_x29 : (1 : Int) ≤ x29.toInt := bx29.1
      refine lv_iload_n hx hb dX4_step_58 rfl (lv_at hl 0 rfl) ?_
      exact W.iret (v := a2) hx hb hr (fun t ht hW => ⟨⟨a2, (), rfl, ⟨ba2_l, (Int.le_trans u3t_a2 zq20)⟩, by rw [ht]; exact hP, va_K.moved hW.alike hK, hD⟩, hS.F ht⟩) hS.2.2 dX4_step_59
    · have gc34 := ai_nle c34
      have u34f_x29 : x29.toInt ≤ (1 : Int) := bx29.2
      have l34f_a0_0 : (2 : Int) ≤ a0_0.toInt := ai_ltlo gc34 bx29.1
      refine lv_aload_n hx hb dX4_step_37 rfl (lv_at hl 1 rfl) ?_
      refine lv_iload_n hx hb dX4_step_38 rfl (lv_at hl 2 rfl) ?_
      refine lv_iload_n hx hb dX4_step_39 rfl (lv_at hl 3 rfl) ?_
      refine lv_iconst (v := 1) hx hb dX4_step_40 zk_iconst_1 ?_
      refine lv_iadd hx hb dX4_step_41 ?_
      refine ax_ti x29 ex29.symm ?_
      have hKc := hK.sub (tys' := [(ka0_2, .int), (ka0_1, .int)]) [0, 1] rfl
      refine va_calli (va_runV (As := [.int a1, .int x29]) (rest := []) ⟨hx, hb, hml, hown, hts⟩ (c_X4_worth l dC dI s.heap.size a0 a1 x29 (.int a0_0) a0_1 a0_2 ka0_2 fa0_2 ka0_1 fa0_1 ba1_l ba1_u (Int.le_trans zq4 bx29.1) (Int.le_trans u34f_x29 zq48)) (cwV 2 hts gX4_step_X4_worth rfl rfl rfl zd_X4_worth ⟨Nat.le_of_ble_eq_true rfl, Nat.le_of_ble_eq_true rfl⟩) ⟨ax_blind (fun _ _ _ _ _ => trivial), zr_4 hKc (zp_P3 hP) (q0 := 0) rfl, ax_pre (zp_P3 hP) hKc (zp_D3 hD) (fun _ _ => trivial)⟩ rfl rfl hl.1 rfl (lv_room (Nat.le_of_ble_eq_true rfl)) dX4_step_42 ⟨Nat.le_of_ble_eq_true rfl, Nat.le_of_ble_eq_true rfl⟩) hS (fun q _ h => zp_F3 hD hS hA q h) (zp_F3 hD hS hA) (fun r42 u t H locs ht hvm hw hB hz1 hk1 hS1 => zo3 hB ht hP hD hk1 (zp_F3 hD hS hA) hS1 (fun hP hK1 hD hS => ?_))
      refine lv_aload_n hx hb dX4_step_45 rfl (lv_at hl 1 rfl) ?_
      refine lv_iload_n hx hb dX4_step_46 rfl (lv_at hl 2 rfl) ?_
      refine lv_iload_n hx hb dX4_step_47 rfl (lv_at hl 0 rfl) ?_
      have hKc := hK.sub (tys' := [(ka0_2, .int), (ka0_1, .int)]) [0, 1] rfl
      refine va_calli (va_runV (As := [.int a1, .int a2]) (rest := [.int r42]) ⟨hx, hb, hml, hown, hts⟩ (c_X4_worth l dC dI H.size a0 a1 a2 (.int a0_0) a0_1 a0_2 ka0_2 fa0_2 ka0_1 fa0_1 ba1_l ba1_u ba2_l (Int.le_trans u3t_a2 zq20)) (cwV 2 hts gX4_step_X4_worth rfl rfl rfl zd_X4_worth ⟨Nat.le_of_ble_eq_true rfl, Nat.le_of_ble_eq_true rfl⟩) ⟨ax_blind (fun _ _ _ _ _ => trivial), zr_4 hKc (zp_P3 hP) (q0 := 0) rfl, ax_pre (zp_P3 hP) hKc (zp_D3 hD) (fun _ _ => trivial)⟩ rfl rfl hl.1 rfl (lv_room (Nat.le_of_ble_eq_true rfl)) dX4_step_48 ⟨Nat.le_of_ble_eq_true rfl, Nat.le_of_ble_eq_true rfl⟩) hS (fun q _ h => zp_F3 hD hS hA q h) (zp_F3 hD hS hA) (fun r48 u t H locs ht hvm hw hB hz1 hk1 hS1 => zo3 hB ht hP hD hk1 (zp_F3 hD hS hA) hS1 (fun hP hK1 hD hS => ?_))
      refine lv_icmp_le (tgt := 58) hx hb dX4_step_51 (by decide) (fun c51 => ?_) (fun c51 => ?_)
      · have gc51 := ai_le c51
        refine lv_iload_n hx hb dX4_step_58 rfl (lv_at hl 0 rfl) ?_
        exact W.iret (v := a2) hx hb hr (fun t ht hW => ⟨⟨a2, (), rfl, ⟨ba2_l, (Int.le_trans u3t_a2 zq20)⟩, by rw [ht]; exact hP, va_K.moved hW.alike hK, hD⟩, hS.F ht⟩) hS.2.2 dX4_step_59
      · have gc51 := ai_nle c51
        have u51f_r48 : r48.toInt ≤ (2147483646 : Int) := ai_lthi gc51 (ai_max r42)
        have l51f_r42 : (-2147483647 : Int) ≤ r42.toInt := ai_ltlo gc51 (ai_min r48)
        refine lv_iload_n hx hb dX4_step_54 rfl (lv_at hl 3 rfl) ?_
        refine lv_iconst (v := 1) hx hb dX4_step_55 zk_iconst_1 ?_
        refine lv_iadd hx hb dX4_step_56 ?_
        refine ax_ti x29 ex29.symm ?_
        refine lv_istore_n (lv' := [(3, .int x29), (0, .ref a0), (1, .int a1), (2, .int a2)]) hx hb dX4_step_57 rfl hl (by decide) rfl (fun ls hl => ?_)
        refine lv_iload_n hx hb dX4_step_58 rfl (lv_at hl 0 rfl) ?_
        exact W.iret (v := x29) hx hb hr (fun t ht hW => ⟨⟨x29, (), rfl, ⟨(Int.le_trans zq4 bx29.1), (Int.le_trans u34f_x29 zq48)⟩, by rw [ht]; exact hP, va_K.moved hW.alike hK, hD⟩, hS.F ht⟩) hS.2.2 dX4_step_59
  · have gc3 := ai_nle c3
    have l3f_a2 : (1 : Int) ≤ a2.toInt := ai_ltlo gc3 zq5
    refine lv_aload_n hx hb dX4_step_6 rfl (lv_at hl 1 rfl) ?_
    refine lv_iload_n hx hb dX4_step_7 rfl (lv_at hl 2 rfl) ?_
    refine lv_iload_n hx hb dX4_step_8 rfl (lv_at hl 3 rfl) ?_
    refine lv_iconst (v := 1) hx hb dX4_step_9 zk_iconst_1 ?_
    refine lv_isub hx hb dX4_step_10 ?_
    refine lv_topi (fun x10 ex10 => ?_)
    have qx10 : x10.toInt = a2.toInt - (1 : Int32).toInt := ai_sub ex10 ⟨l3f_a2, ba2_u⟩ ⟨zq1, zq0⟩ (by decide) (by decide)
    have bx10 : (0 : Int) ≤ x10.toInt ∧ x10.toInt ≤ 7 := ⟨by rw [qx10]; exact Int.sub_le_sub l3f_a2 zq0, by rw [qx10]; exact Int.sub_le_sub ba2_u zq1⟩
    have wx10 : x10.toInt = a2.toInt - 1 := qx10
    have hKc := hK.sub (tys' := [(ka0_2, .int), (ka0_1, .int)]) [0, 1] rfl
    refine va_calli (va_runV (As := [.int a1, .int x10]) (rest := []) ⟨hx, hb, hml, hown, hts⟩ (c_X4_worth l dC dI s.heap.size a0 a1 x10 (.int a0_0) a0_1 a0_2 ka0_2 fa0_2 ka0_1 fa0_1 ba1_l ba1_u bx10.1 (Int.le_trans bx10.2 zq49)) (cwV 2 hts gX4_step_X4_worth rfl rfl rfl zd_X4_worth ⟨Nat.le_of_ble_eq_true rfl, Nat.le_of_ble_eq_true rfl⟩) ⟨ax_blind (fun _ _ _ _ _ => trivial), zr_4 hKc (zp_P3 hP) (q0 := 0) rfl, ax_pre (zp_P3 hP) hKc (zp_D3 hD) (fun _ _ => trivial)⟩ rfl rfl hl.1 rfl (lv_room (Nat.le_of_ble_eq_true rfl)) dX4_step_11 ⟨Nat.le_of_ble_eq_true rfl, Nat.le_of_ble_eq_true rfl⟩) hS (fun q _ h => zp_F3 hD hS hA q h) (zp_F3 hD hS hA) (fun r11 u t H locs ht hvm hw hB hz1 hk1 hS1 => zo3 hB ht hP hD hk1 (zp_F3 hD hS hA) hS1 (fun hP hK1 hD hS => ?_))
    refine lv_aload_n hx hb dX4_step_14 rfl (lv_at hl 1 rfl) ?_
    refine lv_iload_n hx hb dX4_step_15 rfl (lv_at hl 2 rfl) ?_
    refine lv_iload_n hx hb dX4_step_16 rfl (lv_at hl 0 rfl) ?_
    have hKc := hK.sub (tys' := [(ka0_2, .int), (ka0_1, .int)]) [0, 1] rfl
    refine va_calli (va_runV (As := [.int a1, .int a2]) (rest := [.int r11]) ⟨hx, hb, hml, hown, hts⟩ (c_X4_worth l dC dI H.size a0 a1 a2 (.int a0_0) a0_1 a0_2 ka0_2 fa0_2 ka0_1 fa0_1 ba1_l ba1_u (Int.le_trans zq4 l3f_a2) ba2_u) (cwV 2 hts gX4_step_X4_worth rfl rfl rfl zd_X4_worth ⟨Nat.le_of_ble_eq_true rfl, Nat.le_of_ble_eq_true rfl⟩) ⟨ax_blind (fun _ _ _ _ _ => trivial), zr_4 hKc (zp_P3 hP) (q0 := 0) rfl, ax_pre (zp_P3 hP) hKc (zp_D3 hD) (fun _ _ => trivial)⟩ rfl rfl hl.1 rfl (lv_room (Nat.le_of_ble_eq_true rfl)) dX4_step_17 ⟨Nat.le_of_ble_eq_true rfl, Nat.le_of_ble_eq_true rfl⟩) hS (fun q _ h => zp_F3 hD hS hA q h) (zp_F3 hD hS hA) (fun r17 u t H locs ht hvm hw hB hz1 hk1 hS1 => zo3 hB ht hP hD hk1 (zp_F3 hD hS hA) hS1 (fun hP hK1 hD hS => ?_))
    refine lv_icmp_le (tgt := 27) hx hb dX4_step_20 (by decide) (fun c20 => ?_) (fun c20 => ?_)
    · have gc20 := ai_le c20
      refine lv_iload_n hx hb dX4_step_27 rfl (lv_at hl 3 rfl) ?_
      refine lv_iconst (v := 1) hx hb dX4_step_28 zk_iconst_1 ?_
      refine lv_iadd hx hb dX4_step_29 ?_
      refine lv_topi (fun x29 ex29 => ?_)
      have qx29 : x29.toInt = a2.toInt + (1 : Int32).toInt := ai_add ex29 ⟨l3f_a2, ba2_u⟩ ⟨zq1, zq0⟩ (by decide) (by decide)
      have bx29 : (2 : Int) ≤ x29.toInt ∧ x29.toInt ≤ 9 := ⟨by rw [qx29]; exact Int.add_le_add l3f_a2 zq1, by rw [qx29]; exact Int.add_le_add ba2_u zq0⟩
      have wx29 : x29.toInt = a2.toInt + 1 := qx29
      refine lv_aload_n hx hb dX4_step_30 rfl (lv_at hl 1 rfl) ?_
      refine va_get (D := (dC, dI)) (ci := 4) (v := .int a0_0) (C := RX4) (T := TX4) (N := 3) hx hb hts zi_X4_step_4 hown hK hP 0 rfl rfl 0 (by decide) (hts (.fieldLink RX4 28 "WaxTurns$Routes" "figures" "I") (List.mem_cons_of_mem _ (List.mem_append_left _ (List.mem_of_getElem? (i := 0) rfl)))) (fun _ h9 => h9) rfl dX4_step_31 ?_
      refine lv_icmp_ge (tgt := 58) hx hb dX4_step_34 (by decide) (fun c34 => ?_) (fun c34 => ?_)
      · have gc34 := ai_le c34
        have u34t_a0_0 : a0_0.toInt ≤ (9 : Int) := ba0_0_u
        have l34t_x29 : (2 : Int) ≤ x29.toInt := bx29.1
        refine lv_iload_n hx hb dX4_step_58 rfl (lv_at hl 0 rfl) ?_
        exact W.iret (v := a2) hx hb hr (fun t ht hW => ⟨⟨a2, (), rfl, ⟨(Int.le_trans zq4 l3f_a2), ba2_u⟩, by rw [ht]; exact hP, va_K.moved hW.alike hK, hD⟩, hS.F ht⟩) hS.2.2 dX4_step_59
      · have gc34 := ai_nle c34
        have u34f_x29 : x29.toInt ≤ (8 : Int) := ai_lthi gc34 ba0_0_u
        have u34f_a2 : a2.toInt ≤ (7 : Int) := by have h1 := wx29; have h2 := u34f_x29; omega
        have l34f_a0_0 : (3 : Int) ≤ a0_0.toInt := ai_ltlo gc34 bx29.1
        refine lv_aload_n hx hb dX4_step_37 rfl (lv_at hl 1 rfl) ?_
        refine lv_iload_n hx hb dX4_step_38 rfl (lv_at hl 2 rfl) ?_
        refine lv_iload_n hx hb dX4_step_39 rfl (lv_at hl 3 rfl) ?_
        refine lv_iconst (v := 1) hx hb dX4_step_40 zk_iconst_1 ?_
        refine lv_iadd hx hb dX4_step_41 ?_
        refine ax_ti x29 ex29.symm ?_
        have hKc := hK.sub (tys' := [(ka0_2, .int), (ka0_1, .int)]) [0, 1] rfl
        refine va_calli (va_runV (As := [.int a1, .int x29]) (rest := []) ⟨hx, hb, hml, hown, hts⟩ (c_X4_worth l dC dI H.size a0 a1 x29 (.int a0_0) a0_1 a0_2 ka0_2 fa0_2 ka0_1 fa0_1 ba1_l ba1_u (Int.le_trans zq50 bx29.1) u34f_x29) (cwV 2 hts gX4_step_X4_worth rfl rfl rfl zd_X4_worth ⟨Nat.le_of_ble_eq_true rfl, Nat.le_of_ble_eq_true rfl⟩) ⟨ax_blind (fun _ _ _ _ _ => trivial), zr_4 hKc (zp_P3 hP) (q0 := 0) rfl, ax_pre (zp_P3 hP) hKc (zp_D3 hD) (fun _ _ => trivial)⟩ rfl rfl hl.1 rfl (lv_room (Nat.le_of_ble_eq_true rfl)) dX4_step_42 ⟨Nat.le_of_ble_eq_true rfl, Nat.le_of_ble_eq_true rfl⟩) hS (fun q _ h => zp_F3 hD hS hA q h) (zp_F3 hD hS hA) (fun r42 u t H locs ht hvm hw hB hz1 hk1 hS1 => zo3 hB ht hP hD hk1 (zp_F3 hD hS hA) hS1 (fun hP hK1 hD hS => ?_))
        refine lv_aload_n hx hb dX4_step_45 rfl (lv_at hl 1 rfl) ?_
        refine lv_iload_n hx hb dX4_step_46 rfl (lv_at hl 2 rfl) ?_
        refine lv_iload_n hx hb dX4_step_47 rfl (lv_at hl 0 rfl) ?_
        have hKc := hK.sub (tys' := [(ka0_2, .int), (ka0_1, .int)]) [0, 1] rfl
        refine va_calli (va_runV (As := [.int a1, .int a2]) (rest := [.int r42]) ⟨hx, hb, hml, hown, hts⟩ (c_X4_worth l dC dI H.size a0 a1 a2 (.int a0_0) a0_1 a0_2 ka0_2 fa0_2 ka0_1 fa0_1 ba1_l ba1_u (Int.le_trans zq4 l3f_a2) (Int.le_trans u34f_a2 zq49)) (cwV 2 hts gX4_step_X4_worth rfl rfl rfl zd_X4_worth ⟨Nat.le_of_ble_eq_true rfl, Nat.le_of_ble_eq_true rfl⟩) ⟨ax_blind (fun _ _ _ _ _ => trivial), zr_4 hKc (zp_P3 hP) (q0 := 0) rfl, ax_pre (zp_P3 hP) hKc (zp_D3 hD) (fun _ _ => trivial)⟩ rfl rfl hl.1 rfl (lv_room (Nat.le_of_ble_eq_true rfl)) dX4_step_48 ⟨Nat.le_of_ble_eq_true rfl, Nat.le_of_ble_eq_true rfl⟩) hS (fun q _ h => zp_F3 hD hS hA q h) (zp_F3 hD hS hA) (fun r48 u t H locs ht hvm hw hB hz1 hk1 hS1 => zo3 hB ht hP hD hk1 (zp_F3 hD hS hA) hS1 (fun hP hK1 hD hS => ?_))
        refine lv_icmp_le (tgt := 58) hx hb dX4_step_51 (by decide) (fun c51 => ?_) (fun c51 => ?_)
        · have gc51 := ai_le c51
          refine lv_iload_n hx hb dX4_step_58 rfl (lv_at hl 0 rfl) ?_
          exact W.iret (v := a2) hx hb hr (fun t ht hW => ⟨⟨a2, (), rfl, ⟨(Int.le_trans zq4 l3f_a2), (Int.le_trans u34f_a2 zq49)⟩, by rw [ht]; exact hP, va_K.moved hW.alike hK, hD⟩, hS.F ht⟩) hS.2.2 dX4_step_59
        · have gc51 := ai_nle c51
          have u51f_r48 : r48.toInt ≤ (2147483646 : Int) := ai_lthi gc51 (ai_max r42)
          have l51f_r42 : (-2147483647 : Int) ≤ r42.toInt := ai_ltlo gc51 (ai_min r48)
          refine lv_iload_n hx hb dX4_step_54 rfl (lv_at hl 3 rfl) ?_
          refine lv_iconst (v := 1) hx hb dX4_step_55 zk_iconst_1 ?_
          refine lv_iadd hx hb dX4_step_56 ?_
          refine ax_ti x29 ex29.symm ?_
          refine lv_istore_n (lv' := [(3, .int x29), (0, .ref a0), (1, .int a1), (2, .int a2)]) hx hb dX4_step_57 rfl hl (by decide) rfl (fun ls hl => ?_)
          refine lv_iload_n hx hb dX4_step_58 rfl (lv_at hl 0 rfl) ?_
          exact W.iret (v := x29) hx hb hr (fun t ht hW => ⟨⟨x29, (), rfl, ⟨(Int.le_trans zq50 bx29.1), u34f_x29⟩, by rw [ht]; exact hP, va_K.moved hW.alike hK, hD⟩, hS.F ht⟩) hS.2.2 dX4_step_59
    · have gc20 := ai_nle c20
      have u20f_r17 : r17.toInt ≤ (2147483646 : Int) := ai_lthi gc20 (ai_max r11)
      have l20f_r11 : (-2147483647 : Int) ≤ r11.toInt := ai_ltlo gc20 (ai_min r17)
      refine lv_iload_n hx hb dX4_step_23 rfl (lv_at hl 3 rfl) ?_
      refine lv_iconst (v := 1) hx hb dX4_step_24 zk_iconst_1 ?_
      refine lv_isub hx hb dX4_step_25 ?_
      refine ax_ti x10 ex10.symm ?_
      refine lv_istore_n (lv' := [(3, .int x10), (0, .ref a0), (1, .int a1), (2, .int a2)]) hx hb dX4_step_26 rfl hl (by decide) rfl (fun ls hl => ?_)
      refine lv_iload_n hx hb dX4_step_27 rfl (lv_at hl 3 rfl) ?_
      refine lv_iconst (v := 1) hx hb dX4_step_28 zk_iconst_1 ?_
      refine lv_iadd hx hb dX4_step_29 ?_
      refine lv_topi (fun x29 ex29 => ?_)
      have qx29 : x29.toInt = a2.toInt + (1 : Int32).toInt := ai_add ex29 ⟨l3f_a2, ba2_u⟩ ⟨zq1, zq0⟩ (by decide) (by decide)
      have bx29 : (2 : Int) ≤ x29.toInt ∧ x29.toInt ≤ 9 := ⟨by rw [qx29]; exact Int.add_le_add l3f_a2 zq1, by rw [qx29]; exact Int.add_le_add ba2_u zq0⟩
      have wx29 : x29.toInt = a2.toInt + 1 := qx29
      refine lv_aload_n hx hb dX4_step_30 rfl (lv_at hl 1 rfl) ?_
      refine va_get (D := (dC, dI)) (ci := 4) (v := .int a0_0) (C := RX4) (T := TX4) (N := 3) hx hb hts zi_X4_step_4 hown hK hP 0 rfl rfl 0 (by decide) (hts (.fieldLink RX4 28 "WaxTurns$Routes" "figures" "I") (List.mem_cons_of_mem _ (List.mem_append_left _ (List.mem_of_getElem? (i := 0) rfl)))) (fun _ h9 => h9) rfl dX4_step_31 ?_
      refine lv_icmp_ge (tgt := 58) hx hb dX4_step_34 (by decide) (fun c34 => ?_) (fun c34 => ?_)
      · have gc34 := ai_le c34
        have u34t_a0_0 : a0_0.toInt ≤ (9 : Int) := ba0_0_u
        have l34t_x29 : (2 : Int) ≤ x29.toInt := bx29.1
        refine lv_iload_n hx hb dX4_step_58 rfl (lv_at hl 0 rfl) ?_
        exact W.iret (v := x10) hx hb hr (fun t ht hW => ⟨⟨x10, (), rfl, ⟨bx10.1, (Int.le_trans bx10.2 zq49)⟩, by rw [ht]; exact hP, va_K.moved hW.alike hK, hD⟩, hS.F ht⟩) hS.2.2 dX4_step_59
      · have gc34 := ai_nle c34
        have u34f_x29 : x29.toInt ≤ (8 : Int) := ai_lthi gc34 ba0_0_u
        have u34f_a2 : a2.toInt ≤ (7 : Int) := by have h1 := wx29; have h2 := u34f_x29; omega
        have l34f_a0_0 : (3 : Int) ≤ a0_0.toInt := ai_ltlo gc34 bx29.1
        refine lv_aload_n hx hb dX4_step_37 rfl (lv_at hl 1 rfl) ?_
        refine lv_iload_n hx hb dX4_step_38 rfl (lv_at hl 2 rfl) ?_
        refine lv_iload_n hx hb dX4_step_39 rfl (lv_at hl 3 rfl) ?_
        refine lv_iconst (v := 1) hx hb dX4_step_40 zk_iconst_1 ?_
        refine lv_iadd hx hb dX4_step_41 ?_
        refine ax_ti x29 ex29.symm ?_
        have hKc := hK.sub (tys' := [(ka0_2, .int), (ka0_1, .int)]) [0, 1] rfl
        refine va_calli (va_runV (As := [.int a1, .int x29]) (rest := []) ⟨hx, hb, hml, hown, hts⟩ (c_X4_worth l dC dI H.size a0 a1 x29 (.int a0_0) a0_1 a0_2 ka0_2 fa0_2 ka0_1 fa0_1 ba1_l ba1_u (Int.le_trans zq50 bx29.1) u34f_x29) (cwV 2 hts gX4_step_X4_worth rfl rfl rfl zd_X4_worth ⟨Nat.le_of_ble_eq_true rfl, Nat.le_of_ble_eq_true rfl⟩) ⟨ax_blind (fun _ _ _ _ _ => trivial), zr_4 hKc (zp_P3 hP) (q0 := 0) rfl, ax_pre (zp_P3 hP) hKc (zp_D3 hD) (fun _ _ => trivial)⟩ rfl rfl hl.1 rfl (lv_room (Nat.le_of_ble_eq_true rfl)) dX4_step_42 ⟨Nat.le_of_ble_eq_true rfl, Nat.le_of_ble_eq_true rfl⟩) hS (fun q _ h => zp_F3 hD hS hA q h) (zp_F3 hD hS hA) (fun r42 u t H locs ht hvm hw hB hz1 hk1 hS1 => zo3 hB ht hP hD hk1 (zp_F3 hD hS hA) hS1 (fun hP hK1 hD hS => ?_))
        refine lv_aload_n hx hb dX4_step_45 rfl (lv_at hl 1 rfl) ?_
        refine lv_iload_n hx hb dX4_step_46 rfl (lv_at hl 2 rfl) ?_
        refine lv_iload_n hx hb dX4_step_47 rfl (lv_at hl 0 rfl) ?_
        have hKc := hK.sub (tys' := [(ka0_2, .int), (ka0_1, .int)]) [0, 1] rfl
        refine va_calli (va_runV (As := [.int a1, .int x10]) (rest := [.int r42]) ⟨hx, hb, hml, hown, hts⟩ (c_X4_worth l dC dI H.size a0 a1 x10 (.int a0_0) a0_1 a0_2 ka0_2 fa0_2 ka0_1 fa0_1 ba1_l ba1_u bx10.1 (Int.le_trans bx10.2 zq49)) (cwV 2 hts gX4_step_X4_worth rfl rfl rfl zd_X4_worth ⟨Nat.le_of_ble_eq_true rfl, Nat.le_of_ble_eq_true rfl⟩) ⟨ax_blind (fun _ _ _ _ _ => trivial), zr_4 hKc (zp_P3 hP) (q0 := 0) rfl, ax_pre (zp_P3 hP) hKc (zp_D3 hD) (fun _ _ => trivial)⟩ rfl rfl hl.1 rfl (lv_room (Nat.le_of_ble_eq_true rfl)) dX4_step_48 ⟨Nat.le_of_ble_eq_true rfl, Nat.le_of_ble_eq_true rfl⟩) hS (fun q _ h => zp_F3 hD hS hA q h) (zp_F3 hD hS hA) (fun r48 u t H locs ht hvm hw hB hz1 hk1 hS1 => zo3 hB ht hP hD hk1 (zp_F3 hD hS hA) hS1 (fun hP hK1 hD hS => ?_))
        refine lv_icmp_le (tgt := 58) hx hb dX4_step_51 (by decide) (fun c51 => ?_) (fun c51 => ?_)
        · have gc51 := ai_le c51
          refine lv_iload_n hx hb dX4_step_58 rfl (lv_at hl 0 rfl) ?_
          exact W.iret (v := x10) hx hb hr (fun t ht hW => ⟨⟨x10, (), rfl, ⟨bx10.1, (Int.le_trans bx10.2 zq49)⟩, by rw [ht]; exact hP, va_K.moved hW.alike hK, hD⟩, hS.F ht⟩) hS.2.2 dX4_step_59
        · have gc51 := ai_nle c51
          have u51f_r48 : r48.toInt ≤ (2147483646 : Int) := ai_lthi gc51 (ai_max r42)
          have l51f_r42 : (-2147483647 : Int) ≤ r42.toInt := ai_ltlo gc51 (ai_min r48)
          refine lv_iload_n hx hb dX4_step_54 rfl (lv_at hl 3 rfl) ?_
          refine lv_iconst (v := 1) hx hb dX4_step_55 zk_iconst_1 ?_
          refine lv_iadd hx hb dX4_step_56 ?_
          refine ax_ti x29 ex29.symm ?_
          refine lv_istore_n (lv' := [(3, .int x29), (0, .ref a0), (1, .int a1), (2, .int a2)]) hx hb dX4_step_57 rfl hl (by decide) rfl (fun ls hl => ?_)
          refine lv_iload_n hx hb dX4_step_58 rfl (lv_at hl 0 rfl) ?_
          exact W.iret (v := x29) hx hb hr (fun t ht hW => ⟨⟨x29, (), rfl, ⟨(Int.le_trans zq50 bx29.1), u34f_x29⟩, by rw [ht]; exact hP, va_K.moved hW.alike hK, hD⟩, hS.F ht⟩) hS.2.2 dX4_step_59

set_option maxHeartbeats 4000000 in
set_option maxRecDepth 100000 in
theorem c_X4_weigh (l : Launch) (dC : Nat → ClassId) (dI : Nat → Nat → Nat) (sz : Nat) (a0 : Nat) (a1 : Int32) (a2 : Int32) (a0_0 : Int32) (a0_1 : Nat) (a0_2 : Nat) (ka0_2 : ClassId) (fa0_2 : Nat → Int32) (ka0_1 : ClassId) (fa0_1 : Nat → Int32) (ba1_l : (0 : Int) ≤ a1.toInt) (ba1_u : a1.toInt ≤ (60 : Int)) (ba2_l : (0 : Int) ≤ a2.toInt) (ba2_u : a2.toInt ≤ (9 : Int)) (ba0_0_l : (0 : Int) ≤ a0_0.toInt) (ba0_0_u : a0_0.toInt ≤ (9 : Int)) : zm l yX4_weigh wsX4_weigh ({ frames := 2, cells := 0, slots := 0, locals := 45 }) [.ref a0, .int a1, .int a2] dC dI sz [(a0, .inr (4, [.int a0_0, .ref a0_1, .ref a0_2])), (a0_2, .inl (ka0_2, 549, .inl (fa0_2))), (a0_1, .inl (ka0_1, 61, .inl (fa0_1)))] [(ka0_2, .int), (ka0_1, .int)] (fun A _ => True) (fun A => va_Qv (fun (_ : Unit) => True) (fun (_ : Unit) (t : State) => ∃ na0_0 : Int32, ∃ nfa0_2 : Nat → Int32, ((0 : Int) ≤ na0_0.toInt ∧ na0_0.toInt ≤ 9) ∧ ax_B dC dI A [(a0, .inr (4, [.int na0_0, .ref a0_1, .ref a0_2])), (a0_2, .inl (ka0_2, 549, .inl (nfa0_2))), (a0_1, .inl (ka0_1, 61, .inl (fa0_1)))] [(ka0_2, .int), (ka0_1, .int)] t) A) := by
  refine zh (cc := cX4_weigh) (maxL := 6) (ret := none) zn_RX4 rfl (Nat.le_of_ble_eq_true rfl) (fun p e s m below meth c A ls hx hb hml hr hts (hown : s.vm.findClass RX4 = some m.cls) hlocks hA hS hP hK hD hE (hl : lv_has ls 6 [(0, .ref a0), (1, .int a1), (2, .int a2)]) => ?_)
  refine ai_open (fun K hK0 => ?_)
  refine (hK0 _ _ _).mpr ?_
  refine lv_aload_n hx hb dX4_weigh_0 rfl (lv_at hl 0 rfl) ?_
  refine lv_iload_n hx hb dX4_weigh_1 rfl (lv_at hl 2 rfl) ?_
  refine lv_bipush (v := 9) hx hb dX4_weigh_2 zk_bipush_9 ?_
  refine va_mmin hx hb (by rw [hml]; exact hl.1.symm) hown (hts (.methodLink RX4 22 Lib.Math.min.name) (List.mem_cons_of_mem _ (List.mem_append_left _ (List.mem_of_getElem? (i := 0) rfl)))) (hts (.static Lib.Math.min.name) (List.mem_cons_of_mem _ (List.mem_append_left _ (List.mem_of_getElem? (i := 1) rfl)))) (hts (.initialized "java/lang/Math") (List.mem_cons_of_mem _ (List.mem_append_left _ (List.mem_of_getElem? (i := 2) rfl)))) (hts _ mnX4_weigh) (Nat.le_of_ble_eq_true rfl) (Nat.le_of_ble_eq_true rfl) (Nat.le_of_ble_eq_true rfl) (Nat.le_of_ble_eq_true rfl) dX4_weigh_4 ?_
  refine lv_topi (fun x4 ex4 => ?_)
  have qx4 := ai_mmin ex4
  have bx4 : (0 : Int) ≤ x4.toInt ∧ x4.toInt ≤ 9 := by have h1 := ba2_l; have h2 := zq2; have h3 := ba2_u; have h4 := zq3; omega
  refine va_put (D := (dC, dI)) (ci := 4) (v := .int x4) (ty := .int) (C := RX4) (T := TX4) (N := 3) hx hb hts zi_X4_weigh_4 tyX4 tyX4_ok nmX4 hown hK hP hD hS 0 rfl rfl 0 (by decide) (hts (.fieldLink RX4 28 "WaxTurns$Routes" "figures" "I") (List.mem_cons_of_mem _ (List.mem_append_left _ (List.mem_of_getElem? (i := 4) rfl)))) (fun _ h9 => h9) rfl (tyX4_ok 0 (by decide)) rfl rfl (Nat.le_of_ble_eq_true rfl) dX4_weigh_7 (fun H locs hP hD hS => ?_)
  refine zs_0 (y := (a0, .inr (4, [.int x4, .ref a0_1, .ref a0_2]))) hP hD rfl (fun hP hD => ?_)
  refine lv_iload_n hx hb dX4_weigh_10 rfl (lv_at hl 1 rfl) ?_
  refine lv_bipush (v := 60) hx hb dX4_weigh_11 zk_bipush_60 ?_
  refine va_mmin hx hb (by rw [hml]; exact hl.1.symm) hown (hts (.methodLink RX4 22 Lib.Math.min.name) (List.mem_cons_of_mem _ (List.mem_append_left _ (List.mem_of_getElem? (i := 0) rfl)))) (hts (.static Lib.Math.min.name) (List.mem_cons_of_mem _ (List.mem_append_left _ (List.mem_of_getElem? (i := 1) rfl)))) (hts (.initialized "java/lang/Math") (List.mem_cons_of_mem _ (List.mem_append_left _ (List.mem_of_getElem? (i := 2) rfl)))) (hts _ mnX4_weigh) (Nat.le_of_ble_eq_true rfl) (Nat.le_of_ble_eq_true rfl) (Nat.le_of_ble_eq_true rfl) (Nat.le_of_ble_eq_true rfl) dX4_weigh_13 ?_
  refine lv_topi (fun x13 ex13 => ?_)
  have qx13 := ai_mmin ex13
  have bx13 : (0 : Int) ≤ x13.toInt ∧ x13.toInt ≤ 60 := by have h1 := ba1_l; have h2 := zq51; have h3 := ba1_u; have h4 := zq46; omega
  refine lv_istore_n (lv' := [(3, .int x13), (0, .ref a0), (1, .int a1), (2, .int a2)]) hx hb dX4_weigh_16 rfl hl (by decide) rfl (fun ls hl => ?_)
  refine lv_iconst (v := 0) hx hb dX4_weigh_17 zk_iconst_0 ?_
  refine lv_istore (lv' := [(4, .int 0), (3, .int x13), (0, .ref a0), (1, .int a1), (2, .int a2)]) hx hb dX4_weigh_18 hl (by decide) rfl (fun ls hl => ?_)
  have J20 : ∀ (n : Nat) (j20l4 : Int32) (j20a0_2_a : Nat → Int32) (H : Heap) (locs : List Loc) (ls : Array Slot), (10 : Int) - j20l4.toInt ≤ (n : Int) → (0 : Int) ≤ j20l4.toInt → j20l4.toInt ≤ (9 : Int) → va_P (dC, dI) vwCl [(a0, .inr (4, [.int x4, .ref a0_1, .ref a0_2])), (a0_2, .inl (ka0_2, 549, .inl (j20a0_2_a))), (a0_1, .inl (ka0_1, 61, .inl (fa0_1)))] H → va_D A [(a0, .inr (4, [.int x4, .ref a0_1, .ref a0_2])), (a0_2, .inl (ka0_2, 549, .inl (j20a0_2_a))), (a0_1, .inl (ka0_1, 61, .inl (fa0_1)))] → va_S A s.heap H locs → lv_has ls 6 [(0, .ref a0), (3, .int x13), (4, .int j20l4)] → K H locs (F0 m 20 ls []) := by
    intro n
    induction n with
    | zero =>
      intro j20l4 j20a0_2_a H locs ls hm bj20l4_l bj20l4_u hP hD hS hl
      first | exact zg_0 hm bj20l4_u (by decide) | (have h8 := ai_min j20l4; have h9 := ai_max j20l4; exact absurd hm (by omega))
    | succ n ih20 =>
      intro j20l4 j20a0_2_a H locs ls hm bj20l4_l bj20l4_u hP hD hS hl
      refine (hK0 _ _ _).mpr ?_
      have hm20 := hm
      refine lv_iload hx hb dX4_weigh_20 (lv_at hl 2 rfl) ?_
      refine lv_aload_n hx hb dX4_weigh_22 rfl (lv_at hl 0 rfl) ?_
      refine va_get (D := (dC, dI)) (ci := 4) (v := .int x4) (C := RX4) (T := TX4) (N := 3) hx hb hts zi_X4_weigh_4 hown hK hP 0 rfl rfl 0 (by decide) (hts (.fieldLink RX4 28 "WaxTurns$Routes" "figures" "I") (List.mem_cons_of_mem _ (List.mem_append_left _ (List.mem_of_getElem? (i := 4) rfl)))) (fun _ h9 => h9) rfl dX4_weigh_23 ?_
      refine lv_icmp_ge (tgt := 48) hx hb dX4_weigh_26 (by decide) (fun c26 => ?_) (fun c26 => ?_)
      · have gc26 := ai_le c26
        have u26t_x4 : x4.toInt ≤ (9 : Int) := bx4.2
        have l26t_j20l4 : (0 : Int) ≤ j20l4.toInt := bj20l4_l
        refine lv_iload_n hx hb dX4_weigh_48 rfl (lv_at hl 1 rfl) ?_
        refine lv_istore (lv' := [(4, .int x13), (0, .ref a0), (3, .int x13)]) hx hb dX4_weigh_49 hl (by decide) rfl (fun ls hl => ?_)
        have J51 : ∀ (n : Nat) (j51l4 : Int32) (j51a0_2_a : Nat → Int32) (H : Heap) (locs : List Loc) (ls : Array Slot), j51l4.toInt - (-1 : Int) ≤ (n : Int) → (0 : Int) ≤ j51l4.toInt → j51l4.toInt ≤ (60 : Int) → va_P (dC, dI) vwCl [(a0, .inr (4, [.int x4, .ref a0_1, .ref a0_2])), (a0_2, .inl (ka0_2, 549, .inl (j51a0_2_a))), (a0_1, .inl (ka0_1, 61, .inl (fa0_1)))] H → va_D A [(a0, .inr (4, [.int x4, .ref a0_1, .ref a0_2])), (a0_2, .inl (ka0_2, 549, .inl (j51a0_2_a))), (a0_1, .inl (ka0_1, 61, .inl (fa0_1)))] → va_S A s.heap H locs → lv_has ls 6 [(0, .ref a0), (4, .int j51l4)] → K H locs (F0 m 51 ls []) := by
          intro n
          induction n with
          | zero =>
            intro j51l4 j51a0_2_a H locs ls hm bj51l4_l bj51l4_u hP hD hS hl
            have h8 := ai_min j51l4
            have h9 := ai_max j51l4
            exact absurd hm (by omega)
          | succ n ih51 =>
            intro j51l4 j51a0_2_a H locs ls hm bj51l4_l bj51l4_u hP hD hS hl
            refine (hK0 _ _ _).mpr ?_
            have hm51 := hm
            refine lv_iload hx hb dX4_weigh_51 (lv_at hl 1 rfl) ?_
            refine lv_iconst (v := 1) hx hb dX4_weigh_53 zk_iconst_1 ?_
            refine lv_icmp_lt (tgt := 110) hx hb dX4_weigh_54 (by decide) (fun c54 => ?_) (fun c54 => ?_)
            · have gc54 := ai_lt c54
              have u54t_j51l4 : j51l4.toInt ≤ (0 : Int) := ai_lthi gc54 zq0
              exact W.vret hx hb hr (fun t ht hW => ⟨⟨(), rfl, trivial, x4, j51a0_2_a, ⟨bx4.1, u26t_x4⟩, by rw [ht]; exact hP, va_K.moved hW.alike hK, hD⟩, hS.F ht⟩) hS.2.2 dX4_weigh_110
            · have gc54 := ai_nlt c54
              have l54f_j51l4 : (1 : Int) ≤ j51l4.toInt := Int.le_trans zq1 gc54
              refine lv_iconst (v := 0) hx hb dX4_weigh_57 zk_iconst_0 ?_
              refine lv_istore (lv' := [(5, .int 0), (0, .ref a0), (4, .int j51l4)]) hx hb dX4_weigh_58 hl (by decide) rfl (fun ls hl => ?_)
              have J60 : ∀ (n : Nat) (j60l5 : Int32) (j60a0_2_a : Nat → Int32) (H : Heap) (locs : List Loc) (ls : Array Slot), (10 : Int) - j60l5.toInt ≤ (n : Int) → (0 : Int) ≤ j60l5.toInt → j60l5.toInt ≤ (9 : Int) → va_P (dC, dI) vwCl [(a0, .inr (4, [.int x4, .ref a0_1, .ref a0_2])), (a0_2, .inl (ka0_2, 549, .inl (j60a0_2_a))), (a0_1, .inl (ka0_1, 61, .inl (fa0_1)))] H → va_D A [(a0, .inr (4, [.int x4, .ref a0_1, .ref a0_2])), (a0_2, .inl (ka0_2, 549, .inl (j60a0_2_a))), (a0_1, .inl (ka0_1, 61, .inl (fa0_1)))] → va_S A s.heap H locs → lv_has ls 6 [(0, .ref a0), (4, .int j51l4), (5, .int j60l5)] → K H locs (F0 m 60 ls []) := by
                intro n
                induction n with
                | zero =>
                  intro j60l5 j60a0_2_a H locs ls hm bj60l5_l bj60l5_u hP hD hS hl
                  first | exact zg_0 hm bj60l5_u (by decide) | (have h8 := ai_min j60l5; have h9 := ai_max j60l5; exact absurd hm (by omega))
                | succ n ih60 =>
                  intro j60l5 j60a0_2_a H locs ls hm bj60l5_l bj60l5_u hP hD hS hl
                  refine (hK0 _ _ _).mpr ?_
                  have hm60 := hm
                  refine lv_iload hx hb dX4_weigh_60 (lv_at hl 2 rfl) ?_
                  refine lv_aload_n hx hb dX4_weigh_62 rfl (lv_at hl 0 rfl) ?_
                  refine va_get (D := (dC, dI)) (ci := 4) (v := .int x4) (C := RX4) (T := TX4) (N := 3) hx hb hts zi_X4_weigh_4 hown hK hP 0 rfl rfl 0 (by decide) (hts (.fieldLink RX4 28 "WaxTurns$Routes" "figures" "I") (List.mem_cons_of_mem _ (List.mem_append_left _ (List.mem_of_getElem? (i := 4) rfl)))) (fun _ h9 => h9) rfl dX4_weigh_63 ?_
                  refine lv_icmp_ge (tgt := 104) hx hb dX4_weigh_66 (by decide) (fun c66 => ?_) (fun c66 => ?_)
                  · have gc66 := ai_le c66
                    have u66t_x4 : x4.toInt ≤ (9 : Int) := u26t_x4
                    have l66t_j60l5 : (0 : Int) ≤ j60l5.toInt := bj60l5_l
                    obtain ⟨x104, ex104⟩ : ∃ y : Int32, y = j51l4 + Int32.ofInt (-1) := ⟨_, rfl⟩
                    have qx104 : x104.toInt = j51l4.toInt + -1 := ai_dec ex104 (by decide) (by decide) l54f_j51l4 (by decide)
                    have bx104 : (0 : Int) ≤ x104.toInt ∧ x104.toInt ≤ 59 := ⟨by rw [qx104]; exact Int.add_le_add l54f_j51l4 (Int.le_refl _), by rw [qx104]; exact Int.add_le_add bj51l4_u (Int.le_refl _)⟩
                    refine lv_iinc (v := x104) (lv' := [(4, .int x104), (0, .ref a0), (5, .int j60l5)]) hx hb dX4_weigh_104 hl (k := 1) rfl ex104.symm (by decide) rfl (fun ls hl => ?_)
                    refine lv_goto (tgt := 51) hx hb dX4_weigh_107 (by decide) ?_
                    exact (hK0 _ _ _).mp (ih51 x104 j60a0_2_a _ _ _ (by have h0 := qx104; omega) bx104.1 (Int.le_trans bx104.2 zq52) hP hD hS (lv_sub hl [1, 0] rfl))
                  · have gc66 := ai_nle c66
                    have u66f_j60l5 : j60l5.toInt ≤ (8 : Int) := ai_lthi gc66 u26t_x4
                    have l66f_x4 : (1 : Int) ≤ x4.toInt := ai_ltlo gc66 bj60l5_l
                    refine lv_aload_n hx hb dX4_weigh_69 rfl (lv_at hl 0 rfl) ?_
                    refine va_get (D := (dC, dI)) (ci := 4) (v := .ref a0_2) (C := RX4) (T := TX4) (N := 3) hx hb hts zi_X4_weigh_4 hown hK hP 0 rfl rfl 2 (by decide) (hts (.fieldLink RX4 15 "WaxTurns$Routes" "bestBehind" "[I") (List.mem_cons_of_mem _ (List.mem_append_left _ (List.mem_of_getElem? (i := 5) rfl)))) (fun _ h9 => h9) rfl dX4_weigh_70 ?_
                    refine lv_iload hx hb dX4_weigh_73 (lv_at hl 1 rfl) ?_
                    refine lv_iconst (v := 1) hx hb dX4_weigh_75 zk_iconst_1 ?_
                    refine lv_isub hx hb dX4_weigh_76 ?_
                    refine lv_topi (fun x76 ex76 => ?_)
                    have qx76 : x76.toInt = j51l4.toInt - (1 : Int32).toInt := ai_sub ex76 ⟨l54f_j51l4, bj51l4_u⟩ ⟨zq1, zq0⟩ (by decide) (by decide)
                    have bx76 : (0 : Int) ≤ x76.toInt ∧ x76.toInt ≤ 59 := ⟨by rw [qx76]; exact Int.sub_le_sub l54f_j51l4 zq0, by rw [qx76]; exact Int.sub_le_sub bj51l4_u zq1⟩
                    have wx76 : x76.toInt = j51l4.toInt - 1 := qx76
                    refine lv_bipush (v := 9) hx hb dX4_weigh_77 zk_bipush_9 ?_
                    refine lv_imul hx hb dX4_weigh_79 ?_
                    refine lv_topi (fun x79 ex79 => ?_)
                    have qx79 : x79.toInt = x76.toInt * (9 : Int32).toInt ∧ (0 : Int) ≤ x79.toInt ∧ x79.toInt ≤ 531 := ai_mul ex79 ⟨bx76.1, bx76.2⟩ ⟨zq2, zq3⟩ (by decide) (by decide) zq53
                    have wx79 : x79.toInt = x76.toInt * 9 := qx79.1
                    refine lv_iload hx hb dX4_weigh_80 (lv_at hl 2 rfl) ?_
                    refine lv_iadd hx hb dX4_weigh_82 ?_
                    refine lv_topi (fun x82 ex82 => ?_)
                    have qx82 : x82.toInt = x79.toInt + j60l5.toInt := ai_add ex82 ⟨qx79.2.1, qx79.2.2⟩ ⟨bj60l5_l, u66f_j60l5⟩ (by decide) (by decide)
                    have bx82 : (0 : Int) ≤ x82.toInt ∧ x82.toInt ≤ 539 := ⟨by rw [qx82]; exact Int.add_le_add qx79.2.1 bj60l5_l, by rw [qx82]; exact Int.add_le_add qx79.2.2 u66f_j60l5⟩
                    refine lv_aload_n hx hb dX4_weigh_83 rfl (lv_at hl 0 rfl) ?_
                    refine lv_iload hx hb dX4_weigh_84 (lv_at hl 1 rfl) ?_
                    refine lv_aload_n hx hb dX4_weigh_86 rfl (lv_at hl 0 rfl) ?_
                    refine lv_iload hx hb dX4_weigh_87 (lv_at hl 1 rfl) ?_
                    refine lv_iload hx hb dX4_weigh_89 (lv_at hl 2 rfl) ?_
                    have hKc := hK.sub (tys' := [(ka0_2, .int), (ka0_1, .int)]) [0, 1] rfl
                    refine va_calli (va_runV (As := [.int j51l4, .int j60l5]) (rest := [.int j51l4, .ref a0, .int x82, .ref a0_2]) ⟨hx, hb, hml, hown, hts⟩ (c_X4_step l dC dI H.size a0 j51l4 j60l5 x4 a0_1 a0_2 ka0_2 j60a0_2_a ka0_1 fa0_1 (Int.le_trans zq4 l54f_j51l4) bj51l4_u bj60l5_l u66f_j60l5 (Int.le_trans zq4 l66f_x4) u26t_x4) (cwV 2 hts gX4_weigh_X4_step rfl rfl rfl zd_X4_step ⟨Nat.le_of_ble_eq_true rfl, Nat.le_of_ble_eq_true rfl⟩) ⟨ax_blind (fun _ _ _ _ _ => trivial), zr_4 hKc (zp_P3 hP) (q0 := 0) rfl, ax_pre (zp_P3 hP) hKc (zp_D3 hD) (fun _ _ => trivial)⟩ rfl rfl hl.1 rfl (lv_room (Nat.le_of_ble_eq_true rfl)) dX4_weigh_91 ⟨Nat.le_of_ble_eq_true rfl, Nat.le_of_ble_eq_true rfl⟩) hS (fun q _ h => zp_F3 hD hS hA q h) (zp_F3 hD hS hA) (fun r91 u t H locs ht hvm hw hB hz1 hk1 hS1 => zo3 hB ht hP hD hk1 (zp_F3 hD hS hA) hS1 (fun hP hK1 hD hS => ?_))
                    have hw : (0 : Int) ≤ r91.toInt ∧ r91.toInt ≤ (8 : Int) := hw
                    obtain ⟨h91_0, h91_1⟩ := hw
                    have hKc := hK.sub (tys' := [(ka0_2, .int), (ka0_1, .int)]) [0, 1] rfl
                    refine va_calli (va_runV (As := [.int j51l4, .int r91]) (rest := [.int x82, .ref a0_2]) ⟨hx, hb, hml, hown, hts⟩ (c_X4_worth l dC dI H.size a0 j51l4 r91 (.int x4) a0_1 a0_2 ka0_2 j60a0_2_a ka0_1 fa0_1 (Int.le_trans zq4 l54f_j51l4) bj51l4_u h91_0 h91_1) (cwV 2 hts gX4_weigh_X4_worth rfl rfl rfl zd_X4_worth ⟨Nat.le_of_ble_eq_true rfl, Nat.le_of_ble_eq_true rfl⟩) ⟨ax_blind (fun _ _ _ _ _ => trivial), zr_4 hKc (zp_P3 hP) (q0 := 0) rfl, ax_pre (zp_P3 hP) hKc (zp_D3 hD) (fun _ _ => trivial)⟩ rfl rfl hl.1 rfl (lv_room (Nat.le_of_ble_eq_true rfl)) dX4_weigh_94 ⟨Nat.le_of_ble_eq_true rfl, Nat.le_of_ble_eq_true rfl⟩) hS (fun q _ h => zp_F3 hD hS hA q h) (zp_F3 hD hS hA) (fun r94 u t H locs ht hvm hw hB hz1 hk1 hS1 => zo3 hB ht hP hD hk1 (zp_F3 hD hS hA) hS1 (fun hP hK1 hD hS => ?_))
                    refine va_iast hx hb hK hP hD hS 1 0 rfl rfl (ai_in bx82.1 bx82.2 (by decide) (by decide)) dX4_weigh_97 (fun H locs hP hD hS => ?_)
                    obtain ⟨f97, hP, hD⟩ : ∃ f97 : Nat → Int32, va_P (dC, dI) vwCl [(a0, .inr (4, [.int x4, .ref a0_1, .ref a0_2])), (a0_2, .inl (ka0_2, 549, .inl (f97))), (a0_1, .inl (ka0_1, 61, .inl (fa0_1)))] H ∧ va_D A [(a0, .inr (4, [.int x4, .ref a0_1, .ref a0_2])), (a0_2, .inl (ka0_2, 549, .inl (f97))), (a0_1, .inl (ka0_1, 61, .inl (fa0_1)))] := ⟨_, hP, hD⟩
                    obtain ⟨x98, ex98⟩ : ∃ y : Int32, y = j60l5 + Int32.ofInt 1 := ⟨_, rfl⟩
                    have qx98 : x98.toInt = j60l5.toInt + 1 := ai_inc ex98 (by decide) (by decide) u66f_j60l5 (by decide)
                    have bx98 : (1 : Int) ≤ x98.toInt ∧ x98.toInt ≤ 9 := ⟨by rw [qx98]; exact Int.add_le_add bj60l5_l (Int.le_refl _), by rw [qx98]; exact Int.add_le_add u66f_j60l5 (Int.le_refl _)⟩
                    refine lv_iinc (v := x98) (lv' := [(5, .int x98), (0, .ref a0), (4, .int j51l4)]) hx hb dX4_weigh_98 hl (k := 2) rfl ex98.symm (by decide) rfl (fun ls hl => ?_)
                    refine lv_goto (tgt := 60) hx hb dX4_weigh_101 (by decide) ?_
                    exact (hK0 _ _ _).mp (ih60 x98 f97 _ _ _ (by first | exact zg_s hm60 qx98 | (have h0 := qx98; omega)) (Int.le_trans zq4 bx98.1) bx98.2 hP hD hS (lv_sub hl [1, 2, 0] rfl))
              exact (hK0 _ _ _).mp (J60 10 0 j51a0_2_a _ _ _ (by first | decide +kernel | (have h1 : (0 : Int) ≤ (0 : Int32).toInt := zq5; have h2 : (0 : Int32).toInt ≤ (0 : Int) := zq6; omega)) zq5 (Int.le_trans zq6 zq7) hP hD hS (lv_sub hl [1, 2, 0] rfl))
        exact (hK0 _ _ _).mp (J51 61 x13 j20a0_2_a _ _ _ (by have h1 : (0 : Int) ≤ x13.toInt := bx13.1; have h2 : x13.toInt ≤ (60 : Int) := bx13.2; omega) bx13.1 bx13.2 hP hD hS (lv_sub hl [1, 0] rfl))
      · have gc26 := ai_nle c26
        have u26f_j20l4 : j20l4.toInt ≤ (8 : Int) := ai_lthi gc26 bx4.2
        have l26f_x4 : (1 : Int) ≤ x4.toInt := ai_ltlo gc26 bj20l4_l
        refine lv_aload_n hx hb dX4_weigh_29 rfl (lv_at hl 0 rfl) ?_
        refine va_get (D := (dC, dI)) (ci := 4) (v := .ref a0_2) (C := RX4) (T := TX4) (N := 3) hx hb hts zi_X4_weigh_4 hown hK hP 0 rfl rfl 2 (by decide) (hts (.fieldLink RX4 15 "WaxTurns$Routes" "bestBehind" "[I") (List.mem_cons_of_mem _ (List.mem_append_left _ (List.mem_of_getElem? (i := 5) rfl)))) (fun _ h9 => h9) rfl dX4_weigh_30 ?_
        refine lv_iload_n hx hb dX4_weigh_33 rfl (lv_at hl 1 rfl) ?_
        refine lv_bipush (v := 9) hx hb dX4_weigh_34 zk_bipush_9 ?_
        refine lv_imul hx hb dX4_weigh_36 ?_
        refine lv_topi (fun x36 ex36 => ?_)
        have qx36 : x36.toInt = x13.toInt * (9 : Int32).toInt ∧ (0 : Int) ≤ x36.toInt ∧ x36.toInt ≤ 540 := ai_mul ex36 ⟨bx13.1, bx13.2⟩ ⟨zq2, zq3⟩ (by decide) (by decide) zq47
        have wx36 : x36.toInt = x13.toInt * 9 := qx36.1
        refine lv_iload hx hb dX4_weigh_37 (lv_at hl 2 rfl) ?_
        refine lv_iadd hx hb dX4_weigh_39 ?_
        refine lv_topi (fun x39 ex39 => ?_)
        have qx39 : x39.toInt = x36.toInt + j20l4.toInt := ai_add ex39 ⟨qx36.2.1, qx36.2.2⟩ ⟨bj20l4_l, u26f_j20l4⟩ (by decide) (by decide)
        have bx39 : (0 : Int) ≤ x39.toInt ∧ x39.toInt ≤ 548 := ⟨by rw [qx39]; exact Int.add_le_add qx36.2.1 bj20l4_l, by rw [qx39]; exact Int.add_le_add qx36.2.2 u26f_j20l4⟩
        refine lv_iconst (v := 0) hx hb dX4_weigh_40 zk_iconst_0 ?_
        refine va_iast hx hb hK hP hD hS 1 0 rfl rfl (ai_in bx39.1 bx39.2 (by decide) (by decide)) dX4_weigh_41 (fun H locs hP hD hS => ?_)
        obtain ⟨f41, hP, hD⟩ : ∃ f41 : Nat → Int32, va_P (dC, dI) vwCl [(a0, .inr (4, [.int x4, .ref a0_1, .ref a0_2])), (a0_2, .inl (ka0_2, 549, .inl (f41))), (a0_1, .inl (ka0_1, 61, .inl (fa0_1)))] H ∧ va_D A [(a0, .inr (4, [.int x4, .ref a0_1, .ref a0_2])), (a0_2, .inl (ka0_2, 549, .inl (f41))), (a0_1, .inl (ka0_1, 61, .inl (fa0_1)))] := ⟨_, hP, hD⟩
        obtain ⟨x42, ex42⟩ : ∃ y : Int32, y = j20l4 + Int32.ofInt 1 := ⟨_, rfl⟩
        have qx42 : x42.toInt = j20l4.toInt + 1 := ai_inc ex42 (by decide) (by decide) u26f_j20l4 (by decide)
        have bx42 : (1 : Int) ≤ x42.toInt ∧ x42.toInt ≤ 9 := ⟨by rw [qx42]; exact Int.add_le_add bj20l4_l (Int.le_refl _), by rw [qx42]; exact Int.add_le_add u26f_j20l4 (Int.le_refl _)⟩
        refine lv_iinc (v := x42) (lv' := [(4, .int x42), (0, .ref a0), (3, .int x13)]) hx hb dX4_weigh_42 hl (k := 2) rfl ex42.symm (by decide) rfl (fun ls hl => ?_)
        refine lv_goto (tgt := 20) hx hb dX4_weigh_45 (by decide) ?_
        exact (hK0 _ _ _).mp (ih20 x42 f41 _ _ _ (by first | exact zg_s hm20 qx42 | (have h0 := qx42; omega)) (Int.le_trans zq4 bx42.1) bx42.2 hP hD hS (lv_sub hl [1, 2, 0] rfl))
  exact (hK0 _ _ _).mp (J20 10 0 fa0_2 _ _ _ (by first | decide +kernel | (have h1 : (0 : Int) ≤ (0 : Int32).toInt := zq5; have h2 : (0 : Int32).toInt ≤ (0 : Int) := zq6; omega)) zq5 (Int.le_trans zq6 zq7) hP hD hS (lv_sub hl [2, 1, 0] rfl))

set_option maxHeartbeats 4000000 in
set_option maxRecDepth 100000 in
theorem c_X4_minutesWith (l : Launch) (dC : Nat → ClassId) (dI : Nat → Nat → Nat) (sz : Nat) (a0 : Nat) (a1 : Int32) (a0_0 : Int32) (a0g_1 : Value) (a0_2 : Nat) (ka0_2 : ClassId) (fa0_2 : Nat → Int32) (ba0_0_l : (0 : Int) ≤ a0_0.toInt) (ba0_0_u : a0_0.toInt ≤ (9 : Int)) : zm l yX4_minutesWith wsX4_minutesWith ({ frames := 1, cells := 0, slots := 0, locals := 22 }) [.ref a0, .int a1] dC dI sz [(a0, .inr (4, [.int a0_0, a0g_1, .ref a0_2])), (a0_2, .inl (ka0_2, 549, .inl (fa0_2)))] [(ka0_2, .int)] (fun A U => va_Nw (.methodLinkNest RX4 18 yX7_within RX7) U) (fun A => va_Qi (fun (r : Int32) (_ : Unit) => True) (fun (_ : Unit) (t : State) => ax_B dC dI A [(a0, .inr (4, [.int a0_0, a0g_1, .ref a0_2])), (a0_2, .inl (ka0_2, 549, .inl (fa0_2)))] [(ka0_2, .int)] t) A) := by
  refine zh (cc := cX4_minutesWith) (maxL := 2) (ret := (some .int)) zn_RX4 rfl (Nat.le_of_ble_eq_true rfl) (fun p e s m below meth c A ls hx hb hml hr hts (hown : s.vm.findClass RX4 = some m.cls) hlocks hA hS hP hK hD hE (hl : lv_has ls 2 [(0, .ref a0), (1, .int a1)]) => ?_)
  have hE0 := hE
  refine lv_iload_n hx hb dX4_minutesWith_0 rfl (lv_at hl 1 rfl) ?_
  refine lv_iconst (v := 0) hx hb dX4_minutesWith_1 zk_iconst_0 ?_
  refine lv_aload_n hx hb dX4_minutesWith_2 rfl (lv_at hl 0 rfl) ?_
  refine va_get (D := (dC, dI)) (ci := 4) (v := .int a0_0) (C := RX4) (T := TX4) (N := 3) hx hb hts zi_X4_minutesWith_4 hown hK hP 0 rfl rfl 0 (by decide) (hts (.fieldLink RX4 28 "WaxTurns$Routes" "figures" "I") (List.mem_cons_of_mem _ (List.mem_append_left _ (List.mem_of_getElem? (i := 0) rfl)))) (fun _ h9 => h9) rfl dX4_minutesWith_3 ?_
  refine lv_iconst (v := 1) hx hb dX4_minutesWith_6 zk_iconst_1 ?_
  refine lv_isub hx hb dX4_minutesWith_7 ?_
  refine lv_topi (fun x7 ex7 => ?_)
  have qx7 : x7.toInt = a0_0.toInt - (1 : Int32).toInt := ai_sub ex7 ⟨ba0_0_l, ba0_0_u⟩ ⟨zq1, zq0⟩ (by decide) (by decide)
  have bx7 : (-1 : Int) ≤ x7.toInt ∧ x7.toInt ≤ 8 := ⟨by rw [qx7]; exact Int.sub_le_sub ba0_0_l zq0, by rw [qx7]; exact Int.sub_le_sub ba0_0_u zq1⟩
  have wx7 : x7.toInt = a0_0.toInt - 1 := qx7
  refine va_calli (va_runSN (As := [.int a1, .int 0, .int x7]) (rest := []) ⟨hx, hb, hml, hown, hts⟩ (c_X7_within l dC dI s.heap.size a1 0 x7 ) ⟨va_cnB 3 hts gX4_minutesWith_X7_within_n18 rfl rfl rfl hE0 (hts (.initialized RX7) (List.mem_cons_of_mem _ (List.mem_append_left _ (List.mem_of_getElem? (i := 3) rfl)))) zd_X7_within.2 ⟨Nat.le_of_ble_eq_true rfl, Nat.le_of_ble_eq_true rfl⟩, (hts (.static yX7_within) (List.mem_cons_of_mem _ (List.mem_append_left _ (List.mem_of_getElem? (i := 2) rfl)))), trivial⟩ ⟨ax_blind (fun _ _ _ _ _ => trivial), ax_pre (zp_P0 hP) (zp_K hK) (zp_D0 hD) (fun _ _ => trivial)⟩ rfl rfl hl.1 rfl (lv_room (Nat.le_of_ble_eq_true rfl)) dX4_minutesWith_8 ⟨Nat.le_of_ble_eq_true rfl, Nat.le_of_ble_eq_true rfl⟩) hS (fun q _ h => zp_F0 hD hS hA q h) (zp_F0 hD hS hA) (fun r8 u t H locs ht hvm hw hB hz1 hk1 hS1 => zo0 hB ht hP hD hk1 (zp_F0 hD hS hA) hS1 (fun hP hK1 hD hS => ?_))
  rcases hw with hw | hw
  · obtain ⟨hw, h8⟩ := hw
    subst hw
    have l8k0_a1 : (0 : Int) ≤ a1.toInt := Int.le_trans zq5 h8.1
    have u8k0_a1 : a1.toInt ≤ (8 : Int) := Int.le_trans h8.2 bx7.2
    have l8k0_x7 : (0 : Int) ≤ x7.toInt := Int.le_trans zq5 (Int.le_trans h8.1 h8.2)
    have l8k0_a0_0 : (1 : Int) ≤ a0_0.toInt := by have h1 := wx7; have h2 := l8k0_x7; omega
    refine lv_if_eq (tgt := 23) hx hb dX4_minutesWith_11 (by decide) (fun c11 => absurd c11 (by decide +kernel)) (fun _ => ?_)
    refine lv_aload_n hx hb dX4_minutesWith_14 rfl (lv_at hl 0 rfl) ?_
    refine va_get (D := (dC, dI)) (ci := 4) (v := .ref a0_2) (C := RX4) (T := TX4) (N := 3) hx hb hts zi_X4_minutesWith_4 hown hK hP 0 rfl rfl 2 (by decide) (hts (.fieldLink RX4 15 "WaxTurns$Routes" "bestBehind" "[I") (List.mem_cons_of_mem _ (List.mem_append_left _ (List.mem_of_getElem? (i := 1) rfl)))) (fun _ h9 => h9) rfl dX4_minutesWith_15 ?_
    refine lv_iload_n hx hb dX4_minutesWith_18 rfl (lv_at hl 1 rfl) ?_
    refine va_iald hx hb hK hP 1 0 rfl rfl (ai_in l8k0_a1 u8k0_a1 (by decide) (by decide)) dX4_minutesWith_19 ?_
    refine lv_topi (fun x19 ex19 => ?_)
    refine lv_goto (tgt := 24) hx hb dX4_minutesWith_20 (by decide) ?_
    exact W.iret (v := x19) hx hb hr (fun t ht hW => ⟨⟨x19, (), rfl, trivial, by rw [ht]; exact hP, va_K.moved hW.alike hK, hD⟩, hS.F ht⟩) hS.2.2 dX4_minutesWith_24
  · obtain ⟨hw, h8⟩ := hw
    subst hw
    refine lv_if_eq (tgt := 23) hx hb dX4_minutesWith_11 (by decide) (fun _ => ?_) (fun c11 => absurd (by decide +kernel) c11)
    refine lv_iconst (v := 0) hx hb dX4_minutesWith_23 zk_iconst_0 ?_
    exact W.iret (v := 0) hx hb hr (fun t ht hW => ⟨⟨0, (), rfl, trivial, by rw [ht]; exact hP, va_K.moved hW.alike hK, hD⟩, hS.F ht⟩) hS.2.2 dX4_minutesWith_24

set_option maxHeartbeats 4000000 in
set_option maxRecDepth 100000 in
theorem c_X4_placeIn (l : Launch) (dC : Nat → ClassId) (dI : Nat → Nat → Nat) (sz : Nat) (a0 : Nat) (a1 : Int32) (a2 : Int32) (a0_0 : Int32) (a0_1 : Nat) (a0_2 : Nat) (ka0_2 : ClassId) (fa0_2 : Nat → Int32) (ka0_1 : ClassId) (fa0_1 : Nat → Int32) (ba2_l : (0 : Int) ≤ a2.toInt) (ba2_u : a2.toInt ≤ (8 : Int)) (ba0_0_l : (0 : Int) ≤ a0_0.toInt) (ba0_0_u : a0_0.toInt ≤ (9 : Int)) : zm l yX4_placeIn wsX4_placeIn ({ frames := 2, cells := 0, slots := 0, locals := 45 }) [.ref a0, .int a1, .int a2] dC dI sz [(a0, .inr (4, [.int a0_0, .ref a0_1, .ref a0_2])), (a0_2, .inl (ka0_2, 549, .inl (fa0_2))), (a0_1, .inl (ka0_1, 61, .inl (fa0_1)))] [(ka0_2, .int), (ka0_1, .int)] (fun A _ => True) (fun A => va_Qi (fun (r : Int32) (_ : Unit) => (0 : Int) ≤ r.toInt ∧ r.toInt ≤ (8 : Int)) (fun (_ : Unit) (t : State) => ax_B dC dI A [(a0, .inr (4, [.int a0_0, .ref a0_1, .ref a0_2])), (a0_2, .inl (ka0_2, 549, .inl (fa0_2))), (a0_1, .inl (ka0_1, 61, .inl (fa0_1)))] [(ka0_2, .int), (ka0_1, .int)] t) A) := by
  refine zh (cc := cX4_placeIn) (maxL := 5) (ret := (some .int)) zn_RX4 rfl (Nat.le_of_ble_eq_true rfl) (fun p e s m below meth c A ls hx hb hml hr hts (hown : s.vm.findClass RX4 = some m.cls) hlocks hA hS hP hK hD hE (hl : lv_has ls 5 [(0, .ref a0), (1, .int a1), (2, .int a2)]) => ?_)
  refine ai_open (fun K hK0 => ?_)
  refine (hK0 _ _ _).mpr ?_
  refine lv_iload_n hx hb dX4_placeIn_0 rfl (lv_at hl 2 rfl) ?_
  refine lv_istore_n (lv' := [(3, .int a2), (0, .ref a0), (1, .int a1), (2, .int a2)]) hx hb dX4_placeIn_1 rfl hl (by decide) rfl (fun ls hl => ?_)
  refine lv_iconst (v := 1) hx hb dX4_placeIn_2 zk_iconst_1 ?_
  refine lv_istore (lv' := [(4, .int 1), (3, .int a2), (0, .ref a0), (1, .int a1), (2, .int a2)]) hx hb dX4_placeIn_3 hl (by decide) rfl (fun ls hl => ?_)
  have J5 : ∀ (n : Nat) (j5l4 : Int32) (j5l3 : Int32) (H : Heap) (locs : List Loc) (ls : Array Slot), (62 : Int) - j5l4.toInt ≤ (n : Int) → (1 : Int) ≤ j5l4.toInt → j5l4.toInt ≤ (61 : Int) → (0 : Int) ≤ j5l3.toInt → j5l3.toInt ≤ (8 : Int) → va_P (dC, dI) vwCl [(a0, .inr (4, [.int a0_0, .ref a0_1, .ref a0_2])), (a0_2, .inl (ka0_2, 549, .inl (fa0_2))), (a0_1, .inl (ka0_1, 61, .inl (fa0_1)))] H → va_D A [(a0, .inr (4, [.int a0_0, .ref a0_1, .ref a0_2])), (a0_2, .inl (ka0_2, 549, .inl (fa0_2))), (a0_1, .inl (ka0_1, 61, .inl (fa0_1)))] → va_S A s.heap H locs → lv_has ls 5 [(0, .ref a0), (1, .int a1), (3, .int j5l3), (4, .int j5l4)] → K H locs (F0 m 5 ls []) := by
    intro n
    induction n with
    | zero =>
      intro j5l4 j5l3 H locs ls hm bj5l4_l bj5l4_u bj5l3_l bj5l3_u hP hD hS hl
      first | exact zg_0 hm bj5l4_u (by decide) | (have h8 := ai_min j5l4; have h9 := ai_max j5l4; exact absurd hm (by omega))
    | succ n ih5 =>
      intro j5l4 j5l3 H locs ls hm bj5l4_l bj5l4_u bj5l3_l bj5l3_u hP hD hS hl
      refine (hK0 _ _ _).mpr ?_
      have hm5 := hm
      refine lv_iload hx hb dX4_placeIn_5 (lv_at hl 3 rfl) ?_
      refine lv_iload_n hx hb dX4_placeIn_7 rfl (lv_at hl 1 rfl) ?_
      refine lv_icmp_gt (tgt := 32) hx hb dX4_placeIn_8 (by decide) (fun c8 => ?_) (fun c8 => ?_)
      · have gc8 := ai_lt c8
        have u8t_a1 : a1.toInt ≤ (60 : Int) := ai_lthi gc8 bj5l4_u
        have l8t_j5l4 : (1 : Int) ≤ j5l4.toInt := bj5l4_l
        refine lv_iload_n hx hb dX4_placeIn_32 rfl (lv_at hl 2 rfl) ?_
        exact W.iret (v := j5l3) hx hb hr (fun t ht hW => ⟨⟨j5l3, (), rfl, ⟨bj5l3_l, bj5l3_u⟩, by rw [ht]; exact hP, va_K.moved hW.alike hK, hD⟩, hS.F ht⟩) hS.2.2 dX4_placeIn_33
      · have gc8 := ai_nlt c8
        have l8f_a1 : (1 : Int) ≤ a1.toInt := Int.le_trans bj5l4_l gc8
        refine lv_iload hx hb dX4_placeIn_11 (lv_at hl 3 rfl) ?_
        refine lv_bipush (v := 60) hx hb dX4_placeIn_13 zk_bipush_60 ?_
        refine lv_icmp_gt (tgt := 32) hx hb dX4_placeIn_15 (by decide) (fun c15 => ?_) (fun c15 => ?_)
        · have gc15 := ai_lt c15
          have l15t_j5l4 : (61 : Int) ≤ j5l4.toInt := ai_ltlo gc15 zq51
          refine lv_iload_n hx hb dX4_placeIn_32 rfl (lv_at hl 2 rfl) ?_
          exact W.iret (v := j5l3) hx hb hr (fun t ht hW => ⟨⟨j5l3, (), rfl, ⟨bj5l3_l, bj5l3_u⟩, by rw [ht]; exact hP, va_K.moved hW.alike hK, hD⟩, hS.F ht⟩) hS.2.2 dX4_placeIn_33
        · have gc15 := ai_nlt c15
          have u15f_j5l4 : j5l4.toInt ≤ (60 : Int) := Int.le_trans gc15 zq46
          refine lv_aload_n hx hb dX4_placeIn_18 rfl (lv_at hl 0 rfl) ?_
          refine lv_iload hx hb dX4_placeIn_19 (lv_at hl 3 rfl) ?_
          refine lv_iload_n hx hb dX4_placeIn_21 rfl (lv_at hl 2 rfl) ?_
          have hKc := hK.sub (tys' := [(ka0_2, .int), (ka0_1, .int)]) [0, 1] rfl
          refine va_calli (va_runV (As := [.int j5l4, .int j5l3]) (rest := []) ⟨hx, hb, hml, hown, hts⟩ (c_X4_step l dC dI H.size a0 j5l4 j5l3 a0_0 a0_1 a0_2 ka0_2 fa0_2 ka0_1 fa0_1 (Int.le_trans zq4 bj5l4_l) u15f_j5l4 bj5l3_l bj5l3_u ba0_0_l ba0_0_u) (cwV 2 hts gX4_placeIn_X4_step rfl rfl rfl zd_X4_step ⟨Nat.le_of_ble_eq_true rfl, Nat.le_of_ble_eq_true rfl⟩) ⟨ax_blind (fun _ _ _ _ _ => trivial), zr_4 hKc (zp_P3 hP) (q0 := 0) rfl, ax_pre (zp_P3 hP) hKc (zp_D3 hD) (fun _ _ => trivial)⟩ rfl rfl hl.1 rfl (lv_room (Nat.le_of_ble_eq_true rfl)) dX4_placeIn_22 ⟨Nat.le_of_ble_eq_true rfl, Nat.le_of_ble_eq_true rfl⟩) hS (fun q _ h => zp_F3 hD hS hA q h) (zp_F3 hD hS hA) (fun r22 u t H locs ht hvm hw hB hz1 hk1 hS1 => zo3 hB ht hP hD hk1 (zp_F3 hD hS hA) hS1 (fun hP hK1 hD hS => ?_))
          have hw : (0 : Int) ≤ r22.toInt ∧ r22.toInt ≤ (8 : Int) := hw
          obtain ⟨h22_0, h22_1⟩ := hw
          refine lv_istore_n (lv' := [(3, .int r22), (0, .ref a0), (1, .int a1), (4, .int j5l4)]) hx hb dX4_placeIn_25 rfl hl (by decide) rfl (fun ls hl => ?_)
          obtain ⟨x26, ex26⟩ : ∃ y : Int32, y = j5l4 + Int32.ofInt 1 := ⟨_, rfl⟩
          have qx26 : x26.toInt = j5l4.toInt + 1 := ai_inc ex26 (by decide) (by decide) u15f_j5l4 (by decide)
          have bx26 : (2 : Int) ≤ x26.toInt ∧ x26.toInt ≤ 61 := ⟨by rw [qx26]; exact Int.add_le_add bj5l4_l (Int.le_refl _), by rw [qx26]; exact Int.add_le_add u15f_j5l4 (Int.le_refl _)⟩
          refine lv_iinc (v := x26) (lv' := [(4, .int x26), (3, .int r22), (0, .ref a0), (1, .int a1)]) hx hb dX4_placeIn_26 hl (k := 3) rfl ex26.symm (by decide) rfl (fun ls hl => ?_)
          refine lv_goto (tgt := 5) hx hb dX4_placeIn_29 (by decide) ?_
          exact (hK0 _ _ _).mp (ih5 x26 r22 _ _ _ (by first | exact zg_s hm5 qx26 | (have h0 := qx26; omega)) (Int.le_trans zq54 bx26.1) bx26.2 h22_0 h22_1 hP hD hS (lv_sub hl [2, 3, 1, 0] rfl))
  exact (hK0 _ _ _).mp (J5 61 1 a2 _ _ _ (by first | decide +kernel | (have h1 : (1 : Int) ≤ (1 : Int32).toInt := zq1; have h2 : (1 : Int32).toInt ≤ (1 : Int) := zq0; omega)) zq1 (Int.le_trans zq0 zq55) ba2_l ba2_u hP hD hS (lv_sub hl [2, 3, 1, 0] rfl))

set_option maxHeartbeats 4000000 in
set_option maxRecDepth 100000 in
theorem c_X7_hasGallery (l : Launch) (dC : Nat → ClassId) (dI : Nat → Nat → Nat) (sz : Nat) (a0 : Nat) (a0g_0 a0g_1 a0g_2 a0g_3 a0g_4 a0g_5 a0g_6 a0g_8 a0g_9 a0g_10 : Value) (a0_7 : Nat) (a0_7_0 : Int32) (a0_7g_1 a0_7g_2 a0_7g_3 a0_7g_4 a0_7g_5 a0_7g_6 a0_7g_7 a0_7g_8 a0_7g_9 a0_7g_10 a0_7g_11 a0_7g_12 a0_7g_13 a0_7g_14 : Value) (ba0_7_0_l : (0 : Int) ≤ a0_7_0.toInt) (ba0_7_0_u : a0_7_0.toInt ≤ (9 : Int)) : zm l yX7_hasGallery wsX7_hasGallery ({ frames := 0, cells := 0, slots := 0, locals := 0 }) [.ref a0] dC dI sz [(a0, .inr (7, [a0g_0, a0g_1, a0g_2, a0g_3, a0g_4, a0g_5, a0g_6, .ref a0_7, a0g_8, a0g_9, a0g_10])), (a0_7, .inr (0, [.int a0_7_0, a0_7g_1, a0_7g_2, a0_7g_3, a0_7g_4, a0_7g_5, a0_7g_6, a0_7g_7, a0_7g_8, a0_7g_9, a0_7g_10, a0_7g_11, a0_7g_12, a0_7g_13, a0_7g_14]))] [] (fun A _ => True) (fun A => va_Qi (fun (r : Int32) (_ : Unit) => (r = 1 ∧ (1 : Int) ≤ a0_7_0.toInt ∧ a0_7_0.toInt ≤ (9 : Int)) ∨ (r = 0 ∧ (0 : Int) ≤ a0_7_0.toInt ∧ a0_7_0.toInt ≤ (0 : Int))) (fun (_ : Unit) (t : State) => ax_B dC dI A [(a0, .inr (7, [a0g_0, a0g_1, a0g_2, a0g_3, a0g_4, a0g_5, a0g_6, .ref a0_7, a0g_8, a0g_9, a0g_10])), (a0_7, .inr (0, [.int a0_7_0, a0_7g_1, a0_7g_2, a0_7g_3, a0_7g_4, a0_7g_5, a0_7g_6, a0_7g_7, a0_7g_8, a0_7g_9, a0_7g_10, a0_7g_11, a0_7g_12, a0_7g_13, a0_7g_14]))] [] t) A) := by
  refine zh (cc := cX7_hasGallery) (maxL := 1) (ret := (some .boolean)) zn_RX7 rfl (Nat.le_of_ble_eq_true rfl) (fun p e s m below meth c A ls hx hb hml hr hts (hown : s.vm.findClass RX7 = some m.cls) hlocks hA hS hP hK hD hE (hl : lv_has ls 1 [(0, .ref a0)]) => ?_)
  refine lv_aload_n hx hb dX7_hasGallery_0 rfl (lv_at hl 0 rfl) ?_
  refine va_get (D := (dC, dI)) (ci := 7) (v := .ref a0_7) (C := RX7) (T := TX7) (N := 11) hx hb hts zi_X7_hasGallery_7 hown hK hP 0 rfl rfl 7 (by decide) (hts (.fieldLink RX7 57 "WaxTurns" "hall" "LWaxTurns$Hall;") (List.mem_cons_of_mem _ (List.mem_append_left _ (List.mem_append_left _ (List.mem_of_getElem? (i := 0) rfl))))) (fun _ h9 => h9) rfl dX7_hasGallery_1 ?_
  refine va_get (D := (dC, dI)) (ci := 0) (v := .int a0_7_0) (C := RX0) (T := TX0) (N := 15) hx hb hts zi_X7_hasGallery_0 hown hK hP 1 rfl rfl 0 (by decide) (hts (.fieldLink RX7 110 "WaxTurns$Hall" "figures" "I") (List.mem_cons_of_mem _ (List.mem_append_left _ (List.mem_append_left _ (List.mem_of_getElem? (i := 1) rfl))))) (fun _ h9 => h9) rfl dX7_hasGallery_4 ?_
  refine lv_if_le (tgt := 14) hx hb dX7_hasGallery_7 (by decide) (fun c7 => ?_) (fun c7 => ?_)
  · have gc7 := ai_le c7
    have u7t_a0_7_0 : a0_7_0.toInt ≤ (0 : Int) := Int.le_trans gc7 zq6
    refine lv_iconst (v := 0) hx hb dX7_hasGallery_14 zk_iconst_0 ?_
    exact W.zret (v := 0) hx hb hr rfl (fun t ht hW => ⟨⟨0, (), rfl, (Or.inr (⟨rfl, ba0_7_0_l, u7t_a0_7_0⟩)), by rw [ht]; exact hP, va_K.moved hW.alike hK, hD⟩, hS.F ht⟩) hS.2.2 dX7_hasGallery_15
  · have gc7 := ai_nle c7
    have l7f_a0_7_0 : (1 : Int) ≤ a0_7_0.toInt := ai_ltlo gc7 zq5
    refine lv_iconst (v := 1) hx hb dX7_hasGallery_10 zk_iconst_1 ?_
    refine lv_goto (tgt := 15) hx hb dX7_hasGallery_11 (by decide) ?_
    exact W.zret (v := 1) hx hb hr rfl (fun t ht hW => ⟨⟨1, (), rfl, (Or.inl ⟨rfl, l7f_a0_7_0, ba0_7_0_u⟩), by rw [ht]; exact hP, va_K.moved hW.alike hK, hD⟩, hS.F ht⟩) hS.2.2 dX7_hasGallery_15

set_option maxHeartbeats 4000000 in
set_option maxRecDepth 100000 in
theorem c_X7_isFigure (l : Launch) (dC : Nat → ClassId) (dI : Nat → Nat → Nat) (sz : Nat) (a0 : Nat) (a1 : Int32) (a0g_0 a0g_1 a0g_2 a0g_3 a0g_4 a0g_5 a0g_6 a0g_8 a0g_9 a0g_10 : Value) (a0_7 : Nat) (a0_7_0 : Int32) (a0_7g_1 a0_7g_2 a0_7g_3 a0_7g_4 a0_7g_5 a0_7g_6 a0_7g_7 a0_7g_8 a0_7g_9 a0_7g_10 a0_7g_11 a0_7g_12 a0_7g_13 a0_7g_14 : Value) (ba0_7_0_l : (0 : Int) ≤ a0_7_0.toInt) (ba0_7_0_u : a0_7_0.toInt ≤ (9 : Int)) : zm l yX7_isFigure wsX7_isFigure ({ frames := 1, cells := 0, slots := 0, locals := 22 }) [.ref a0, .int a1] dC dI sz [(a0, .inr (7, [a0g_0, a0g_1, a0g_2, a0g_3, a0g_4, a0g_5, a0g_6, .ref a0_7, a0g_8, a0g_9, a0g_10])), (a0_7, .inr (0, [.int a0_7_0, a0_7g_1, a0_7g_2, a0_7g_3, a0_7g_4, a0_7g_5, a0_7g_6, a0_7g_7, a0_7g_8, a0_7g_9, a0_7g_10, a0_7g_11, a0_7g_12, a0_7g_13, a0_7g_14]))] [] (fun A _ => True) (fun A => va_Qi (fun (r : Int32) (_ : Unit) => (r = 1 ∧ (0 : Int) ≤ a1.toInt ∧ a1.toInt ≤ (8 : Int) ∧ (1 : Int) ≤ a0_7_0.toInt ∧ a0_7_0.toInt ≤ (9 : Int)) ∨ (r = 0)) (fun (_ : Unit) (t : State) => ax_B dC dI A [(a0, .inr (7, [a0g_0, a0g_1, a0g_2, a0g_3, a0g_4, a0g_5, a0g_6, .ref a0_7, a0g_8, a0g_9, a0g_10])), (a0_7, .inr (0, [.int a0_7_0, a0_7g_1, a0_7g_2, a0_7g_3, a0_7g_4, a0_7g_5, a0_7g_6, a0_7g_7, a0_7g_8, a0_7g_9, a0_7g_10, a0_7g_11, a0_7g_12, a0_7g_13, a0_7g_14]))] [] t) A) := by
  refine zh (cc := cX7_isFigure) (maxL := 2) (ret := (some .boolean)) zn_RX7 rfl (Nat.le_of_ble_eq_true rfl) (fun p e s m below meth c A ls hx hb hml hr hts (hown : s.vm.findClass RX7 = some m.cls) hlocks hA hS hP hK hD hE (hl : lv_has ls 2 [(0, .ref a0), (1, .int a1)]) => ?_)
  refine lv_iload_n hx hb dX7_isFigure_0 rfl (lv_at hl 1 rfl) ?_
  refine lv_iconst (v := 0) hx hb dX7_isFigure_1 zk_iconst_0 ?_
  refine lv_aload_n hx hb dX7_isFigure_2 rfl (lv_at hl 0 rfl) ?_
  refine va_get (D := (dC, dI)) (ci := 7) (v := .ref a0_7) (C := RX7) (T := TX7) (N := 11) hx hb hts zi_X7_isFigure_7 hown hK hP 0 rfl rfl 7 (by decide) (hts (.fieldLink RX7 57 "WaxTurns" "hall" "LWaxTurns$Hall;") (List.mem_cons_of_mem _ (List.mem_append_left _ (List.mem_append_left _ (List.mem_of_getElem? (i := 0) rfl))))) (fun _ h9 => h9) rfl dX7_isFigure_3 ?_
  refine va_get (D := (dC, dI)) (ci := 0) (v := .int a0_7_0) (C := RX0) (T := TX0) (N := 15) hx hb hts zi_X7_isFigure_0 hown hK hP 1 rfl rfl 0 (by decide) (hts (.fieldLink RX7 110 "WaxTurns$Hall" "figures" "I") (List.mem_cons_of_mem _ (List.mem_append_left _ (List.mem_append_left _ (List.mem_of_getElem? (i := 1) rfl))))) (fun _ h9 => h9) rfl dX7_isFigure_6 ?_
  refine lv_iconst (v := 1) hx hb dX7_isFigure_9 zk_iconst_1 ?_
  refine lv_isub hx hb dX7_isFigure_10 ?_
  refine lv_topi (fun x10 ex10 => ?_)
  have qx10 : x10.toInt = a0_7_0.toInt - (1 : Int32).toInt := ai_sub ex10 ⟨ba0_7_0_l, ba0_7_0_u⟩ ⟨zq1, zq0⟩ (by decide) (by decide)
  have bx10 : (-1 : Int) ≤ x10.toInt ∧ x10.toInt ≤ 8 := ⟨by rw [qx10]; exact Int.sub_le_sub ba0_7_0_l zq0, by rw [qx10]; exact Int.sub_le_sub ba0_7_0_u zq1⟩
  have wx10 : x10.toInt = a0_7_0.toInt - 1 := qx10
  refine va_calli (va_runS (As := [.int a1, .int 0, .int x10]) (rest := []) ⟨hx, hb, hml, hown, hts⟩ (c_X7_within l dC dI s.heap.size a1 0 x10 ) (va_cwS 3 hts gX7_isFigure_X7_within rfl rfl rfl zd_X7_within.2 ⟨Nat.le_of_ble_eq_true rfl, Nat.le_of_ble_eq_true rfl⟩) ⟨ax_blind (fun _ _ _ _ _ => trivial), ax_pre (zp_P0 hP) (zp_K hK) (zp_D0 hD) (fun _ _ => trivial)⟩ rfl rfl hl.1 rfl (lv_room (Nat.le_of_ble_eq_true rfl)) dX7_isFigure_11 ⟨Nat.le_of_ble_eq_true rfl, Nat.le_of_ble_eq_true rfl⟩) hS (fun q _ h => zp_F0 hD hS hA q h) (zp_F0 hD hS hA) (fun r11 u t H locs ht hvm hw hB hz1 hk1 hS1 => zo0 hB ht hP hD hk1 (zp_F0 hD hS hA) hS1 (fun hP hK1 hD hS => ?_))
  rcases hw with hw | hw
  · obtain ⟨hw, h11⟩ := hw
    subst hw
    have l11k0_a1 : (0 : Int) ≤ a1.toInt := Int.le_trans zq5 h11.1
    have u11k0_a1 : a1.toInt ≤ (8 : Int) := Int.le_trans h11.2 bx10.2
    have l11k0_x10 : (0 : Int) ≤ x10.toInt := Int.le_trans zq5 (Int.le_trans h11.1 h11.2)
    have l11k0_a0_7_0 : (1 : Int) ≤ a0_7_0.toInt := by have h1 := wx10; have h2 := l11k0_x10; omega
    exact W.zret (v := 1) hx hb hr rfl (fun t ht hW => ⟨⟨1, (), rfl, (Or.inl ⟨rfl, l11k0_a1, u11k0_a1, l11k0_a0_7_0, ba0_7_0_u⟩), by rw [ht]; exact hP, va_K.moved hW.alike hK, hD⟩, hS.F ht⟩) hS.2.2 dX7_isFigure_14
  · obtain ⟨hw, h11⟩ := hw
    subst hw
    exact W.zret (v := 0) hx hb hr rfl (fun t ht hW => ⟨⟨0, (), rfl, (Or.inr (rfl)), by rw [ht]; exact hP, va_K.moved hW.alike hK, hD⟩, hS.F ht⟩) hS.2.2 dX7_isFigure_14

set_option maxHeartbeats 4000000 in
set_option maxRecDepth 100000 in
theorem c_X7_isPlace (l : Launch) (dC : Nat → ClassId) (dI : Nat → Nat → Nat) (sz : Nat) (a0 : Nat) (a1 : Int32) (a0g_0 a0g_1 a0g_2 a0g_3 a0g_4 a0g_5 a0g_6 a0g_8 a0g_9 a0g_10 : Value) (a0_7 : Nat) (a0_7_0 : Int32) (a0_7g_1 a0_7g_2 a0_7g_3 a0_7g_4 a0_7g_5 a0_7g_6 a0_7g_7 a0_7g_8 a0_7g_9 a0_7g_10 a0_7g_11 a0_7g_12 a0_7g_13 a0_7g_14 : Value) (ba0_7_0_l : (0 : Int) ≤ a0_7_0.toInt) (ba0_7_0_u : a0_7_0.toInt ≤ (9 : Int)) : zm l yX7_isPlace wsX7_isPlace ({ frames := 1, cells := 0, slots := 0, locals := 22 }) [.ref a0, .int a1] dC dI sz [(a0, .inr (7, [a0g_0, a0g_1, a0g_2, a0g_3, a0g_4, a0g_5, a0g_6, .ref a0_7, a0g_8, a0g_9, a0g_10])), (a0_7, .inr (0, [.int a0_7_0, a0_7g_1, a0_7g_2, a0_7g_3, a0_7g_4, a0_7g_5, a0_7g_6, a0_7g_7, a0_7g_8, a0_7g_9, a0_7g_10, a0_7g_11, a0_7g_12, a0_7g_13, a0_7g_14]))] [] (fun A _ => True) (fun A => va_Qi (fun (r : Int32) (_ : Unit) => (r = 1 ∧ (0 : Int) ≤ a1.toInt ∧ a1.toInt ≤ (8 : Int) ∧ (1 : Int) ≤ a0_7_0.toInt ∧ a0_7_0.toInt ≤ (9 : Int)) ∨ (r = 0)) (fun (_ : Unit) (t : State) => ax_B dC dI A [(a0, .inr (7, [a0g_0, a0g_1, a0g_2, a0g_3, a0g_4, a0g_5, a0g_6, .ref a0_7, a0g_8, a0g_9, a0g_10])), (a0_7, .inr (0, [.int a0_7_0, a0_7g_1, a0_7g_2, a0_7g_3, a0_7g_4, a0_7g_5, a0_7g_6, a0_7g_7, a0_7g_8, a0_7g_9, a0_7g_10, a0_7g_11, a0_7g_12, a0_7g_13, a0_7g_14]))] [] t) A) := by
  refine zh (cc := cX7_isPlace) (maxL := 2) (ret := (some .boolean)) zn_RX7 rfl (Nat.le_of_ble_eq_true rfl) (fun p e s m below meth c A ls hx hb hml hr hts (hown : s.vm.findClass RX7 = some m.cls) hlocks hA hS hP hK hD hE (hl : lv_has ls 2 [(0, .ref a0), (1, .int a1)]) => ?_)
  refine lv_iload_n hx hb dX7_isPlace_0 rfl (lv_at hl 1 rfl) ?_
  refine lv_iconst (v := 0) hx hb dX7_isPlace_1 zk_iconst_0 ?_
  refine lv_aload_n hx hb dX7_isPlace_2 rfl (lv_at hl 0 rfl) ?_
  refine va_get (D := (dC, dI)) (ci := 7) (v := .ref a0_7) (C := RX7) (T := TX7) (N := 11) hx hb hts zi_X7_isPlace_7 hown hK hP 0 rfl rfl 7 (by decide) (hts (.fieldLink RX7 57 "WaxTurns" "hall" "LWaxTurns$Hall;") (List.mem_cons_of_mem _ (List.mem_append_left _ (List.mem_append_left _ (List.mem_of_getElem? (i := 0) rfl))))) (fun _ h9 => h9) rfl dX7_isPlace_3 ?_
  refine va_get (D := (dC, dI)) (ci := 0) (v := .int a0_7_0) (C := RX0) (T := TX0) (N := 15) hx hb hts zi_X7_isPlace_0 hown hK hP 1 rfl rfl 0 (by decide) (hts (.fieldLink RX7 110 "WaxTurns$Hall" "figures" "I") (List.mem_cons_of_mem _ (List.mem_append_left _ (List.mem_append_left _ (List.mem_of_getElem? (i := 1) rfl))))) (fun _ h9 => h9) rfl dX7_isPlace_6 ?_
  refine lv_iconst (v := 1) hx hb dX7_isPlace_9 zk_iconst_1 ?_
  refine lv_isub hx hb dX7_isPlace_10 ?_
  refine lv_topi (fun x10 ex10 => ?_)
  have qx10 : x10.toInt = a0_7_0.toInt - (1 : Int32).toInt := ai_sub ex10 ⟨ba0_7_0_l, ba0_7_0_u⟩ ⟨zq1, zq0⟩ (by decide) (by decide)
  have bx10 : (-1 : Int) ≤ x10.toInt ∧ x10.toInt ≤ 8 := ⟨by rw [qx10]; exact Int.sub_le_sub ba0_7_0_l zq0, by rw [qx10]; exact Int.sub_le_sub ba0_7_0_u zq1⟩
  have wx10 : x10.toInt = a0_7_0.toInt - 1 := qx10
  refine va_calli (va_runS (As := [.int a1, .int 0, .int x10]) (rest := []) ⟨hx, hb, hml, hown, hts⟩ (c_X7_within l dC dI s.heap.size a1 0 x10 ) (va_cwS 3 hts gX7_isPlace_X7_within rfl rfl rfl zd_X7_within.2 ⟨Nat.le_of_ble_eq_true rfl, Nat.le_of_ble_eq_true rfl⟩) ⟨ax_blind (fun _ _ _ _ _ => trivial), ax_pre (zp_P0 hP) (zp_K hK) (zp_D0 hD) (fun _ _ => trivial)⟩ rfl rfl hl.1 rfl (lv_room (Nat.le_of_ble_eq_true rfl)) dX7_isPlace_11 ⟨Nat.le_of_ble_eq_true rfl, Nat.le_of_ble_eq_true rfl⟩) hS (fun q _ h => zp_F0 hD hS hA q h) (zp_F0 hD hS hA) (fun r11 u t H locs ht hvm hw hB hz1 hk1 hS1 => zo0 hB ht hP hD hk1 (zp_F0 hD hS hA) hS1 (fun hP hK1 hD hS => ?_))
  rcases hw with hw | hw
  · obtain ⟨hw, h11⟩ := hw
    subst hw
    have l11k0_a1 : (0 : Int) ≤ a1.toInt := Int.le_trans zq5 h11.1
    have u11k0_a1 : a1.toInt ≤ (8 : Int) := Int.le_trans h11.2 bx10.2
    have l11k0_x10 : (0 : Int) ≤ x10.toInt := Int.le_trans zq5 (Int.le_trans h11.1 h11.2)
    have l11k0_a0_7_0 : (1 : Int) ≤ a0_7_0.toInt := by have h1 := wx10; have h2 := l11k0_x10; omega
    exact W.zret (v := 1) hx hb hr rfl (fun t ht hW => ⟨⟨1, (), rfl, (Or.inl ⟨rfl, l11k0_a1, u11k0_a1, l11k0_a0_7_0, ba0_7_0_u⟩), by rw [ht]; exact hP, va_K.moved hW.alike hK, hD⟩, hS.F ht⟩) hS.2.2 dX7_isPlace_14
  · obtain ⟨hw, h11⟩ := hw
    subst hw
    exact W.zret (v := 0) hx hb hr rfl (fun t ht hW => ⟨⟨0, (), rfl, (Or.inr (rfl)), by rw [ht]; exact hP, va_K.moved hW.alike hK, hD⟩, hS.F ht⟩) hS.2.2 dX7_isPlace_14

set_option maxHeartbeats 4000000 in
set_option maxRecDepth 100000 in
theorem c_X7_isWatcher (l : Launch) (dC : Nat → ClassId) (dI : Nat → Nat → Nat) (sz : Nat) (a0 : Nat) (a1 : Int32) (a0g_0 a0g_1 a0g_2 a0g_3 a0g_4 a0g_5 a0g_6 a0g_8 a0g_9 a0g_10 : Value) (a0_7 : Nat) (a0_7g_0 a0_7g_1 a0_7g_2 a0_7g_3 a0_7g_4 a0_7g_5 a0_7g_6 a0_7g_7 a0_7g_8 a0_7g_9 a0_7g_10 a0_7g_11 a0_7g_12 a0_7g_13 : Value) (a0_7_14 : Nat) (a0_7_14_0 : Int32) (a0_7_14g_1 a0_7_14g_2 a0_7_14g_3 : Value) (ba0_7_14_0_l : (0 : Int) ≤ a0_7_14_0.toInt) (ba0_7_14_0_u : a0_7_14_0.toInt ≤ (3 : Int)) : zm l yX7_isWatcher wsX7_isWatcher ({ frames := 1, cells := 0, slots := 0, locals := 22 }) [.ref a0, .int a1] dC dI sz [(a0, .inr (7, [a0g_0, a0g_1, a0g_2, a0g_3, a0g_4, a0g_5, a0g_6, .ref a0_7, a0g_8, a0g_9, a0g_10])), (a0_7, .inr (0, [a0_7g_0, a0_7g_1, a0_7g_2, a0_7g_3, a0_7g_4, a0_7g_5, a0_7g_6, a0_7g_7, a0_7g_8, a0_7g_9, a0_7g_10, a0_7g_11, a0_7g_12, a0_7g_13, .ref a0_7_14])), (a0_7_14, .inr (6, [.int a0_7_14_0, a0_7_14g_1, a0_7_14g_2, a0_7_14g_3]))] [] (fun A _ => True) (fun A => va_Qi (fun (r : Int32) (_ : Unit) => (r = 1 ∧ (0 : Int) ≤ a1.toInt ∧ a1.toInt ≤ (2 : Int) ∧ (1 : Int) ≤ a0_7_14_0.toInt ∧ a0_7_14_0.toInt ≤ (3 : Int)) ∨ (r = 0)) (fun (_ : Unit) (t : State) => ax_B dC dI A [(a0, .inr (7, [a0g_0, a0g_1, a0g_2, a0g_3, a0g_4, a0g_5, a0g_6, .ref a0_7, a0g_8, a0g_9, a0g_10])), (a0_7, .inr (0, [a0_7g_0, a0_7g_1, a0_7g_2, a0_7g_3, a0_7g_4, a0_7g_5, a0_7g_6, a0_7g_7, a0_7g_8, a0_7g_9, a0_7g_10, a0_7g_11, a0_7g_12, a0_7g_13, .ref a0_7_14])), (a0_7_14, .inr (6, [.int a0_7_14_0, a0_7_14g_1, a0_7_14g_2, a0_7_14g_3]))] [] t) A) := by
  refine zh (cc := cX7_isWatcher) (maxL := 2) (ret := (some .boolean)) zn_RX7 rfl (Nat.le_of_ble_eq_true rfl) (fun p e s m below meth c A ls hx hb hml hr hts (hown : s.vm.findClass RX7 = some m.cls) hlocks hA hS hP hK hD hE (hl : lv_has ls 2 [(0, .ref a0), (1, .int a1)]) => ?_)
  refine lv_iload_n hx hb dX7_isWatcher_0 rfl (lv_at hl 1 rfl) ?_
  refine lv_iconst (v := 0) hx hb dX7_isWatcher_1 zk_iconst_0 ?_
  refine lv_aload_n hx hb dX7_isWatcher_2 rfl (lv_at hl 0 rfl) ?_
  refine va_get (D := (dC, dI)) (ci := 7) (v := .ref a0_7) (C := RX7) (T := TX7) (N := 11) hx hb hts zi_X7_isWatcher_7 hown hK hP 0 rfl rfl 7 (by decide) (hts (.fieldLink RX7 57 "WaxTurns" "hall" "LWaxTurns$Hall;") (List.mem_cons_of_mem _ (List.mem_append_left _ (List.mem_append_left _ (List.mem_append_left _ (List.mem_of_getElem? (i := 0) rfl)))))) (fun _ h9 => h9) rfl dX7_isWatcher_3 ?_
  refine va_get (D := (dC, dI)) (ci := 0) (v := .ref a0_7_14) (C := RX0) (T := TX0) (N := 15) hx hb hts zi_X7_isWatcher_0 hown hK hP 1 rfl rfl 14 (by decide) (hts (.fieldLink RX7 138 "WaxTurns$Hall" "watchers" "LWaxTurns$Watchers;") (List.mem_cons_of_mem _ (List.mem_append_left _ (List.mem_append_left _ (List.mem_append_left _ (List.mem_of_getElem? (i := 1) rfl)))))) (fun _ h9 => h9) rfl dX7_isWatcher_6 ?_
  refine va_get (D := (dC, dI)) (ci := 6) (v := .int a0_7_14_0) (C := RX6) (T := TX6) (N := 4) hx hb hts zi_X7_isWatcher_6 hown hK hP 2 rfl rfl 0 (by decide) (hts (.fieldLink RX7 361 "WaxTurns$Watchers" "count" "I") (List.mem_cons_of_mem _ (List.mem_append_left _ (List.mem_append_left _ (List.mem_append_left _ (List.mem_of_getElem? (i := 2) rfl)))))) (fun _ h9 => h9) rfl dX7_isWatcher_9 ?_
  refine lv_iconst (v := 1) hx hb dX7_isWatcher_12 zk_iconst_1 ?_
  refine lv_isub hx hb dX7_isWatcher_13 ?_
  refine lv_topi (fun x13 ex13 => ?_)
  have qx13 : x13.toInt = a0_7_14_0.toInt - (1 : Int32).toInt := ai_sub ex13 ⟨ba0_7_14_0_l, ba0_7_14_0_u⟩ ⟨zq1, zq0⟩ (by decide) (by decide)
  have bx13 : (-1 : Int) ≤ x13.toInt ∧ x13.toInt ≤ 2 := ⟨by rw [qx13]; exact Int.sub_le_sub ba0_7_14_0_l zq0, by rw [qx13]; exact Int.sub_le_sub ba0_7_14_0_u zq1⟩
  have wx13 : x13.toInt = a0_7_14_0.toInt - 1 := qx13
  refine va_calli (va_runS (As := [.int a1, .int 0, .int x13]) (rest := []) ⟨hx, hb, hml, hown, hts⟩ (c_X7_within l dC dI s.heap.size a1 0 x13 ) (va_cwS 3 hts gX7_isWatcher_X7_within rfl rfl rfl zd_X7_within.2 ⟨Nat.le_of_ble_eq_true rfl, Nat.le_of_ble_eq_true rfl⟩) ⟨ax_blind (fun _ _ _ _ _ => trivial), ax_pre (zp_P0 hP) (zp_K hK) (zp_D0 hD) (fun _ _ => trivial)⟩ rfl rfl hl.1 rfl (lv_room (Nat.le_of_ble_eq_true rfl)) dX7_isWatcher_14 ⟨Nat.le_of_ble_eq_true rfl, Nat.le_of_ble_eq_true rfl⟩) hS (fun q _ h => zp_F0 hD hS hA q h) (zp_F0 hD hS hA) (fun r14 u t H locs ht hvm hw hB hz1 hk1 hS1 => zo0 hB ht hP hD hk1 (zp_F0 hD hS hA) hS1 (fun hP hK1 hD hS => ?_))
  rcases hw with hw | hw
  · obtain ⟨hw, h14⟩ := hw
    subst hw
    have l14k0_a1 : (0 : Int) ≤ a1.toInt := Int.le_trans zq5 h14.1
    have u14k0_a1 : a1.toInt ≤ (2 : Int) := Int.le_trans h14.2 bx13.2
    have l14k0_x13 : (0 : Int) ≤ x13.toInt := Int.le_trans zq5 (Int.le_trans h14.1 h14.2)
    have l14k0_a0_7_14_0 : (1 : Int) ≤ a0_7_14_0.toInt := by have h1 := wx13; have h2 := l14k0_x13; omega
    exact W.zret (v := 1) hx hb hr rfl (fun t ht hW => ⟨⟨1, (), rfl, (Or.inl ⟨rfl, l14k0_a1, u14k0_a1, l14k0_a0_7_14_0, ba0_7_14_0_u⟩), by rw [ht]; exact hP, va_K.moved hW.alike hK, hD⟩, hS.F ht⟩) hS.2.2 dX7_isWatcher_17
  · obtain ⟨hw, h14⟩ := hw
    subst hw
    exact W.zret (v := 0) hx hb hr rfl (fun t ht hW => ⟨⟨0, (), rfl, (Or.inr (rfl)), by rw [ht]; exact hP, va_K.moved hW.alike hK, hD⟩, hS.F ht⟩) hS.2.2 dX7_isWatcher_17
end P104_safe
section P105_safe
set_option maxHeartbeats 4000000 in
set_option maxRecDepth 100000 in
theorem c_X7_answered (l : Launch) (dC : Nat → ClassId) (dI : Nat → Nat → Nat) (sz : Nat) (a0 : Nat) (a1 : Int32) (a0g_0 a0g_1 a0g_2 a0g_3 a0g_4 a0g_5 a0g_6 a0g_7 a0g_9 a0g_10 : Value) (a0_8 : Int32)  : zm l yX7_answered wsX7_answered ({ frames := 0, cells := 0, slots := 0, locals := 0 }) [.ref a0, .int a1] dC dI sz [(a0, .inr (7, [a0g_0, a0g_1, a0g_2, a0g_3, a0g_4, a0g_5, a0g_6, a0g_7, .int a0_8, a0g_9, a0g_10]))] [] (fun A _ => True) (fun A => va_Qi (fun (r : Int32) (_ : Unit) => r = a1) (fun (_ : Unit) (t : State) => ∃ na0_8 : Int32, ax_B dC dI A [(a0, .inr (7, [a0g_0, a0g_1, a0g_2, a0g_3, a0g_4, a0g_5, a0g_6, a0g_7, .int na0_8, a0g_9, a0g_10]))] [] t) A) := by
  refine zh (cc := cX7_answered) (maxL := 2) (ret := (some .int)) zn_RX7 rfl (Nat.le_of_ble_eq_true rfl) (fun p e s m below meth c A ls hx hb hml hr hts (hown : s.vm.findClass RX7 = some m.cls) hlocks hA hS hP hK hD hE (hl : lv_has ls 2 [(0, .ref a0), (1, .int a1)]) => ?_)
  refine lv_aload_n hx hb dX7_answered_0 rfl (lv_at hl 0 rfl) ?_
  refine lv_iconst (v := 0) hx hb dX7_answered_1 zk_iconst_0 ?_
  refine va_put (D := (dC, dI)) (ci := 7) (v := .int 0) (ty := .int) (C := RX7) (T := TX7) (N := 11) hx hb hts zi_X7_answered_7 tyX7 tyX7_ok nmX7 hown hK hP hD hS 0 rfl rfl 8 (by decide) (hts (.fieldLink RX7 61 "WaxTurns" "latestTrouble" "I") (List.mem_cons_of_mem _ (List.mem_append_left _ (List.mem_of_getElem? (i := 0) rfl)))) (fun _ h9 => h9) rfl (tyX7_ok 8 (by decide)) rfl rfl (Nat.le_of_ble_eq_true rfl) dX7_answered_2 (fun H locs hP hD hS => ?_)
  refine zs_0 (y := (a0, .inr (7, [a0g_0, a0g_1, a0g_2, a0g_3, a0g_4, a0g_5, a0g_6, a0g_7, .int 0, a0g_9, a0g_10]))) hP hD rfl (fun hP hD => ?_)
  refine lv_iload_n hx hb dX7_answered_5 rfl (lv_at hl 1 rfl) ?_
  exact W.iret (v := a1) hx hb hr (fun t ht hW => ⟨⟨a1, (), rfl, rfl, 0, by rw [ht]; exact hP, va_K.moved hW.alike hK, hD⟩, hS.F ht⟩) hS.2.2 dX7_answered_6

set_option maxHeartbeats 4000000 in
set_option maxRecDepth 100000 in
theorem c_X7_refused (l : Launch) (dC : Nat → ClassId) (dI : Nat → Nat → Nat) (sz : Nat) (a0 : Nat) (a1 : Int32) (a0g_0 a0g_1 a0g_2 a0g_3 a0g_4 a0g_5 a0g_6 a0g_7 a0g_9 a0g_10 : Value) (a0_8 : Int32)  : zm l yX7_refused wsX7_refused ({ frames := 0, cells := 0, slots := 0, locals := 0 }) [.ref a0, .int a1] dC dI sz [(a0, .inr (7, [a0g_0, a0g_1, a0g_2, a0g_3, a0g_4, a0g_5, a0g_6, a0g_7, .int a0_8, a0g_9, a0g_10]))] [] (fun A _ => True) (fun A => va_Qi (fun (r : Int32) (_ : Unit) => r = (-1)) (fun (_ : Unit) (t : State) => ∃ na0_8 : Int32, ax_B dC dI A [(a0, .inr (7, [a0g_0, a0g_1, a0g_2, a0g_3, a0g_4, a0g_5, a0g_6, a0g_7, .int na0_8, a0g_9, a0g_10]))] [] t) A) := by
  refine zh (cc := cX7_refused) (maxL := 2) (ret := (some .int)) zn_RX7 rfl (Nat.le_of_ble_eq_true rfl) (fun p e s m below meth c A ls hx hb hml hr hts (hown : s.vm.findClass RX7 = some m.cls) hlocks hA hS hP hK hD hE (hl : lv_has ls 2 [(0, .ref a0), (1, .int a1)]) => ?_)
  refine lv_aload_n hx hb dX7_refused_0 rfl (lv_at hl 0 rfl) ?_
  refine lv_iload_n hx hb dX7_refused_1 rfl (lv_at hl 1 rfl) ?_
  refine va_put (D := (dC, dI)) (ci := 7) (v := .int a1) (ty := .int) (C := RX7) (T := TX7) (N := 11) hx hb hts zi_X7_refused_7 tyX7 tyX7_ok nmX7 hown hK hP hD hS 0 rfl rfl 8 (by decide) (hts (.fieldLink RX7 61 "WaxTurns" "latestTrouble" "I") (List.mem_cons_of_mem _ (List.mem_append_left _ (List.mem_of_getElem? (i := 0) rfl)))) (fun _ h9 => h9) rfl (tyX7_ok 8 (by decide)) rfl rfl (Nat.le_of_ble_eq_true rfl) dX7_refused_2 (fun H locs hP hD hS => ?_)
  refine zs_0 (y := (a0, .inr (7, [a0g_0, a0g_1, a0g_2, a0g_3, a0g_4, a0g_5, a0g_6, a0g_7, .int a1, a0g_9, a0g_10]))) hP hD rfl (fun hP hD => ?_)
  refine lv_iconst (v := (-1)) hx hb dX7_refused_5 zk_iconst_n1 ?_
  exact W.iret (v := (-1)) hx hb hr (fun t ht hW => ⟨⟨(-1), (), rfl, rfl, a1, by rw [ht]; exact hP, va_K.moved hW.alike hK, hD⟩, hS.F ht⟩) hS.2.2 dX7_refused_6

set_option maxHeartbeats 4000000 in
set_option maxRecDepth 100000 in
theorem c_X7_troubleOfNumber (l : Launch) (dC : Nat → ClassId) (dI : Nat → Nat → Nat) (sz : Nat) (a0 : Nat) (a1 : Int32) (a2 : Int32) (a3 : Int32) (a0g_0 a0g_1 a0g_2 a0g_3 a0g_4 a0g_5 a0g_6 a0g_8 a0g_9 a0g_10 : Value) (a0_7 : Nat) (a0_7_0 : Int32) (a0_7g_1 a0_7g_2 a0_7g_3 a0_7g_4 a0_7g_5 a0_7g_6 a0_7g_7 a0_7g_8 a0_7g_9 a0_7g_10 a0_7g_11 a0_7g_12 a0_7g_13 a0_7g_14 : Value) (ba0_7_0_l : (0 : Int) ≤ a0_7_0.toInt) (ba0_7_0_u : a0_7_0.toInt ≤ (9 : Int)) : zm l yX7_troubleOfNumber wsX7_troubleOfNumber ({ frames := 1, cells := 0, slots := 0, locals := 22 }) [.ref a0, .int a1, .int a2, .int a3] dC dI sz [(a0, .inr (7, [a0g_0, a0g_1, a0g_2, a0g_3, a0g_4, a0g_5, a0g_6, .ref a0_7, a0g_8, a0g_9, a0g_10])), (a0_7, .inr (0, [.int a0_7_0, a0_7g_1, a0_7g_2, a0_7g_3, a0_7g_4, a0_7g_5, a0_7g_6, a0_7g_7, a0_7g_8, a0_7g_9, a0_7g_10, a0_7g_11, a0_7g_12, a0_7g_13, a0_7g_14]))] [] (fun A _ => True) (fun A => va_Qi (fun (r : Int32) (_ : Unit) => (r = 0 ∧ (1 : Int) ≤ a0_7_0.toInt ∧ a2.toInt ≤ a1.toInt ∧ a1.toInt ≤ a3.toInt) ∨ r = 1 ∨ r = 2) (fun (_ : Unit) (t : State) => ax_B dC dI A [(a0, .inr (7, [a0g_0, a0g_1, a0g_2, a0g_3, a0g_4, a0g_5, a0g_6, .ref a0_7, a0g_8, a0g_9, a0g_10])), (a0_7, .inr (0, [.int a0_7_0, a0_7g_1, a0_7g_2, a0_7g_3, a0_7g_4, a0_7g_5, a0_7g_6, a0_7g_7, a0_7g_8, a0_7g_9, a0_7g_10, a0_7g_11, a0_7g_12, a0_7g_13, a0_7g_14]))] [] t) A) := by
  refine zh (cc := cX7_troubleOfNumber) (maxL := 4) (ret := (some .int)) zn_RX7 rfl (Nat.le_of_ble_eq_true rfl) (fun p e s m below meth c A ls hx hb hml hr hts (hown : s.vm.findClass RX7 = some m.cls) hlocks hA hS hP hK hD hE (hl : lv_has ls 4 [(0, .ref a0), (1, .int a1), (2, .int a2), (3, .int a3)]) => ?_)
  refine lv_aload_n hx hb dX7_troubleOfNumber_0 rfl (lv_at hl 0 rfl) ?_
  refine va_calli (va_runV (As := []) (rest := []) ⟨hx, hb, hml, hown, hts⟩ (c_X7_hasGallery l dC dI s.heap.size a0 a0g_0 a0g_1 a0g_2 a0g_3 a0g_4 a0g_5 a0g_6 a0g_8 a0g_9 a0g_10 a0_7 a0_7_0 a0_7g_1 a0_7g_2 a0_7g_3 a0_7g_4 a0_7g_5 a0_7g_6 a0_7g_7 a0_7g_8 a0_7g_9 a0_7g_10 a0_7g_11 a0_7g_12 a0_7g_13 a0_7g_14 ba0_7_0_l ba0_7_0_u) (cwV 0 hts gX7_troubleOfNumber_X7_hasGallery rfl rfl rfl zd_X7_hasGallery ⟨Nat.le_of_ble_eq_true rfl, Nat.le_of_ble_eq_true rfl⟩) ⟨ax_blind (fun _ _ _ _ _ => trivial), zr_7 (zp_K hK) (zp_P2 hP) (q0 := 0) rfl, ax_pre (zp_P2 hP) (zp_K hK) (zp_D2 hD) (fun _ _ => trivial)⟩ rfl rfl hl.1 rfl (lv_room (Nat.le_of_ble_eq_true rfl)) dX7_troubleOfNumber_1 ⟨Nat.le_of_ble_eq_true rfl, Nat.le_of_ble_eq_true rfl⟩) hS (fun q _ h => zp_F2 hD hS hA q h) (zp_F2 hD hS hA) (fun r1 u t H locs ht hvm hw hB hz1 hk1 hS1 => zo2 hB ht hP hD hk1 (zp_F2 hD hS hA) hS1 (fun hP hK1 hD hS => ?_))
  rcases hw with hw | hw
  · obtain ⟨hw, h1_0, h1_1⟩ := hw
    subst hw
    have l1k0_a0_7_0 : (1 : Int) ≤ a0_7_0.toInt := h1_0
    have u1k0_a0_7_0 : a0_7_0.toInt ≤ (9 : Int) := ba0_7_0_u
    refine lv_if_ne (tgt := 9) hx hb dX7_troubleOfNumber_4 (by decide) (fun _ => ?_) (fun c4 => absurd c4 (by decide +kernel))
    refine lv_iload_n hx hb dX7_troubleOfNumber_9 rfl (lv_at hl 1 rfl) ?_
    refine lv_iload_n hx hb dX7_troubleOfNumber_10 rfl (lv_at hl 2 rfl) ?_
    refine lv_iload_n hx hb dX7_troubleOfNumber_11 rfl (lv_at hl 3 rfl) ?_
    refine va_calli (va_runS (As := [.int a1, .int a2, .int a3]) (rest := []) ⟨hx, hb, hml, hown, hts⟩ (c_X7_within l dC dI H.size a1 a2 a3 ) (va_cwS 3 hts gX7_troubleOfNumber_X7_within rfl rfl rfl zd_X7_within.2 ⟨Nat.le_of_ble_eq_true rfl, Nat.le_of_ble_eq_true rfl⟩) ⟨ax_blind (fun _ _ _ _ _ => trivial), ax_pre (zp_P0 hP) (zp_K hK) (zp_D0 hD) (fun _ _ => trivial)⟩ rfl rfl hl.1 rfl (lv_room (Nat.le_of_ble_eq_true rfl)) dX7_troubleOfNumber_12 ⟨Nat.le_of_ble_eq_true rfl, Nat.le_of_ble_eq_true rfl⟩) hS (fun q _ h => zp_F0 hD hS hA q h) (zp_F0 hD hS hA) (fun r12 u t H locs ht hvm hw hB hz1 hk1 hS1 => zo0 hB ht hP hD hk1 (zp_F0 hD hS hA) hS1 (fun hP hK1 hD hS => ?_))
    rcases hw with hw | hw
    · obtain ⟨hw, h12⟩ := hw
      subst hw
      refine lv_if_eq (tgt := 22) hx hb dX7_troubleOfNumber_15 (by decide) (fun c15 => absurd c15 (by decide +kernel)) (fun _ => ?_)
      refine lv_iconst (v := 0) hx hb dX7_troubleOfNumber_18 zk_iconst_0 ?_
      refine lv_goto (tgt := 23) hx hb dX7_troubleOfNumber_19 (by decide) ?_
      exact W.iret (v := 0) hx hb hr (fun t ht hW => ⟨⟨0, (), rfl, (Or.inl ⟨rfl, l1k0_a0_7_0, h12⟩), by rw [ht]; exact hP, va_K.moved hW.alike hK, hD⟩, hS.F ht⟩) hS.2.2 dX7_troubleOfNumber_23
    · obtain ⟨hw, h12⟩ := hw
      subst hw
      refine lv_if_eq (tgt := 22) hx hb dX7_troubleOfNumber_15 (by decide) (fun _ => ?_) (fun c15 => absurd (by decide +kernel) c15)
      refine lv_iconst (v := 2) hx hb dX7_troubleOfNumber_22 zk_iconst_2 ?_
      exact W.iret (v := 2) hx hb hr (fun t ht hW => ⟨⟨2, (), rfl, (Or.inr (Or.inr rfl)), by rw [ht]; exact hP, va_K.moved hW.alike hK, hD⟩, hS.F ht⟩) hS.2.2 dX7_troubleOfNumber_23
  · obtain ⟨hw, h1_0, h1_1⟩ := hw
    subst hw
    have l1k1_a0_7_0 : (0 : Int) ≤ a0_7_0.toInt := ba0_7_0_l
    have u1k1_a0_7_0 : a0_7_0.toInt ≤ (0 : Int) := h1_1
    refine lv_if_ne (tgt := 9) hx hb dX7_troubleOfNumber_4 (by decide) (fun c4 => absurd (by decide +kernel) c4) (fun _ => ?_)
    refine lv_iconst (v := 1) hx hb dX7_troubleOfNumber_7 zk_iconst_1 ?_
    exact W.iret (v := 1) hx hb hr (fun t ht hW => ⟨⟨1, (), rfl, (Or.inr (Or.inl rfl)), by rw [ht]; exact hP, va_K.moved hW.alike hK, hD⟩, hS.F ht⟩) hS.2.2 dX7_troubleOfNumber_8

set_option maxHeartbeats 4000000 in
set_option maxRecDepth 100000 in
theorem c_X7_troubleOfFigureWithin (l : Launch) (dC : Nat → ClassId) (dI : Nat → Nat → Nat) (sz : Nat) (a0 : Nat) (a1 : Int32) (a2 : Int32) (a3 : Int32) (a0g_0 a0g_1 a0g_2 a0g_3 a0g_4 a0g_5 a0g_6 a0g_8 a0g_9 a0g_10 : Value) (a0_7 : Nat) (a0_7_0 : Int32) (a0_7g_1 a0_7g_2 a0_7g_3 a0_7g_4 a0_7g_5 a0_7g_6 a0_7g_7 a0_7g_8 a0_7g_9 a0_7g_10 a0_7g_11 a0_7g_12 a0_7g_13 a0_7g_14 : Value) (ba0_7_0_l : (0 : Int) ≤ a0_7_0.toInt) (ba0_7_0_u : a0_7_0.toInt ≤ (9 : Int)) : zm l yX7_troubleOfFigureWithin wsX7_troubleOfFigureWithin ({ frames := 2, cells := 0, slots := 0, locals := 43 }) [.ref a0, .int a1, .int a2, .int a3] dC dI sz [(a0, .inr (7, [a0g_0, a0g_1, a0g_2, a0g_3, a0g_4, a0g_5, a0g_6, .ref a0_7, a0g_8, a0g_9, a0g_10])), (a0_7, .inr (0, [.int a0_7_0, a0_7g_1, a0_7g_2, a0_7g_3, a0_7g_4, a0_7g_5, a0_7g_6, a0_7g_7, a0_7g_8, a0_7g_9, a0_7g_10, a0_7g_11, a0_7g_12, a0_7g_13, a0_7g_14]))] [] (fun A _ => True) (fun A => va_Qi (fun (r : Int32) (_ : Unit) => (r = 0 ∧ (1 : Int) ≤ a0_7_0.toInt ∧ (0 : Int) ≤ a1.toInt ∧ a1.toInt ≤ (8 : Int) ∧ (0 : Int32).toInt ≤ a2.toInt ∧ a2.toInt ≤ a3.toInt) ∨ r = 1 ∨ r = 2) (fun (_ : Unit) (t : State) => ax_B dC dI A [(a0, .inr (7, [a0g_0, a0g_1, a0g_2, a0g_3, a0g_4, a0g_5, a0g_6, .ref a0_7, a0g_8, a0g_9, a0g_10])), (a0_7, .inr (0, [.int a0_7_0, a0_7g_1, a0_7g_2, a0_7g_3, a0_7g_4, a0_7g_5, a0_7g_6, a0_7g_7, a0_7g_8, a0_7g_9, a0_7g_10, a0_7g_11, a0_7g_12, a0_7g_13, a0_7g_14]))] [] t) A) := by
  refine zh (cc := cX7_troubleOfFigureWithin) (maxL := 4) (ret := (some .int)) zn_RX7 rfl (Nat.le_of_ble_eq_true rfl) (fun p e s m below meth c A ls hx hb hml hr hts (hown : s.vm.findClass RX7 = some m.cls) hlocks hA hS hP hK hD hE (hl : lv_has ls 4 [(0, .ref a0), (1, .int a1), (2, .int a2), (3, .int a3)]) => ?_)
  refine lv_aload_n hx hb dX7_troubleOfFigureWithin_0 rfl (lv_at hl 0 rfl) ?_
  refine lv_iload_n hx hb dX7_troubleOfFigureWithin_1 rfl (lv_at hl 1 rfl) ?_
  refine va_calli (va_runV (As := [.int a1]) (rest := []) ⟨hx, hb, hml, hown, hts⟩ (c_X7_isFigure l dC dI s.heap.size a0 a1 a0g_0 a0g_1 a0g_2 a0g_3 a0g_4 a0g_5 a0g_6 a0g_8 a0g_9 a0g_10 a0_7 a0_7_0 a0_7g_1 a0_7g_2 a0_7g_3 a0_7g_4 a0_7g_5 a0_7g_6 a0_7g_7 a0_7g_8 a0_7g_9 a0_7g_10 a0_7g_11 a0_7g_12 a0_7g_13 a0_7g_14 ba0_7_0_l ba0_7_0_u) (cwV 1 hts gX7_troubleOfFigureWithin_X7_isFigure rfl rfl rfl zd_X7_isFigure ⟨Nat.le_of_ble_eq_true rfl, Nat.le_of_ble_eq_true rfl⟩) ⟨ax_blind (fun _ _ _ _ _ => trivial), zr_7 (zp_K hK) (zp_P2 hP) (q0 := 0) rfl, ax_pre (zp_P2 hP) (zp_K hK) (zp_D2 hD) (fun _ _ => trivial)⟩ rfl rfl hl.1 rfl (lv_room (Nat.le_of_ble_eq_true rfl)) dX7_troubleOfFigureWithin_2 ⟨Nat.le_of_ble_eq_true rfl, Nat.le_of_ble_eq_true rfl⟩) hS (fun q _ h => zp_F2 hD hS hA q h) (zp_F2 hD hS hA) (fun r2 u t H locs ht hvm hw hB hz1 hk1 hS1 => zo2 hB ht hP hD hk1 (zp_F2 hD hS hA) hS1 (fun hP hK1 hD hS => ?_))
  rcases hw with hw | hw
  · obtain ⟨hw, h2_0, h2_1, h2_2, h2_3⟩ := hw
    subst hw
    have l2k0_a1 : (0 : Int) ≤ a1.toInt := h2_0
    have u2k0_a1 : a1.toInt ≤ (8 : Int) := h2_1
    have l2k0_a0_7_0 : (1 : Int) ≤ a0_7_0.toInt := h2_2
    have u2k0_a0_7_0 : a0_7_0.toInt ≤ (9 : Int) := ba0_7_0_u
    refine lv_if_ne (tgt := 10) hx hb dX7_troubleOfFigureWithin_5 (by decide) (fun _ => ?_) (fun c5 => absurd c5 (by decide +kernel))
    refine lv_iload_n hx hb dX7_troubleOfFigureWithin_10 rfl (lv_at hl 2 rfl) ?_
    refine lv_iconst (v := 0) hx hb dX7_troubleOfFigureWithin_11 zk_iconst_0 ?_
    refine lv_iload_n hx hb dX7_troubleOfFigureWithin_12 rfl (lv_at hl 3 rfl) ?_
    refine va_calli (va_runS (As := [.int a2, .int 0, .int a3]) (rest := []) ⟨hx, hb, hml, hown, hts⟩ (c_X7_within l dC dI H.size a2 0 a3 ) (va_cwS 3 hts gX7_troubleOfFigureWithin_X7_within rfl rfl rfl zd_X7_within.2 ⟨Nat.le_of_ble_eq_true rfl, Nat.le_of_ble_eq_true rfl⟩) ⟨ax_blind (fun _ _ _ _ _ => trivial), ax_pre (zp_P0 hP) (zp_K hK) (zp_D0 hD) (fun _ _ => trivial)⟩ rfl rfl hl.1 rfl (lv_room (Nat.le_of_ble_eq_true rfl)) dX7_troubleOfFigureWithin_13 ⟨Nat.le_of_ble_eq_true rfl, Nat.le_of_ble_eq_true rfl⟩) hS (fun q _ h => zp_F0 hD hS hA q h) (zp_F0 hD hS hA) (fun r13 u t H locs ht hvm hw hB hz1 hk1 hS1 => zo0 hB ht hP hD hk1 (zp_F0 hD hS hA) hS1 (fun hP hK1 hD hS => ?_))
    rcases hw with hw | hw
    · obtain ⟨hw, h13⟩ := hw
      subst hw
      have l13k0_a2 : (0 : Int) ≤ a2.toInt := Int.le_trans zq5 h13.1
      have l13k0_a3 : (0 : Int) ≤ a3.toInt := Int.le_trans zq5 (Int.le_trans h13.1 h13.2)
      refine lv_if_eq (tgt := 23) hx hb dX7_troubleOfFigureWithin_16 (by decide) (fun c16 => absurd c16 (by decide +kernel)) (fun _ => ?_)
      refine lv_iconst (v := 0) hx hb dX7_troubleOfFigureWithin_19 zk_iconst_0 ?_
      refine lv_goto (tgt := 24) hx hb dX7_troubleOfFigureWithin_20 (by decide) ?_
      exact W.iret (v := 0) hx hb hr (fun t ht hW => ⟨⟨0, (), rfl, (Or.inl ⟨rfl, l2k0_a0_7_0, l2k0_a1, u2k0_a1, h13⟩), by rw [ht]; exact hP, va_K.moved hW.alike hK, hD⟩, hS.F ht⟩) hS.2.2 dX7_troubleOfFigureWithin_24
    · obtain ⟨hw, h13⟩ := hw
      subst hw
      refine lv_if_eq (tgt := 23) hx hb dX7_troubleOfFigureWithin_16 (by decide) (fun _ => ?_) (fun c16 => absurd (by decide +kernel) c16)
      refine lv_iconst (v := 2) hx hb dX7_troubleOfFigureWithin_23 zk_iconst_2 ?_
      exact W.iret (v := 2) hx hb hr (fun t ht hW => ⟨⟨2, (), rfl, (Or.inr (Or.inr rfl)), by rw [ht]; exact hP, va_K.moved hW.alike hK, hD⟩, hS.F ht⟩) hS.2.2 dX7_troubleOfFigureWithin_24
  · subst hw
    refine lv_if_ne (tgt := 10) hx hb dX7_troubleOfFigureWithin_5 (by decide) (fun c5 => absurd (by decide +kernel) c5) (fun _ => ?_)
    refine lv_iconst (v := 1) hx hb dX7_troubleOfFigureWithin_8 zk_iconst_1 ?_
    exact W.iret (v := 1) hx hb hr (fun t ht hW => ⟨⟨1, (), rfl, (Or.inr (Or.inl rfl)), by rw [ht]; exact hP, va_K.moved hW.alike hK, hD⟩, hS.F ht⟩) hS.2.2 dX7_troubleOfFigureWithin_9

set_option maxHeartbeats 4000000 in
set_option maxRecDepth 100000 in
theorem c_X7_turnFromNow (l : Launch) (dC : Nat → ClassId) (dI : Nat → Nat → Nat) (sz : Nat) (a0 : Nat) (a1 : Int32) (a0g_0 a0g_2 a0g_3 a0g_4 a0g_5 a0g_6 a0g_8 a0g_9 a0g_10 : Value) (a0_1 : Nat) (a0_7 : Nat) (a0_7_0 : Int32) (a0_7g_1 a0_7g_2 a0_7g_3 a0_7g_4 a0_7g_7 a0_7g_8 a0_7g_9 a0_7g_10 a0_7g_11 a0_7g_12 a0_7g_13 a0_7g_14 : Value) (a0_7_5 : Int32) (a0_7_6 : Int32) (a0_1g_0 a0_1g_2 a0_1g_3 a0_1g_4 a0_1g_5 a0_1g_6 : Value) (a0_1_1 : Int32) (ba0_7_0_l : (0 : Int) ≤ a0_7_0.toInt) (ba0_7_0_u : a0_7_0.toInt ≤ (9 : Int)) (ba0_7_5_l : (0 : Int) ≤ a0_7_5.toInt) (ba0_7_5_u : a0_7_5.toInt ≤ (8 : Int)) (ba0_7_6_l : (0 : Int) ≤ a0_7_6.toInt) (ba0_7_6_u : a0_7_6.toInt ≤ (8 : Int)) (ba0_1_1_l : (0 : Int) ≤ a0_1_1.toInt) (ba0_1_1_u : a0_1_1.toInt ≤ (8 : Int)) : zm l yX7_turnFromNow wsX7_turnFromNow ({ frames := 1, cells := 0, slots := 0, locals := 28 }) [.ref a0, .int a1] dC dI sz [(a0, .inr (7, [a0g_0, .ref a0_1, a0g_2, a0g_3, a0g_4, a0g_5, a0g_6, .ref a0_7, a0g_8, a0g_9, a0g_10])), (a0_7, .inr (0, [.int a0_7_0, a0_7g_1, a0_7g_2, a0_7g_3, a0_7g_4, .int a0_7_5, .int a0_7_6, a0_7g_7, a0_7g_8, a0_7g_9, a0_7g_10, a0_7g_11, a0_7g_12, a0_7g_13, a0_7g_14])), (a0_1, .inr (5, [a0_1g_0, .int a0_1_1, a0_1g_2, a0_1g_3, a0_1g_4, a0_1g_5, a0_1g_6]))] [] (fun A _ => True) (fun A => va_Qi (fun (r : Int32) (_ : Unit) => (0 : Int) ≤ r.toInt ∧ r.toInt ≤ (8 : Int)) (fun (_ : Unit) (t : State) => ax_B dC dI A [(a0, .inr (7, [a0g_0, .ref a0_1, a0g_2, a0g_3, a0g_4, a0g_5, a0g_6, .ref a0_7, a0g_8, a0g_9, a0g_10])), (a0_7, .inr (0, [.int a0_7_0, a0_7g_1, a0_7g_2, a0_7g_3, a0_7g_4, .int a0_7_5, .int a0_7_6, a0_7g_7, a0_7g_8, a0_7g_9, a0_7g_10, a0_7g_11, a0_7g_12, a0_7g_13, a0_7g_14])), (a0_1, .inr (5, [a0_1g_0, .int a0_1_1, a0_1g_2, a0_1g_3, a0_1g_4, a0_1g_5, a0_1g_6]))] [] t) A) := by
  refine zh (cc := cX7_turnFromNow) (maxL := 2) (ret := (some .int)) zn_RX7 rfl (Nat.le_of_ble_eq_true rfl) (fun p e s m below meth c A ls hx hb hml hr hts (hown : s.vm.findClass RX7 = some m.cls) hlocks hA hS hP hK hD hE (hl : lv_has ls 2 [(0, .ref a0), (1, .int a1)]) => ?_)
  refine lv_aload_n hx hb dX7_turnFromNow_0 rfl (lv_at hl 0 rfl) ?_
  refine va_get (D := (dC, dI)) (ci := 7) (v := .ref a0_7) (C := RX7) (T := TX7) (N := 11) hx hb hts zi_X7_turnFromNow_7 hown hK hP 0 rfl rfl 7 (by decide) (hts (.fieldLink RX7 57 "WaxTurns" "hall" "LWaxTurns$Hall;") (List.mem_cons_of_mem _ (List.mem_append_left _ (List.mem_append_left _ (List.mem_append_left _ (List.mem_of_getElem? (i := 0) rfl)))))) (fun _ h9 => h9) rfl dX7_turnFromNow_1 ?_
  refine va_get (D := (dC, dI)) (ci := 0) (v := .int a0_7_0) (C := RX0) (T := TX0) (N := 15) hx hb hts zi_X7_turnFromNow_0 hown hK hP 1 rfl rfl 0 (by decide) (hts (.fieldLink RX7 110 "WaxTurns$Hall" "figures" "I") (List.mem_cons_of_mem _ (List.mem_append_left _ (List.mem_append_left _ (List.mem_append_left _ (List.mem_of_getElem? (i := 1) rfl)))))) (fun _ h9 => h9) rfl dX7_turnFromNow_4 ?_
  refine lv_aload_n hx hb dX7_turnFromNow_7 rfl (lv_at hl 0 rfl) ?_
  refine va_get (D := (dC, dI)) (ci := 7) (v := .ref a0_7) (C := RX7) (T := TX7) (N := 11) hx hb hts zi_X7_turnFromNow_7 hown hK hP 0 rfl rfl 7 (by decide) (hts (.fieldLink RX7 57 "WaxTurns" "hall" "LWaxTurns$Hall;") (List.mem_cons_of_mem _ (List.mem_append_left _ (List.mem_append_left _ (List.mem_append_left _ (List.mem_of_getElem? (i := 0) rfl)))))) (fun _ h9 => h9) rfl dX7_turnFromNow_8 ?_
  refine va_get (D := (dC, dI)) (ci := 0) (v := .int a0_7_5) (C := RX0) (T := TX0) (N := 15) hx hb hts zi_X7_turnFromNow_0 hown hK hP 1 rfl rfl 5 (by decide) (hts (.fieldLink RX7 284 "WaxTurns$Hall" "times" "I") (List.mem_cons_of_mem _ (List.mem_append_left _ (List.mem_append_left _ (List.mem_append_left _ (List.mem_of_getElem? (i := 2) rfl)))))) (fun _ h9 => h9) rfl dX7_turnFromNow_11 ?_
  refine lv_aload_n hx hb dX7_turnFromNow_14 rfl (lv_at hl 0 rfl) ?_
  refine va_get (D := (dC, dI)) (ci := 7) (v := .ref a0_7) (C := RX7) (T := TX7) (N := 11) hx hb hts zi_X7_turnFromNow_7 hown hK hP 0 rfl rfl 7 (by decide) (hts (.fieldLink RX7 57 "WaxTurns" "hall" "LWaxTurns$Hall;") (List.mem_cons_of_mem _ (List.mem_append_left _ (List.mem_append_left _ (List.mem_append_left _ (List.mem_of_getElem? (i := 0) rfl)))))) (fun _ h9 => h9) rfl dX7_turnFromNow_15 ?_
  refine va_get (D := (dC, dI)) (ci := 0) (v := .int a0_7_6) (C := RX0) (T := TX0) (N := 15) hx hb hts zi_X7_turnFromNow_0 hown hK hP 1 rfl rfl 6 (by decide) (hts (.fieldLink RX7 287 "WaxTurns$Hall" "plus" "I") (List.mem_cons_of_mem _ (List.mem_append_left _ (List.mem_append_left _ (List.mem_append_left _ (List.mem_of_getElem? (i := 3) rfl)))))) (fun _ h9 => h9) rfl dX7_turnFromNow_18 ?_
  refine lv_aload_n hx hb dX7_turnFromNow_21 rfl (lv_at hl 0 rfl) ?_
  refine va_get (D := (dC, dI)) (ci := 7) (v := .ref a0_1) (C := RX7) (T := TX7) (N := 11) hx hb hts zi_X7_turnFromNow_7 hown hK hP 0 rfl rfl 1 (by decide) (hts (.fieldLink RX7 19 "WaxTurns" "now" "LWaxTurns$Scene;") (List.mem_cons_of_mem _ (List.mem_append_left _ (List.mem_append_left _ (List.mem_append_left _ (List.mem_of_getElem? (i := 4) rfl)))))) (fun _ h9 => h9) rfl dX7_turnFromNow_22 ?_
  refine va_get (D := (dC, dI)) (ci := 5) (v := .int a0_1_1) (C := RX5) (T := TX5) (N := 7) hx hb hts zi_X7_turnFromNow_5 hown hK hP 2 rfl rfl 1 (by decide) (hts (.fieldLink RX7 158 "WaxTurns$Scene" "turn" "I") (List.mem_cons_of_mem _ (List.mem_append_left _ (List.mem_append_left _ (List.mem_append_left _ (List.mem_of_getElem? (i := 5) rfl)))))) (fun _ h9 => h9) rfl dX7_turnFromNow_25 ?_
  refine lv_iload_n hx hb dX7_turnFromNow_28 rfl (lv_at hl 1 rfl) ?_
  refine va_calli (va_runS (As := [.int a0_7_0, .int a0_7_5, .int a0_7_6, .int a0_1_1, .int a1]) (rest := []) ⟨hx, hb, hml, hown, hts⟩ (c_X7_laterTurn8 l dC dI s.heap.size a0_7_0 a0_7_5 a0_7_6 a0_1_1 a1 ba0_7_0_l ba0_7_0_u ba0_7_5_l ba0_7_5_u ba0_7_6_l ba0_7_6_u ba0_1_1_l ba0_1_1_u) (va_cwS 5 hts gX7_turnFromNow_X7_laterTurn rfl rfl rfl zd_X7_laterTurn.2 ⟨Nat.le_of_ble_eq_true rfl, Nat.le_of_ble_eq_true rfl⟩) ⟨ax_blind (fun _ _ _ _ _ => trivial), ax_pre (zp_P0 hP) (zp_K hK) (zp_D0 hD) (fun _ _ => trivial)⟩ rfl rfl hl.1 rfl (lv_room (Nat.le_of_ble_eq_true rfl)) dX7_turnFromNow_29 ⟨Nat.le_of_ble_eq_true rfl, Nat.le_of_ble_eq_true rfl⟩) hS (fun q _ h => zp_F0 hD hS hA q h) (zp_F0 hD hS hA) (fun r29 u t H locs ht hvm hw hB hz1 hk1 hS1 => zo0 hB ht hP hD hk1 (zp_F0 hD hS hA) hS1 (fun hP hK1 hD hS => ?_))
  have hw : (0 : Int) ≤ r29.toInt ∧ r29.toInt ≤ (8 : Int) := hw
  obtain ⟨h29_0, h29_1⟩ := hw
  exact W.iret (v := r29) hx hb hr (fun t ht hW => ⟨⟨r29, (), rfl, ⟨h29_0, h29_1⟩, by rw [ht]; exact hP, va_K.moved hW.alike hK, hD⟩, hS.F ht⟩) hS.2.2 dX7_turnFromNow_32

set_option maxHeartbeats 4000000 in
set_option maxRecDepth 100000 in
theorem c_X7_roundLength (l : Launch) (dC : Nat → ClassId) (dI : Nat → Nat → Nat) (sz : Nat) (a0 : Nat) (a0g_0 a0g_2 a0g_3 a0g_4 a0g_5 a0g_6 a0g_8 a0g_9 a0g_10 : Value) (a0_1 : Nat) (a0_7 : Nat) (a0_7_0 : Int32) (a0_7g_1 a0_7g_2 a0_7g_3 a0_7g_4 a0_7g_7 a0_7g_8 a0_7g_9 a0_7g_10 a0_7g_11 a0_7g_12 a0_7g_13 a0_7g_14 : Value) (a0_7_5 : Int32) (a0_7_6 : Int32) (a0_1g_0 a0_1g_2 a0_1g_3 a0_1g_4 a0_1g_5 a0_1g_6 : Value) (a0_1_1 : Int32) (ba0_7_0_l : (0 : Int) ≤ a0_7_0.toInt) (ba0_7_0_u : a0_7_0.toInt ≤ (9 : Int)) (ba0_7_5_l : (0 : Int) ≤ a0_7_5.toInt) (ba0_7_5_u : a0_7_5.toInt ≤ (8 : Int)) (ba0_7_6_l : (0 : Int) ≤ a0_7_6.toInt) (ba0_7_6_u : a0_7_6.toInt ≤ (8 : Int)) (ba0_1_1_l : (0 : Int) ≤ a0_1_1.toInt) (ba0_1_1_u : a0_1_1.toInt ≤ (8 : Int)) : zm l yX7_roundLength wsX7_roundLength ({ frames := 2, cells := 0, slots := 0, locals := 49 }) [.ref a0] dC dI sz [(a0, .inr (7, [a0g_0, .ref a0_1, a0g_2, a0g_3, a0g_4, a0g_5, a0g_6, .ref a0_7, a0g_8, a0g_9, a0g_10])), (a0_7, .inr (0, [.int a0_7_0, a0_7g_1, a0_7g_2, a0_7g_3, a0_7g_4, .int a0_7_5, .int a0_7_6, a0_7g_7, a0_7g_8, a0_7g_9, a0_7g_10, a0_7g_11, a0_7g_12, a0_7g_13, a0_7g_14])), (a0_1, .inr (5, [a0_1g_0, .int a0_1_1, a0_1g_2, a0_1g_3, a0_1g_4, a0_1g_5, a0_1g_6]))] [] (fun A _ => True) (fun A => va_Qi (fun (r : Int32) (_ : Unit) => (1 : Int) ≤ r.toInt ∧ r.toInt ≤ (9 : Int)) (fun (_ : Unit) (t : State) => ax_B dC dI A [(a0, .inr (7, [a0g_0, .ref a0_1, a0g_2, a0g_3, a0g_4, a0g_5, a0g_6, .ref a0_7, a0g_8, a0g_9, a0g_10])), (a0_7, .inr (0, [.int a0_7_0, a0_7g_1, a0_7g_2, a0_7g_3, a0_7g_4, .int a0_7_5, .int a0_7_6, a0_7g_7, a0_7g_8, a0_7g_9, a0_7g_10, a0_7g_11, a0_7g_12, a0_7g_13, a0_7g_14])), (a0_1, .inr (5, [a0_1g_0, .int a0_1_1, a0_1g_2, a0_1g_3, a0_1g_4, a0_1g_5, a0_1g_6]))] [] t) A) := by
  refine zh (cc := cX7_roundLength) (maxL := 4) (ret := (some .int)) zn_RX7 rfl (Nat.le_of_ble_eq_true rfl) (fun p e s m below meth c A ls hx hb hml hr hts (hown : s.vm.findClass RX7 = some m.cls) hlocks hA hS hP hK hD hE (hl : lv_has ls 4 [(0, .ref a0)]) => ?_)
  refine ai_open (fun K hK0 => ?_)
  refine (hK0 _ _ _).mpr ?_
  refine lv_aload_n hx hb dX7_roundLength_0 rfl (lv_at hl 0 rfl) ?_
  refine lv_aload_n hx hb dX7_roundLength_1 rfl (lv_at hl 0 rfl) ?_
  refine va_get (D := (dC, dI)) (ci := 7) (v := .ref a0_7) (C := RX7) (T := TX7) (N := 11) hx hb hts zi_X7_roundLength_7 hown hK hP 0 rfl rfl 7 (by decide) (hts (.fieldLink RX7 57 "WaxTurns" "hall" "LWaxTurns$Hall;") (List.mem_cons_of_mem _ (List.mem_append_left _ (List.mem_append_left _ (List.mem_append_left _ (List.mem_of_getElem? (i := 0) rfl)))))) (fun _ h9 => h9) rfl dX7_roundLength_2 ?_
  refine va_get (D := (dC, dI)) (ci := 0) (v := .int a0_7_0) (C := RX0) (T := TX0) (N := 15) hx hb hts zi_X7_roundLength_0 hown hK hP 1 rfl rfl 0 (by decide) (hts (.fieldLink RX7 110 "WaxTurns$Hall" "figures" "I") (List.mem_cons_of_mem _ (List.mem_append_left _ (List.mem_append_left _ (List.mem_append_left _ (List.mem_of_getElem? (i := 1) rfl)))))) (fun _ h9 => h9) rfl dX7_roundLength_5 ?_
  refine va_calli (va_runV (As := [.int a0_7_0]) (rest := []) ⟨hx, hb, hml, hown, hts⟩ (c_X7_turnFromNow l dC dI s.heap.size a0 a0_7_0 a0g_0 a0g_2 a0g_3 a0g_4 a0g_5 a0g_6 a0g_8 a0g_9 a0g_10 a0_1 a0_7 a0_7_0 a0_7g_1 a0_7g_2 a0_7g_3 a0_7g_4 a0_7g_7 a0_7g_8 a0_7g_9 a0_7g_10 a0_7g_11 a0_7g_12 a0_7g_13 a0_7g_14 a0_7_5 a0_7_6 a0_1g_0 a0_1g_2 a0_1g_3 a0_1g_4 a0_1g_5 a0_1g_6 a0_1_1 ba0_7_0_l ba0_7_0_u ba0_7_5_l ba0_7_5_u ba0_7_6_l ba0_7_6_u ba0_1_1_l ba0_1_1_u) (cwV 1 hts gX7_roundLength_X7_turnFromNow rfl rfl rfl zd_X7_turnFromNow ⟨Nat.le_of_ble_eq_true rfl, Nat.le_of_ble_eq_true rfl⟩) ⟨ax_blind (fun _ _ _ _ _ => trivial), zr_7 (zp_K hK) (zp_P3 hP) (q0 := 0) rfl, ax_pre (zp_P3 hP) (zp_K hK) (zp_D3 hD) (fun _ _ => trivial)⟩ rfl rfl hl.1 rfl (lv_room (Nat.le_of_ble_eq_true rfl)) dX7_roundLength_8 ⟨Nat.le_of_ble_eq_true rfl, Nat.le_of_ble_eq_true rfl⟩) hS (fun q _ h => zp_F3 hD hS hA q h) (zp_F3 hD hS hA) (fun r8 u t H locs ht hvm hw hB hz1 hk1 hS1 => zo3 hB ht hP hD hk1 (zp_F3 hD hS hA) hS1 (fun hP hK1 hD hS => ?_))
  have hw : (0 : Int) ≤ r8.toInt ∧ r8.toInt ≤ (8 : Int) := hw
  obtain ⟨h8_0, h8_1⟩ := hw
  refine lv_istore_n (lv' := [(1, .int r8), (0, .ref a0)]) hx hb dX7_roundLength_11 rfl hl (by decide) rfl (fun ls hl => ?_)
  refine lv_aload_n hx hb dX7_roundLength_12 rfl (lv_at hl 1 rfl) ?_
  refine va_get (D := (dC, dI)) (ci := 7) (v := .ref a0_7) (C := RX7) (T := TX7) (N := 11) hx hb hts zi_X7_roundLength_7 hown hK hP 0 rfl rfl 7 (by decide) (hts (.fieldLink RX7 57 "WaxTurns" "hall" "LWaxTurns$Hall;") (List.mem_cons_of_mem _ (List.mem_append_left _ (List.mem_append_left _ (List.mem_append_left _ (List.mem_of_getElem? (i := 0) rfl)))))) (fun _ h9 => h9) rfl dX7_roundLength_13 ?_
  refine lv_iload_n hx hb dX7_roundLength_16 rfl (lv_at hl 0 rfl) ?_
  refine zc_cutc (wc := [(a0_7, .inr (0, [.int a0_7_0, a0_7g_1, a0_7g_2, a0_7g_3, a0_7g_4, .int a0_7_5, .int a0_7_6, a0_7g_7, a0_7g_8, a0_7g_9, a0_7g_10, a0_7g_11, a0_7g_12, a0_7g_13, a0_7g_14]))]) hP hD hS hA [1] (by decide +kernel) rfl (fun hPc hDc hFc hCc => ?_)
  have hKc := zp_K hK
  refine va_calli (va_runV (As := [.int r8]) (rest := []) ⟨hx, hb, hml, hown, hts⟩ (c_X0_next l dC dI H.size a0_7 r8 a0_7_0 a0_7g_1 a0_7g_2 a0_7g_3 a0_7g_4 a0_7g_7 a0_7g_8 a0_7g_9 a0_7g_10 a0_7g_11 a0_7g_12 a0_7g_13 a0_7g_14 a0_7_5 a0_7_6 h8_0 h8_1 ba0_7_0_l ba0_7_0_u ba0_7_5_l ba0_7_5_u ba0_7_6_l ba0_7_6_u) (cwV 1 hts gX7_roundLength_X0_next rfl rfl rfl zd_X0_next ⟨Nat.le_of_ble_eq_true rfl, Nat.le_of_ble_eq_true rfl⟩) ⟨ax_blind (fun _ _ _ _ _ => trivial), zr_0 hKc hPc (q0 := 0) rfl, ax_pre hPc hKc hDc (fun _ _ => trivial)⟩ rfl rfl hl.1 rfl (lv_room (Nat.le_of_ble_eq_true rfl)) dX7_roundLength_17 ⟨Nat.le_of_ble_eq_true rfl, Nat.le_of_ble_eq_true rfl⟩) hS (fun q _ h => hFc q h) hFc (fun r17 u t H locs ht hvm hw hB hz1 hk1 hS1 => zo hB ht hS1 (fun hP1 hK1 hD1 hS => ?_))
  refine zc_backc (w := [(a0, .inr (7, [a0g_0, .ref a0_1, a0g_2, a0g_3, a0g_4, a0g_5, a0g_6, .ref a0_7, a0g_8, a0g_9, a0g_10])), (a0_7, .inr (0, [.int a0_7_0, a0_7g_1, a0_7g_2, a0_7g_3, a0_7g_4, .int a0_7_5, .int a0_7_6, a0_7g_7, a0_7g_8, a0_7g_9, a0_7g_10, a0_7g_11, a0_7g_12, a0_7g_13, a0_7g_14])), (a0_1, .inr (5, [a0_1g_0, .int a0_1_1, a0_1g_2, a0_1g_3, a0_1g_4, a0_1g_5, a0_1g_6]))]) hP hD hCc hk1 hFc hP1 hD1 [.inl 0, .inr 0, .inl 2] (by decide +kernel) rfl (fun hP hD => ?_)
  have hw : (0 : Int) ≤ r17.toInt ∧ r17.toInt ≤ (8 : Int) := hw
  obtain ⟨h17_0, h17_1⟩ := hw
  refine lv_istore_n (lv' := [(2, .int r17), (1, .int r8), (0, .ref a0)]) hx hb dX7_roundLength_20 rfl hl (by decide) rfl (fun ls hl => ?_)
  refine lv_iconst (v := 1) hx hb dX7_roundLength_21 zk_iconst_1 ?_
  refine lv_istore_n (lv' := [(3, .int 1), (2, .int r17), (1, .int r8), (0, .ref a0)]) hx hb dX7_roundLength_22 rfl hl (by decide) rfl (fun ls hl => ?_)
  have J23 : ∀ (n : Nat) (j23l3 : Int32) (j23l2 : Int32) (H : Heap) (locs : List Loc) (ls : Array Slot), (10 : Int) - j23l3.toInt ≤ (n : Int) → (1 : Int) ≤ j23l3.toInt → j23l3.toInt ≤ (9 : Int) → (0 : Int) ≤ j23l2.toInt → j23l2.toInt ≤ (8 : Int) → va_P (dC, dI) vwCl [(a0, .inr (7, [a0g_0, .ref a0_1, a0g_2, a0g_3, a0g_4, a0g_5, a0g_6, .ref a0_7, a0g_8, a0g_9, a0g_10])), (a0_7, .inr (0, [.int a0_7_0, a0_7g_1, a0_7g_2, a0_7g_3, a0_7g_4, .int a0_7_5, .int a0_7_6, a0_7g_7, a0_7g_8, a0_7g_9, a0_7g_10, a0_7g_11, a0_7g_12, a0_7g_13, a0_7g_14])), (a0_1, .inr (5, [a0_1g_0, .int a0_1_1, a0_1g_2, a0_1g_3, a0_1g_4, a0_1g_5, a0_1g_6]))] H → va_D A [(a0, .inr (7, [a0g_0, .ref a0_1, a0g_2, a0g_3, a0g_4, a0g_5, a0g_6, .ref a0_7, a0g_8, a0g_9, a0g_10])), (a0_7, .inr (0, [.int a0_7_0, a0_7g_1, a0_7g_2, a0_7g_3, a0_7g_4, .int a0_7_5, .int a0_7_6, a0_7g_7, a0_7g_8, a0_7g_9, a0_7g_10, a0_7g_11, a0_7g_12, a0_7g_13, a0_7g_14])), (a0_1, .inr (5, [a0_1g_0, .int a0_1_1, a0_1g_2, a0_1g_3, a0_1g_4, a0_1g_5, a0_1g_6]))] → va_S A s.heap H locs → lv_has ls 4 [(0, .ref a0), (1, .int r8), (2, .int j23l2), (3, .int j23l3)] → K H locs (F0 m 23 ls []) := by
    intro n
    induction n with
    | zero =>
      intro j23l3 j23l2 H locs ls hm bj23l3_l bj23l3_u bj23l2_l bj23l2_u hP hD hS hl
      first | exact zg_0 hm bj23l3_u (by decide) | (have h8 := ai_min j23l3; have h9 := ai_max j23l3; exact absurd hm (by omega))
    | succ n ih23 =>
      intro j23l3 j23l2 H locs ls hm bj23l3_l bj23l3_u bj23l2_l bj23l2_u hP hD hS hl
      refine (hK0 _ _ _).mpr ?_
      have hm23 := hm
      refine lv_iload_n hx hb dX7_roundLength_23 rfl (lv_at hl 3 rfl) ?_
      refine lv_aload_n hx hb dX7_roundLength_24 rfl (lv_at hl 0 rfl) ?_
      refine va_get (D := (dC, dI)) (ci := 7) (v := .ref a0_7) (C := RX7) (T := TX7) (N := 11) hx hb hts zi_X7_roundLength_7 hown hK hP 0 rfl rfl 7 (by decide) (hts (.fieldLink RX7 57 "WaxTurns" "hall" "LWaxTurns$Hall;") (List.mem_cons_of_mem _ (List.mem_append_left _ (List.mem_append_left _ (List.mem_append_left _ (List.mem_of_getElem? (i := 0) rfl)))))) (fun _ h9 => h9) rfl dX7_roundLength_25 ?_
      refine va_get (D := (dC, dI)) (ci := 0) (v := .int a0_7_0) (C := RX0) (T := TX0) (N := 15) hx hb hts zi_X7_roundLength_0 hown hK hP 1 rfl rfl 0 (by decide) (hts (.fieldLink RX7 110 "WaxTurns$Hall" "figures" "I") (List.mem_cons_of_mem _ (List.mem_append_left _ (List.mem_append_left _ (List.mem_append_left _ (List.mem_of_getElem? (i := 1) rfl)))))) (fun _ h9 => h9) rfl dX7_roundLength_28 ?_
      refine lv_icmp_ge (tgt := 54) hx hb dX7_roundLength_31 (by decide) (fun c31 => ?_) (fun c31 => ?_)
      · have gc31 := ai_le c31
        have u31t_a0_7_0 : a0_7_0.toInt ≤ (9 : Int) := ba0_7_0_u
        have l31t_j23l3 : (1 : Int) ≤ j23l3.toInt := bj23l3_l
        refine lv_iload_n hx hb dX7_roundLength_54 rfl (lv_at hl 3 rfl) ?_
        exact W.iret (v := j23l3) hx hb hr (fun t ht hW => ⟨⟨j23l3, (), rfl, ⟨l31t_j23l3, bj23l3_u⟩, by rw [ht]; exact hP, va_K.moved hW.alike hK, hD⟩, hS.F ht⟩) hS.2.2 dX7_roundLength_55
      · have gc31 := ai_nle c31
        have u31f_j23l3 : j23l3.toInt ≤ (8 : Int) := ai_lthi gc31 ba0_7_0_u
        have l31f_a0_7_0 : (2 : Int) ≤ a0_7_0.toInt := ai_ltlo gc31 bj23l3_l
        refine lv_iload_n hx hb dX7_roundLength_34 rfl (lv_at hl 2 rfl) ?_
        refine lv_iload_n hx hb dX7_roundLength_35 rfl (lv_at hl 1 rfl) ?_
        refine lv_icmp_eq (tgt := 54) hx hb dX7_roundLength_36 (by decide) (fun c36 => ?_) (fun c36 => ?_)
        · have gc36 := ai_eq c36
          have u36t_j23l2 : j23l2.toInt ≤ (8 : Int) := bj23l2_u
          have l36t_j23l2 : (0 : Int) ≤ j23l2.toInt := bj23l2_l
          have u36t_r8 : r8.toInt ≤ (8 : Int) := h8_1
          have l36t_r8 : (0 : Int) ≤ r8.toInt := h8_0
          refine lv_iload_n hx hb dX7_roundLength_54 rfl (lv_at hl 3 rfl) ?_
          exact W.iret (v := j23l3) hx hb hr (fun t ht hW => ⟨⟨j23l3, (), rfl, ⟨bj23l3_l, (Int.le_trans u31f_j23l3 zq22)⟩, by rw [ht]; exact hP, va_K.moved hW.alike hK, hD⟩, hS.F ht⟩) hS.2.2 dX7_roundLength_55
        · have gc36 := ai_ne c36
          refine lv_aload_n hx hb dX7_roundLength_39 rfl (lv_at hl 0 rfl) ?_
          refine va_get (D := (dC, dI)) (ci := 7) (v := .ref a0_7) (C := RX7) (T := TX7) (N := 11) hx hb hts zi_X7_roundLength_7 hown hK hP 0 rfl rfl 7 (by decide) (hts (.fieldLink RX7 57 "WaxTurns" "hall" "LWaxTurns$Hall;") (List.mem_cons_of_mem _ (List.mem_append_left _ (List.mem_append_left _ (List.mem_append_left _ (List.mem_of_getElem? (i := 0) rfl)))))) (fun _ h9 => h9) rfl dX7_roundLength_40 ?_
          refine lv_iload_n hx hb dX7_roundLength_43 rfl (lv_at hl 2 rfl) ?_
          refine zc_cutc (wc := [(a0_7, .inr (0, [.int a0_7_0, a0_7g_1, a0_7g_2, a0_7g_3, a0_7g_4, .int a0_7_5, .int a0_7_6, a0_7g_7, a0_7g_8, a0_7g_9, a0_7g_10, a0_7g_11, a0_7g_12, a0_7g_13, a0_7g_14]))]) hP hD hS hA [1] (by decide +kernel) rfl (fun hPc hDc hFc hCc => ?_)
          have hKc := zp_K hK
          refine va_calli (va_runV (As := [.int j23l2]) (rest := []) ⟨hx, hb, hml, hown, hts⟩ (c_X0_next l dC dI H.size a0_7 j23l2 a0_7_0 a0_7g_1 a0_7g_2 a0_7g_3 a0_7g_4 a0_7g_7 a0_7g_8 a0_7g_9 a0_7g_10 a0_7g_11 a0_7g_12 a0_7g_13 a0_7g_14 a0_7_5 a0_7_6 bj23l2_l bj23l2_u (Int.le_trans zq50 l31f_a0_7_0) ba0_7_0_u ba0_7_5_l ba0_7_5_u ba0_7_6_l ba0_7_6_u) (cwV 1 hts gX7_roundLength_X0_next rfl rfl rfl zd_X0_next ⟨Nat.le_of_ble_eq_true rfl, Nat.le_of_ble_eq_true rfl⟩) ⟨ax_blind (fun _ _ _ _ _ => trivial), zr_0 hKc hPc (q0 := 0) rfl, ax_pre hPc hKc hDc (fun _ _ => trivial)⟩ rfl rfl hl.1 rfl (lv_room (Nat.le_of_ble_eq_true rfl)) dX7_roundLength_44 ⟨Nat.le_of_ble_eq_true rfl, Nat.le_of_ble_eq_true rfl⟩) hS (fun q _ h => hFc q h) hFc (fun r44 u t H locs ht hvm hw hB hz1 hk1 hS1 => zo hB ht hS1 (fun hP1 hK1 hD1 hS => ?_))
          refine zc_backc (w := [(a0, .inr (7, [a0g_0, .ref a0_1, a0g_2, a0g_3, a0g_4, a0g_5, a0g_6, .ref a0_7, a0g_8, a0g_9, a0g_10])), (a0_7, .inr (0, [.int a0_7_0, a0_7g_1, a0_7g_2, a0_7g_3, a0_7g_4, .int a0_7_5, .int a0_7_6, a0_7g_7, a0_7g_8, a0_7g_9, a0_7g_10, a0_7g_11, a0_7g_12, a0_7g_13, a0_7g_14])), (a0_1, .inr (5, [a0_1g_0, .int a0_1_1, a0_1g_2, a0_1g_3, a0_1g_4, a0_1g_5, a0_1g_6]))]) hP hD hCc hk1 hFc hP1 hD1 [.inl 0, .inr 0, .inl 2] (by decide +kernel) rfl (fun hP hD => ?_)
          have hw : (0 : Int) ≤ r44.toInt ∧ r44.toInt ≤ (8 : Int) := hw
          obtain ⟨h44_0, h44_1⟩ := hw
          refine lv_istore_n (lv' := [(2, .int r44), (0, .ref a0), (1, .int r8), (3, .int j23l3)]) hx hb dX7_roundLength_47 rfl hl (by decide) rfl (fun ls hl => ?_)
          obtain ⟨x48, ex48⟩ : ∃ y : Int32, y = j23l3 + Int32.ofInt 1 := ⟨_, rfl⟩
          have qx48 : x48.toInt = j23l3.toInt + 1 := ai_inc ex48 (by decide) (by decide) u31f_j23l3 (by decide)
          have bx48 : (2 : Int) ≤ x48.toInt ∧ x48.toInt ≤ 9 := ⟨by rw [qx48]; exact Int.add_le_add bj23l3_l (Int.le_refl _), by rw [qx48]; exact Int.add_le_add u31f_j23l3 (Int.le_refl _)⟩
          refine lv_iinc (v := x48) (lv' := [(3, .int x48), (2, .int r44), (0, .ref a0), (1, .int r8)]) hx hb dX7_roundLength_48 hl (k := 3) rfl ex48.symm (by decide) rfl (fun ls hl => ?_)
          refine lv_goto (tgt := 23) hx hb dX7_roundLength_51 (by decide) ?_
          exact (hK0 _ _ _).mp (ih23 x48 r44 _ _ _ (by first | exact zg_s hm23 qx48 | (have h0 := qx48; omega)) (Int.le_trans zq54 bx48.1) bx48.2 h44_0 h44_1 hP hD hS (lv_sub hl [2, 3, 1, 0] rfl))
  exact (hK0 _ _ _).mp (J23 9 1 r17 _ _ _ (by first | decide +kernel | (have h1 : (1 : Int) ≤ (1 : Int32).toInt := zq1; have h2 : (1 : Int32).toInt ≤ (1 : Int) := zq0; omega)) zq1 (Int.le_trans zq0 zq56) h17_0 h17_1 hP hD hS (lv_sub hl [3, 2, 1, 0] rfl))

set_option maxHeartbeats 4000000 in
set_option maxRecDepth 100000 in
theorem c_X7_passAhead (l : Launch) (dC : Nat → ClassId) (dI : Nat → Nat → Nat) (sz : Nat) (a0 : Nat) (a1 : Int32) (a0g_0 a0g_1 a0g_3 a0g_4 a0g_5 a0g_6 a0g_8 a0g_9 a0g_10 : Value) (a0_2 : Nat) (a0_7 : Nat) (a0_7_0 : Int32) (a0_7_1 : Int32) (a0_7_2 : Int32) (a0_7g_3 a0_7g_4 a0_7g_7 a0_7g_8 a0_7g_9 a0_7g_12 a0_7g_13 : Value) (a0_7_5 : Int32) (a0_7_6 : Int32) (a0_7_10 : Nat) (a0_7_11 : Nat) (a0_7_14 : Nat) (a0_2_0 : Int32) (a0_2_1 : Int32) (a0_2_2 : Int32) (a0_2_3 : Int32) (a0_2_4 : Int32) (a0_2_5 : Nat) (a0_2_6 : Nat) (ka0_7_10 : ClassId) (fa0_7_10 : Nat → Int32) (ka0_7_11 : ClassId) (fa0_7_11 : Nat → Int32) (ka0_2_5 : ClassId) (fa0_2_5 : Nat → Int32) (a0_7_14_0 : Int32) (a0_7_14_1 : Int32) (a0_7_14_2 : Nat) (a0_7_14_3 : Nat) (ka0_7_14_3 : ClassId) (fa0_7_14_3 : Nat → Int32) (ka0_7_14_2 : ClassId) (fa0_7_14_2 : Nat → Int32) (ka0_2_6 : ClassId) (fa0_2_6 : Nat → Int32) (ba0_7_0_l : (0 : Int) ≤ a0_7_0.toInt) (ba0_7_0_u : a0_7_0.toInt ≤ (9 : Int)) (ba0_7_5_l : (0 : Int) ≤ a0_7_5.toInt) (ba0_7_5_u : a0_7_5.toInt ≤ (8 : Int)) (ba0_7_6_l : (0 : Int) ≤ a0_7_6.toInt) (ba0_7_6_u : a0_7_6.toInt ≤ (8 : Int)) (ba0_2_1_l : (0 : Int) ≤ a0_2_1.toInt) (ba0_2_1_u : a0_2_1.toInt ≤ (8 : Int)) (ba0_7_14_0_l : (0 : Int) ≤ a0_7_14_0.toInt) (ba0_7_14_0_u : a0_7_14_0.toInt ≤ (3 : Int)) (bfa0_7_14_3 : (∀ k, (0 : Int) ≤ (fa0_7_14_3 k).toInt ∧ (fa0_7_14_3 k).toInt ≤ 80)) (bfa0_7_14_2 : (∀ k, (0 : Int) ≤ (fa0_7_14_2 k).toInt ∧ (fa0_7_14_2 k).toInt ≤ 80)) : zm l yX7_passAhead wsX7_passAhead ({ frames := 4, cells := 0, slots := 0, locals := 98 }) [.ref a0, .int a1] dC dI sz [(a0, .inr (7, [a0g_0, a0g_1, .ref a0_2, a0g_3, a0g_4, a0g_5, a0g_6, .ref a0_7, a0g_8, a0g_9, a0g_10])), (a0_7, .inr (0, [.int a0_7_0, .int a0_7_1, .int a0_7_2, a0_7g_3, a0_7g_4, .int a0_7_5, .int a0_7_6, a0_7g_7, a0_7g_8, a0_7g_9, .ref a0_7_10, .ref a0_7_11, a0_7g_12, a0_7g_13, .ref a0_7_14])), (a0_2, .inr (5, [.int a0_2_0, .int a0_2_1, .int a0_2_2, .int a0_2_3, .int a0_2_4, .ref a0_2_5, .ref a0_2_6])), (a0_7_10, .inl (ka0_7_10, 9, .inl (fa0_7_10))), (a0_7_11, .inl (ka0_7_11, 9, .inl (fa0_7_11))), (a0_2_5, .inl (ka0_2_5, 9, .inl (fa0_2_5))), (a0_7_14, .inr (6, [.int a0_7_14_0, .int a0_7_14_1, .ref a0_7_14_2, .ref a0_7_14_3])), (a0_7_14_3, .inl (ka0_7_14_3, 3, .inl (fa0_7_14_3))), (a0_7_14_2, .inl (ka0_7_14_2, 3, .inl (fa0_7_14_2))), (a0_2_6, .inl (ka0_2_6, 9, .inl (fa0_2_6)))] [(ka0_7_10, .int), (ka0_7_11, .int), (ka0_2_5, .int), (ka0_7_14_3, .int), (ka0_7_14_2, .int), (ka0_2_6, .int)] (fun A U => va_Nw (.methodLinkNest RX0 118 yX7_within RX7) U ∧ va_Nw (.methodLinkNest RX5 38 yX7_hasBit RX7) U ∧ va_Nw (.methodLinkNest RX0 129 yX7_hasBit RX7) U) (fun A => va_Qv (fun (_ : Unit) => True) (fun (_ : Unit) (t : State) => ∃ na0_2_0 : Int32, ∃ na0_2_1 : Int32, ∃ na0_2_2 : Int32, ∃ na0_2_3 : Int32, ∃ na0_2_4 : Int32, ∃ nfa0_2_5 : Nat → Int32, ∃ nfa0_2_6 : Nat → Int32, ((0 : Int) ≤ na0_2_1.toInt ∧ na0_2_1.toInt ≤ 8) ∧ ax_B dC dI A [(a0, .inr (7, [a0g_0, a0g_1, .ref a0_2, a0g_3, a0g_4, a0g_5, a0g_6, .ref a0_7, a0g_8, a0g_9, a0g_10])), (a0_7, .inr (0, [.int a0_7_0, .int a0_7_1, .int a0_7_2, a0_7g_3, a0_7g_4, .int a0_7_5, .int a0_7_6, a0_7g_7, a0_7g_8, a0_7g_9, .ref a0_7_10, .ref a0_7_11, a0_7g_12, a0_7g_13, .ref a0_7_14])), (a0_2, .inr (5, [.int na0_2_0, .int na0_2_1, .int na0_2_2, .int na0_2_3, .int na0_2_4, .ref a0_2_5, .ref a0_2_6])), (a0_7_10, .inl (ka0_7_10, 9, .inl (fa0_7_10))), (a0_7_11, .inl (ka0_7_11, 9, .inl (fa0_7_11))), (a0_2_5, .inl (ka0_2_5, 9, .inl (nfa0_2_5))), (a0_7_14, .inr (6, [.int a0_7_14_0, .int a0_7_14_1, .ref a0_7_14_2, .ref a0_7_14_3])), (a0_7_14_3, .inl (ka0_7_14_3, 3, .inl (fa0_7_14_3))), (a0_7_14_2, .inl (ka0_7_14_2, 3, .inl (fa0_7_14_2))), (a0_2_6, .inl (ka0_2_6, 9, .inl (nfa0_2_6)))] [(ka0_7_10, .int), (ka0_7_11, .int), (ka0_2_5, .int), (ka0_7_14_3, .int), (ka0_7_14_2, .int), (ka0_2_6, .int)] t) A) := by
  refine zh (cc := cX7_passAhead) (maxL := 3) (ret := none) zn_RX7 rfl (Nat.le_of_ble_eq_true rfl) (fun p e s m below meth c A ls hx hb hml hr hts (hown : s.vm.findClass RX7 = some m.cls) hlocks hA hS hP hK hD hE (hl : lv_has ls 3 [(0, .ref a0), (1, .int a1)]) => ?_)
  obtain ⟨hE0, hE1, hE2⟩ := hE
  refine ai_open (fun K hK0 => ?_)
  refine (hK0 _ _ _).mpr ?_
  refine lv_iconst (v := 0) hx hb dX7_passAhead_0 zk_iconst_0 ?_
  refine lv_istore_n (lv' := [(2, .int 0), (0, .ref a0), (1, .int a1)]) hx hb dX7_passAhead_1 rfl hl (by decide) rfl (fun ls hl => ?_)
  have J2 : ∀ (n : Nat) (j2l2 : Int32) (j2a0_2_0 : Int32) (j2a0_2_1 : Int32) (j2a0_2_2 : Int32) (j2a0_2_3 : Int32) (j2a0_2_4 : Int32) (j2a0_2_5_a : Nat → Int32) (j2a0_2_6_a : Nat → Int32) (H : Heap) (locs : List Loc) (ls : Array Slot), (2147483648 : Int) - j2l2.toInt ≤ (n : Int) → (0 : Int) ≤ j2l2.toInt → (0 : Int) ≤ j2a0_2_1.toInt → j2a0_2_1.toInt ≤ (8 : Int) → va_P (dC, dI) vwCl [(a0, .inr (7, [a0g_0, a0g_1, .ref a0_2, a0g_3, a0g_4, a0g_5, a0g_6, .ref a0_7, a0g_8, a0g_9, a0g_10])), (a0_7, .inr (0, [.int a0_7_0, .int a0_7_1, .int a0_7_2, a0_7g_3, a0_7g_4, .int a0_7_5, .int a0_7_6, a0_7g_7, a0_7g_8, a0_7g_9, .ref a0_7_10, .ref a0_7_11, a0_7g_12, a0_7g_13, .ref a0_7_14])), (a0_2, .inr (5, [.int j2a0_2_0, .int j2a0_2_1, .int j2a0_2_2, .int j2a0_2_3, .int j2a0_2_4, .ref a0_2_5, .ref a0_2_6])), (a0_7_10, .inl (ka0_7_10, 9, .inl (fa0_7_10))), (a0_7_11, .inl (ka0_7_11, 9, .inl (fa0_7_11))), (a0_2_5, .inl (ka0_2_5, 9, .inl (j2a0_2_5_a))), (a0_7_14, .inr (6, [.int a0_7_14_0, .int a0_7_14_1, .ref a0_7_14_2, .ref a0_7_14_3])), (a0_7_14_3, .inl (ka0_7_14_3, 3, .inl (fa0_7_14_3))), (a0_7_14_2, .inl (ka0_7_14_2, 3, .inl (fa0_7_14_2))), (a0_2_6, .inl (ka0_2_6, 9, .inl (j2a0_2_6_a)))] H → va_D A [(a0, .inr (7, [a0g_0, a0g_1, .ref a0_2, a0g_3, a0g_4, a0g_5, a0g_6, .ref a0_7, a0g_8, a0g_9, a0g_10])), (a0_7, .inr (0, [.int a0_7_0, .int a0_7_1, .int a0_7_2, a0_7g_3, a0_7g_4, .int a0_7_5, .int a0_7_6, a0_7g_7, a0_7g_8, a0_7g_9, .ref a0_7_10, .ref a0_7_11, a0_7g_12, a0_7g_13, .ref a0_7_14])), (a0_2, .inr (5, [.int j2a0_2_0, .int j2a0_2_1, .int j2a0_2_2, .int j2a0_2_3, .int j2a0_2_4, .ref a0_2_5, .ref a0_2_6])), (a0_7_10, .inl (ka0_7_10, 9, .inl (fa0_7_10))), (a0_7_11, .inl (ka0_7_11, 9, .inl (fa0_7_11))), (a0_2_5, .inl (ka0_2_5, 9, .inl (j2a0_2_5_a))), (a0_7_14, .inr (6, [.int a0_7_14_0, .int a0_7_14_1, .ref a0_7_14_2, .ref a0_7_14_3])), (a0_7_14_3, .inl (ka0_7_14_3, 3, .inl (fa0_7_14_3))), (a0_7_14_2, .inl (ka0_7_14_2, 3, .inl (fa0_7_14_2))), (a0_2_6, .inl (ka0_2_6, 9, .inl (j2a0_2_6_a)))] → va_S A s.heap H locs → lv_has ls 3 [(0, .ref a0), (1, .int a1), (2, .int j2l2)] → K H locs (F0 m 2 ls []) := by
    intro n
    induction n with
    | zero =>
      intro j2l2 j2a0_2_0 j2a0_2_1 j2a0_2_2 j2a0_2_3 j2a0_2_4 j2a0_2_5_a j2a0_2_6_a H locs ls hm bj2l2_l bj2a0_2_1_l bj2a0_2_1_u hP hD hS hl
      have h8 := ai_min j2l2
      have h9 := ai_max j2l2
      exact absurd hm (by omega)
    | succ n ih2 =>
      intro j2l2 j2a0_2_0 j2a0_2_1 j2a0_2_2 j2a0_2_3 j2a0_2_4 j2a0_2_5_a j2a0_2_6_a H locs ls hm bj2l2_l bj2a0_2_1_l bj2a0_2_1_u hP hD hS hl
      refine (hK0 _ _ _).mpr ?_
      have hm2 := hm
      refine lv_iload_n hx hb dX7_passAhead_2 rfl (lv_at hl 2 rfl) ?_
      refine lv_iload_n hx hb dX7_passAhead_3 rfl (lv_at hl 1 rfl) ?_
      refine lv_icmp_ge (tgt := 31) hx hb dX7_passAhead_4 (by decide) (fun c4 => ?_) (fun c4 => ?_)
      · have gc4 := ai_le c4
        exact W.vret hx hb hr (fun t ht hW => ⟨⟨(), rfl, trivial, j2a0_2_0, j2a0_2_1, j2a0_2_2, j2a0_2_3, j2a0_2_4, j2a0_2_5_a, j2a0_2_6_a, ⟨bj2a0_2_1_l, bj2a0_2_1_u⟩, by rw [ht]; exact hP, va_K.moved hW.alike hK, hD⟩, hS.F ht⟩) hS.2.2 dX7_passAhead_31
      · have gc4 := ai_nle c4
        have u4f_j2l2 : j2l2.toInt ≤ (2147483646 : Int) := ai_lthi gc4 (ai_max a1)
        have l4f_a1 : (1 : Int) ≤ a1.toInt := ai_ltlo gc4 bj2l2_l
        refine lv_aload_n hx hb dX7_passAhead_7 rfl (lv_at hl 0 rfl) ?_
        refine va_get (D := (dC, dI)) (ci := 7) (v := .ref a0_7) (C := RX7) (T := TX7) (N := 11) hx hb hts zi_X7_passAhead_7 hown hK hP 0 rfl rfl 7 (by decide) (hts (.fieldLink RX7 57 "WaxTurns" "hall" "LWaxTurns$Hall;") (zm_X7_passAhead_r1 (List.mem_of_getElem? (i := 0) rfl))) (fun _ h9 => h9) rfl dX7_passAhead_8 ?_
        refine lv_aload_n hx hb dX7_passAhead_11 rfl (lv_at hl 0 rfl) ?_
        refine va_get (D := (dC, dI)) (ci := 7) (v := .ref a0_2) (C := RX7) (T := TX7) (N := 11) hx hb hts zi_X7_passAhead_7 hown hK hP 0 rfl rfl 2 (by decide) (hts (.fieldLink RX7 23 "WaxTurns" "ahead" "LWaxTurns$Scene;") (zm_X7_passAhead_r1 (List.mem_of_getElem? (i := 1) rfl))) (fun _ h9 => h9) rfl dX7_passAhead_12 ?_
        refine lv_aload_n hx hb dX7_passAhead_15 rfl (lv_at hl 0 rfl) ?_
        refine va_get (D := (dC, dI)) (ci := 7) (v := .ref a0_7) (C := RX7) (T := TX7) (N := 11) hx hb hts zi_X7_passAhead_7 hown hK hP 0 rfl rfl 7 (by decide) (hts (.fieldLink RX7 57 "WaxTurns" "hall" "LWaxTurns$Hall;") (zm_X7_passAhead_r1 (List.mem_of_getElem? (i := 0) rfl))) (fun _ h9 => h9) rfl dX7_passAhead_16 ?_
        refine va_get (D := (dC, dI)) (ci := 0) (v := .ref a0_7_14) (C := RX0) (T := TX0) (N := 15) hx hb hts zi_X7_passAhead_0 hown hK hP 1 rfl rfl 14 (by decide) (hts (.fieldLink RX7 138 "WaxTurns$Hall" "watchers" "LWaxTurns$Watchers;") (zm_X7_passAhead_r1 (List.mem_of_getElem? (i := 2) rfl))) (fun _ h9 => h9) rfl dX7_passAhead_19 ?_
        refine zc_cutc (wc := [(a0_7, .inr (0, [.int a0_7_0, .int a0_7_1, .int a0_7_2, a0_7g_3, a0_7g_4, .int a0_7_5, .int a0_7_6, a0_7g_7, a0_7g_8, a0_7g_9, .ref a0_7_10, .ref a0_7_11, a0_7g_12, a0_7g_13, .ref a0_7_14])), (a0_2, .inr (5, [.int j2a0_2_0, .int j2a0_2_1, .int j2a0_2_2, .int j2a0_2_3, .int j2a0_2_4, .ref a0_2_5, .ref a0_2_6])), (a0_7_10, .inl (ka0_7_10, 9, .inl (fa0_7_10))), (a0_7_11, .inl (ka0_7_11, 9, .inl (fa0_7_11))), (a0_2_5, .inl (ka0_2_5, 9, .inl (j2a0_2_5_a))), (a0_7_14, .inr (6, [.int a0_7_14_0, .int a0_7_14_1, .ref a0_7_14_2, .ref a0_7_14_3])), (a0_7_14_3, .inl (ka0_7_14_3, 3, .inl (fa0_7_14_3))), (a0_7_14_2, .inl (ka0_7_14_2, 3, .inl (fa0_7_14_2))), (a0_2_6, .inl (ka0_2_6, 9, .inl (j2a0_2_6_a)))]) hP hD hS hA [1, 2, 3, 4, 5, 6, 7, 8, 9] (by decide +kernel) rfl (fun hPc hDc hFc hCc => ?_)
        have hKc := hK.sub (tys' := [(ka0_7_10, .int), (ka0_7_11, .int), (ka0_2_5, .int), (ka0_7_14_3, .int), (ka0_7_14_2, .int), (ka0_2_6, .int)]) [0, 1, 2, 3, 4, 5] rfl
        refine va_callv (va_runV (As := [.ref a0_2, .ref a0_7_14]) (rest := []) ⟨hx, hb, hml, hown, hts⟩ (c_X0_pass l dC dI H.size a0_7 a0_2 a0_7_14 a0_7_0 a0_7_1 a0_7_2 a0_7g_3 a0_7g_4 a0_7g_7 a0_7g_8 a0_7g_9 a0_7g_12 a0_7g_13 (.ref a0_7_14) a0_7_5 a0_7_6 a0_7_10 a0_7_11 j2a0_2_0 j2a0_2_1 j2a0_2_2 j2a0_2_3 j2a0_2_4 a0_2_5 a0_2_6 ka0_7_10 fa0_7_10 ka0_7_11 fa0_7_11 ka0_2_5 j2a0_2_5_a a0_7_14_0 a0_7_14_1 a0_7_14_2 a0_7_14_3 ka0_7_14_3 fa0_7_14_3 ka0_7_14_2 fa0_7_14_2 ka0_2_6 j2a0_2_6_a ba0_7_0_l ba0_7_0_u ba0_7_5_l ba0_7_5_u ba0_7_6_l ba0_7_6_u bj2a0_2_1_l bj2a0_2_1_u ba0_7_14_0_l ba0_7_14_0_u bfa0_7_14_3 bfa0_7_14_2) (cwV 2 hts gX7_passAhead_X0_pass rfl rfl rfl zd_X0_pass ⟨Nat.le_of_ble_eq_true rfl, Nat.le_of_ble_eq_true rfl⟩) ⟨ax_blind (fun _ _ _ _ hq => ⟨va_Nw.same rfl rfl (hq.1), va_Nw.same rfl rfl (hq.2.1), va_Nw.same rfl rfl (hq.2.2)⟩), zr_0 hKc hPc (q0 := 0) rfl, ax_pre hPc hKc hDc (fun _ hW => ⟨va_Nw.warmM hW hE0, va_Nw.warmM hW hE1, va_Nw.warmM hW hE2⟩)⟩ rfl rfl hl.1 rfl (lv_room (Nat.le_of_ble_eq_true rfl)) dX7_passAhead_22 ⟨Nat.le_of_ble_eq_true rfl, Nat.le_of_ble_eq_true rfl⟩) hS (fun q _ h => hFc q h) hFc (fun u t H locs ht hvm hw => zx_7 (fun v22na1_0 v22na1_1 v22na1_2 v22na1_3 v22na1_4 v22nfa1_5 v22nfa1_6 => zy_1 (fun bv22na1_1 hB hz1 hk1 hS1 => zo hB ht hS1 (fun hP1 hK1 hD1 hS => ?_))))
        refine zc_backc (w := [(a0, .inr (7, [a0g_0, a0g_1, .ref a0_2, a0g_3, a0g_4, a0g_5, a0g_6, .ref a0_7, a0g_8, a0g_9, a0g_10])), (a0_7, .inr (0, [.int a0_7_0, .int a0_7_1, .int a0_7_2, a0_7g_3, a0_7g_4, .int a0_7_5, .int a0_7_6, a0_7g_7, a0_7g_8, a0_7g_9, .ref a0_7_10, .ref a0_7_11, a0_7g_12, a0_7g_13, .ref a0_7_14])), (a0_2, .inr (5, [.int v22na1_0, .int v22na1_1, .int v22na1_2, .int v22na1_3, .int v22na1_4, .ref a0_2_5, .ref a0_2_6])), (a0_7_10, .inl (ka0_7_10, 9, .inl (fa0_7_10))), (a0_7_11, .inl (ka0_7_11, 9, .inl (fa0_7_11))), (a0_2_5, .inl (ka0_2_5, 9, .inl (v22nfa1_5))), (a0_7_14, .inr (6, [.int a0_7_14_0, .int a0_7_14_1, .ref a0_7_14_2, .ref a0_7_14_3])), (a0_7_14_3, .inl (ka0_7_14_3, 3, .inl (fa0_7_14_3))), (a0_7_14_2, .inl (ka0_7_14_2, 3, .inl (fa0_7_14_2))), (a0_2_6, .inl (ka0_2_6, 9, .inl (v22nfa1_6)))]) hP hD hCc hk1 hFc hP1 hD1 [.inl 0, .inr 0, .inr 1, .inr 2, .inr 3, .inr 4, .inr 5, .inr 6, .inr 7, .inr 8] (by decide +kernel) rfl (fun hP hD => ?_)
        obtain ⟨x25, ex25⟩ : ∃ y : Int32, y = j2l2 + Int32.ofInt 1 := ⟨_, rfl⟩
        have qx25 : x25.toInt = j2l2.toInt + 1 := ai_inc ex25 (by decide) (by decide) u4f_j2l2 (by decide)
        have bx25 : (1 : Int) ≤ x25.toInt ∧ x25.toInt ≤ 2147483647 := ⟨by rw [qx25]; exact Int.add_le_add bj2l2_l (Int.le_refl _), by rw [qx25]; exact Int.add_le_add u4f_j2l2 (Int.le_refl _)⟩
        refine lv_iinc (v := x25) (lv' := [(2, .int x25), (0, .ref a0), (1, .int a1)]) hx hb dX7_passAhead_25 hl (k := 2) rfl ex25.symm (by decide) rfl (fun ls hl => ?_)
        refine lv_goto (tgt := 2) hx hb dX7_passAhead_28 (by decide) ?_
        exact (hK0 _ _ _).mp (ih2 x25 v22na1_0 v22na1_1 v22na1_2 v22na1_3 v22na1_4 v22nfa1_5 v22nfa1_6 _ _ _ (by first | exact zg_s hm2 qx25 | (have h0 := qx25; omega)) (Int.le_trans zq4 bx25.1) bv22na1_1.1 bv22na1_1.2 hP hD hS (lv_sub hl [1, 2, 0] rfl))
  exact (hK0 _ _ _).mp (J2 2147483648 0 a0_2_0 a0_2_1 a0_2_2 a0_2_3 a0_2_4 fa0_2_5 fa0_2_6 _ _ _ (by first | decide +kernel | (have h1 : (0 : Int) ≤ (0 : Int32).toInt := zq5; have h2 : (0 : Int32).toInt ≤ (0 : Int) := zq6; omega)) zq5 ba0_2_1_l ba0_2_1_u hP hD hS (lv_sub hl [1, 2, 0] rfl))

set_option maxHeartbeats 4000000 in
set_option maxRecDepth 100000 in
theorem c_X7_runAhead (l : Launch) (dC : Nat → ClassId) (dI : Nat → Nat → Nat) (sz : Nat) (a0 : Nat) (a1 : Int32) (a0g_0 a0g_3 a0g_4 a0g_5 a0g_6 a0g_8 a0g_9 a0g_10 : Value) (a0_1 : Nat) (a0_2 : Nat) (a0_7 : Nat) (a0_2_0 : Int32) (a0_2_1 : Int32) (a0_2_2 : Int32) (a0_2_3 : Int32) (a0_2_4 : Int32) (a0_2_5 : Nat) (a0_2_6 : Nat) (a0_1_0 : Int32) (a0_1_1 : Int32) (a0_1_2 : Int32) (a0_1_3 : Int32) (a0_1_4 : Int32) (a0_1_5 : Nat) (a0_1_6 : Nat) (ka0_1_5 : ClassId) (fa0_1_5 : Nat → Int32) (ka0_2_5 : ClassId) (fa0_2_5 : Nat → Int32) (ka0_1_6 : ClassId) (fa0_1_6 : Nat → Int32) (ka0_2_6 : ClassId) (fa0_2_6 : Nat → Int32) (a0_7_0 : Int32) (a0_7_1 : Int32) (a0_7_2 : Int32) (a0_7g_3 a0_7g_4 a0_7g_7 a0_7g_8 a0_7g_9 a0_7g_12 a0_7g_13 : Value) (a0_7_5 : Int32) (a0_7_6 : Int32) (a0_7_10 : Nat) (a0_7_11 : Nat) (a0_7_14 : Nat) (ka0_7_10 : ClassId) (fa0_7_10 : Nat → Int32) (ka0_7_11 : ClassId) (fa0_7_11 : Nat → Int32) (a0_7_14_0 : Int32) (a0_7_14_1 : Int32) (a0_7_14_2 : Nat) (a0_7_14_3 : Nat) (ka0_7_14_3 : ClassId) (fa0_7_14_3 : Nat → Int32) (ka0_7_14_2 : ClassId) (fa0_7_14_2 : Nat → Int32) (ba0_2_1_l : (0 : Int) ≤ a0_2_1.toInt) (ba0_2_1_u : a0_2_1.toInt ≤ (8 : Int)) (ba0_1_1_l : (0 : Int) ≤ a0_1_1.toInt) (ba0_1_1_u : a0_1_1.toInt ≤ (8 : Int)) (ba0_7_0_l : (0 : Int) ≤ a0_7_0.toInt) (ba0_7_0_u : a0_7_0.toInt ≤ (9 : Int)) (ba0_7_5_l : (0 : Int) ≤ a0_7_5.toInt) (ba0_7_5_u : a0_7_5.toInt ≤ (8 : Int)) (ba0_7_6_l : (0 : Int) ≤ a0_7_6.toInt) (ba0_7_6_u : a0_7_6.toInt ≤ (8 : Int)) (ba0_7_14_0_l : (0 : Int) ≤ a0_7_14_0.toInt) (ba0_7_14_0_u : a0_7_14_0.toInt ≤ (3 : Int)) (bfa0_7_14_3 : (∀ k, (0 : Int) ≤ (fa0_7_14_3 k).toInt ∧ (fa0_7_14_3 k).toInt ≤ 80)) (bfa0_7_14_2 : (∀ k, (0 : Int) ≤ (fa0_7_14_2 k).toInt ∧ (fa0_7_14_2 k).toInt ≤ 80)) : zm l yX7_runAhead wsX7_runAhead ({ frames := 5, cells := 0, slots := 0, locals := 120 }) [.ref a0, .int a1] dC dI sz [(a0, .inr (7, [a0g_0, .ref a0_1, .ref a0_2, a0g_3, a0g_4, a0g_5, a0g_6, .ref a0_7, a0g_8, a0g_9, a0g_10])), (a0_2, .inr (5, [.int a0_2_0, .int a0_2_1, .int a0_2_2, .int a0_2_3, .int a0_2_4, .ref a0_2_5, .ref a0_2_6])), (a0_1, .inr (5, [.int a0_1_0, .int a0_1_1, .int a0_1_2, .int a0_1_3, .int a0_1_4, .ref a0_1_5, .ref a0_1_6])), (a0_1_5, .inl (ka0_1_5, 9, .inl (fa0_1_5))), (a0_2_5, .inl (ka0_2_5, 9, .inl (fa0_2_5))), (a0_1_6, .inl (ka0_1_6, 9, .inl (fa0_1_6))), (a0_2_6, .inl (ka0_2_6, 9, .inl (fa0_2_6))), (a0_7, .inr (0, [.int a0_7_0, .int a0_7_1, .int a0_7_2, a0_7g_3, a0_7g_4, .int a0_7_5, .int a0_7_6, a0_7g_7, a0_7g_8, a0_7g_9, .ref a0_7_10, .ref a0_7_11, a0_7g_12, a0_7g_13, .ref a0_7_14])), (a0_7_10, .inl (ka0_7_10, 9, .inl (fa0_7_10))), (a0_7_11, .inl (ka0_7_11, 9, .inl (fa0_7_11))), (a0_7_14, .inr (6, [.int a0_7_14_0, .int a0_7_14_1, .ref a0_7_14_2, .ref a0_7_14_3])), (a0_7_14_3, .inl (ka0_7_14_3, 3, .inl (fa0_7_14_3))), (a0_7_14_2, .inl (ka0_7_14_2, 3, .inl (fa0_7_14_2)))] [(ka0_1_5, .int), (ka0_2_5, .int), (ka0_1_6, .int), (ka0_2_6, .int), (ka0_7_10, .int), (ka0_7_11, .int), (ka0_7_14_3, .int), (ka0_7_14_2, .int)] (fun A U => va_Nw (.methodLinkNest RX0 118 yX7_within RX7) U ∧ va_Nw (.methodLinkNest RX5 38 yX7_hasBit RX7) U ∧ va_Nw (.methodLinkNest RX0 129 yX7_hasBit RX7) U) (fun A => va_Qv (fun (_ : Unit) => True) (fun (_ : Unit) (t : State) => ∃ na0_2_0 : Int32, ∃ na0_2_1 : Int32, ∃ na0_2_2 : Int32, ∃ na0_2_3 : Int32, ∃ na0_2_4 : Int32, ∃ nfa0_2_5 : Nat → Int32, ∃ nfa0_2_6 : Nat → Int32, ((0 : Int) ≤ na0_2_1.toInt ∧ na0_2_1.toInt ≤ 8) ∧ ax_B dC dI A [(a0, .inr (7, [a0g_0, .ref a0_1, .ref a0_2, a0g_3, a0g_4, a0g_5, a0g_6, .ref a0_7, a0g_8, a0g_9, a0g_10])), (a0_2, .inr (5, [.int na0_2_0, .int na0_2_1, .int na0_2_2, .int na0_2_3, .int na0_2_4, .ref a0_2_5, .ref a0_2_6])), (a0_1, .inr (5, [.int a0_1_0, .int a0_1_1, .int a0_1_2, .int a0_1_3, .int a0_1_4, .ref a0_1_5, .ref a0_1_6])), (a0_1_5, .inl (ka0_1_5, 9, .inl (fa0_1_5))), (a0_2_5, .inl (ka0_2_5, 9, .inl (nfa0_2_5))), (a0_1_6, .inl (ka0_1_6, 9, .inl (fa0_1_6))), (a0_2_6, .inl (ka0_2_6, 9, .inl (nfa0_2_6))), (a0_7, .inr (0, [.int a0_7_0, .int a0_7_1, .int a0_7_2, a0_7g_3, a0_7g_4, .int a0_7_5, .int a0_7_6, a0_7g_7, a0_7g_8, a0_7g_9, .ref a0_7_10, .ref a0_7_11, a0_7g_12, a0_7g_13, .ref a0_7_14])), (a0_7_10, .inl (ka0_7_10, 9, .inl (fa0_7_10))), (a0_7_11, .inl (ka0_7_11, 9, .inl (fa0_7_11))), (a0_7_14, .inr (6, [.int a0_7_14_0, .int a0_7_14_1, .ref a0_7_14_2, .ref a0_7_14_3])), (a0_7_14_3, .inl (ka0_7_14_3, 3, .inl (fa0_7_14_3))), (a0_7_14_2, .inl (ka0_7_14_2, 3, .inl (fa0_7_14_2)))] [(ka0_1_5, .int), (ka0_2_5, .int), (ka0_1_6, .int), (ka0_2_6, .int), (ka0_7_10, .int), (ka0_7_11, .int), (ka0_7_14_3, .int), (ka0_7_14_2, .int)] t) A) := by
  refine zh (cc := cX7_runAhead) (maxL := 2) (ret := none) zn_RX7 rfl (Nat.le_of_ble_eq_true rfl) (fun p e s m below meth c A ls hx hb hml hr hts (hown : s.vm.findClass RX7 = some m.cls) hlocks hA hS hP hK hD hE (hl : lv_has ls 2 [(0, .ref a0), (1, .int a1)]) => ?_)
  obtain ⟨hE0, hE1, hE2⟩ := hE
  refine lv_aload_n hx hb dX7_runAhead_0 rfl (lv_at hl 0 rfl) ?_
  refine va_get (D := (dC, dI)) (ci := 7) (v := .ref a0_2) (C := RX7) (T := TX7) (N := 11) hx hb hts zi_X7_runAhead_7 hown hK hP 0 rfl rfl 2 (by decide) (hts (.fieldLink RX7 23 "WaxTurns" "ahead" "LWaxTurns$Scene;") (zm_X7_runAhead_r1 (List.mem_of_getElem? (i := 0) rfl))) (fun _ h9 => h9) rfl dX7_runAhead_1 ?_
  refine lv_aload_n hx hb dX7_runAhead_4 rfl (lv_at hl 0 rfl) ?_
  refine va_get (D := (dC, dI)) (ci := 7) (v := .ref a0_1) (C := RX7) (T := TX7) (N := 11) hx hb hts zi_X7_runAhead_7 hown hK hP 0 rfl rfl 1 (by decide) (hts (.fieldLink RX7 19 "WaxTurns" "now" "LWaxTurns$Scene;") (zm_X7_runAhead_r1 (List.mem_of_getElem? (i := 1) rfl))) (fun _ h9 => h9) rfl dX7_runAhead_5 ?_
  refine zc_cutc (wc := [(a0_2, .inr (5, [.int a0_2_0, .int a0_2_1, .int a0_2_2, .int a0_2_3, .int a0_2_4, .ref a0_2_5, .ref a0_2_6])), (a0_1, .inr (5, [.int a0_1_0, .int a0_1_1, .int a0_1_2, .int a0_1_3, .int a0_1_4, .ref a0_1_5, .ref a0_1_6])), (a0_1_5, .inl (ka0_1_5, 9, .inl (fa0_1_5))), (a0_2_5, .inl (ka0_2_5, 9, .inl (fa0_2_5))), (a0_1_6, .inl (ka0_1_6, 9, .inl (fa0_1_6))), (a0_2_6, .inl (ka0_2_6, 9, .inl (fa0_2_6)))]) hP hD hS hA [1, 2, 3, 4, 5, 6] (by decide +kernel) rfl (fun hPc hDc hFc hCc => ?_)
  have hKc := hK.sub (tys' := [(ka0_1_5, .int), (ka0_2_5, .int), (ka0_1_6, .int), (ka0_2_6, .int)]) [0, 1, 2, 3] rfl
  refine va_callv (va_runV (As := [.ref a0_1]) (rest := []) ⟨hx, hb, hml, hown, hts⟩ (c_X5_copyFrom l dC dI s.heap.size a0_2 a0_1 a0_2_0 a0_2_1 a0_2_2 a0_2_3 a0_2_4 a0_2_5 a0_2_6 a0_1_0 a0_1_1 a0_1_2 a0_1_3 a0_1_4 a0_1_5 a0_1_6 ka0_1_5 fa0_1_5 ka0_2_5 fa0_2_5 ka0_1_6 fa0_1_6 ka0_2_6 fa0_2_6 ba0_2_1_l ba0_2_1_u ba0_1_1_l ba0_1_1_u) (cwV 1 hts gX7_runAhead_X5_copyFrom rfl rfl rfl zd_X5_copyFrom ⟨Nat.le_of_ble_eq_true rfl, Nat.le_of_ble_eq_true rfl⟩) ⟨ax_blind (fun _ _ _ _ _ => trivial), zr_5 hKc hPc (q0 := 0) rfl, ax_pre hPc hKc hDc (fun _ _ => trivial)⟩ rfl rfl hl.1 rfl (lv_room (Nat.le_of_ble_eq_true rfl)) dX7_runAhead_8 ⟨Nat.le_of_ble_eq_true rfl, Nat.le_of_ble_eq_true rfl⟩) hS (fun q _ h => hFc q h) hFc (fun u t H locs ht hvm hw => zx_7 (fun v8na0_0 v8na0_1 v8na0_2 v8na0_3 v8na0_4 v8nfa0_5 v8nfa0_6 => zy_1 (fun bv8na0_1 hB hz1 hk1 hS1 => zo hB ht hS1 (fun hP1 hK1 hD1 hS => ?_))))
  refine zc_backc (w := [(a0, .inr (7, [a0g_0, .ref a0_1, .ref a0_2, a0g_3, a0g_4, a0g_5, a0g_6, .ref a0_7, a0g_8, a0g_9, a0g_10])), (a0_2, .inr (5, [.int v8na0_0, .int v8na0_1, .int v8na0_2, .int v8na0_3, .int v8na0_4, .ref a0_2_5, .ref a0_2_6])), (a0_1, .inr (5, [.int a0_1_0, .int a0_1_1, .int a0_1_2, .int a0_1_3, .int a0_1_4, .ref a0_1_5, .ref a0_1_6])), (a0_1_5, .inl (ka0_1_5, 9, .inl (fa0_1_5))), (a0_2_5, .inl (ka0_2_5, 9, .inl (v8nfa0_5))), (a0_1_6, .inl (ka0_1_6, 9, .inl (fa0_1_6))), (a0_2_6, .inl (ka0_2_6, 9, .inl (v8nfa0_6))), (a0_7, .inr (0, [.int a0_7_0, .int a0_7_1, .int a0_7_2, a0_7g_3, a0_7g_4, .int a0_7_5, .int a0_7_6, a0_7g_7, a0_7g_8, a0_7g_9, .ref a0_7_10, .ref a0_7_11, a0_7g_12, a0_7g_13, .ref a0_7_14])), (a0_7_10, .inl (ka0_7_10, 9, .inl (fa0_7_10))), (a0_7_11, .inl (ka0_7_11, 9, .inl (fa0_7_11))), (a0_7_14, .inr (6, [.int a0_7_14_0, .int a0_7_14_1, .ref a0_7_14_2, .ref a0_7_14_3])), (a0_7_14_3, .inl (ka0_7_14_3, 3, .inl (fa0_7_14_3))), (a0_7_14_2, .inl (ka0_7_14_2, 3, .inl (fa0_7_14_2)))]) hP hD hCc hk1 hFc hP1 hD1 [.inl 0, .inr 0, .inr 1, .inr 2, .inr 3, .inr 4, .inr 5, .inl 7, .inl 8, .inl 9, .inl 10, .inl 11, .inl 12] (by decide +kernel) rfl (fun hP hD => ?_)
  refine lv_aload_n hx hb dX7_runAhead_11 rfl (lv_at hl 0 rfl) ?_
  refine lv_iload_n hx hb dX7_runAhead_12 rfl (lv_at hl 1 rfl) ?_
  refine zc_cutc (wc := [(a0, .inr (7, [a0g_0, .ref a0_1, .ref a0_2, a0g_3, a0g_4, a0g_5, a0g_6, .ref a0_7, a0g_8, a0g_9, a0g_10])), (a0_7, .inr (0, [.int a0_7_0, .int a0_7_1, .int a0_7_2, a0_7g_3, a0_7g_4, .int a0_7_5, .int a0_7_6, a0_7g_7, a0_7g_8, a0_7g_9, .ref a0_7_10, .ref a0_7_11, a0_7g_12, a0_7g_13, .ref a0_7_14])), (a0_2, .inr (5, [.int v8na0_0, .int v8na0_1, .int v8na0_2, .int v8na0_3, .int v8na0_4, .ref a0_2_5, .ref a0_2_6])), (a0_7_10, .inl (ka0_7_10, 9, .inl (fa0_7_10))), (a0_7_11, .inl (ka0_7_11, 9, .inl (fa0_7_11))), (a0_2_5, .inl (ka0_2_5, 9, .inl (v8nfa0_5))), (a0_7_14, .inr (6, [.int a0_7_14_0, .int a0_7_14_1, .ref a0_7_14_2, .ref a0_7_14_3])), (a0_7_14_3, .inl (ka0_7_14_3, 3, .inl (fa0_7_14_3))), (a0_7_14_2, .inl (ka0_7_14_2, 3, .inl (fa0_7_14_2))), (a0_2_6, .inl (ka0_2_6, 9, .inl (v8nfa0_6)))]) hP hD hS hA [0, 7, 1, 8, 9, 4, 10, 11, 12, 6] (by decide +kernel) rfl (fun hPc hDc hFc hCc => ?_)
  have hKc := hK.sub (tys' := [(ka0_7_10, .int), (ka0_7_11, .int), (ka0_2_5, .int), (ka0_7_14_3, .int), (ka0_7_14_2, .int), (ka0_2_6, .int)]) [4, 5, 1, 6, 7, 3] rfl
  refine va_callv (va_runV (As := [.int a1]) (rest := []) ⟨hx, hb, hml, hown, hts⟩ (c_X7_passAhead l dC dI H.size a0 a1 a0g_0 (.ref a0_1) a0g_3 a0g_4 a0g_5 a0g_6 a0g_8 a0g_9 a0g_10 a0_2 a0_7 a0_7_0 a0_7_1 a0_7_2 a0_7g_3 a0_7g_4 a0_7g_7 a0_7g_8 a0_7g_9 a0_7g_12 a0_7g_13 a0_7_5 a0_7_6 a0_7_10 a0_7_11 a0_7_14 v8na0_0 v8na0_1 v8na0_2 v8na0_3 v8na0_4 a0_2_5 a0_2_6 ka0_7_10 fa0_7_10 ka0_7_11 fa0_7_11 ka0_2_5 v8nfa0_5 a0_7_14_0 a0_7_14_1 a0_7_14_2 a0_7_14_3 ka0_7_14_3 fa0_7_14_3 ka0_7_14_2 fa0_7_14_2 ka0_2_6 v8nfa0_6 ba0_7_0_l ba0_7_0_u ba0_7_5_l ba0_7_5_u ba0_7_6_l ba0_7_6_u bv8na0_1.1 bv8na0_1.2 ba0_7_14_0_l ba0_7_14_0_u bfa0_7_14_3 bfa0_7_14_2) (cwV 1 hts gX7_runAhead_X7_passAhead rfl rfl rfl zd_X7_passAhead ⟨Nat.le_of_ble_eq_true rfl, Nat.le_of_ble_eq_true rfl⟩) ⟨ax_blind (fun _ _ _ _ hq => ⟨va_Nw.same rfl rfl (hq.1), va_Nw.same rfl rfl (hq.2.1), va_Nw.same rfl rfl (hq.2.2)⟩), zr_7 hKc hPc (q0 := 0) rfl, ax_pre hPc hKc hDc (fun _ hW => ⟨va_Nw.warmM hW hE0, va_Nw.warmM hW hE1, va_Nw.warmM hW hE2⟩)⟩ rfl rfl hl.1 rfl (lv_room (Nat.le_of_ble_eq_true rfl)) dX7_runAhead_13 ⟨Nat.le_of_ble_eq_true rfl, Nat.le_of_ble_eq_true rfl⟩) hS (fun q _ h => hFc q h) hFc (fun u t H locs ht hvm hw => zx_7 (fun v13na0_2_0 v13na0_2_1 v13na0_2_2 v13na0_2_3 v13na0_2_4 v13nfa0_2_5 v13nfa0_2_6 => zy_1 (fun bv13na0_2_1 hB hz1 hk1 hS1 => zo hB ht hS1 (fun hP1 hK1 hD1 hS => ?_))))
  refine zc_backc (w := [(a0, .inr (7, [a0g_0, .ref a0_1, .ref a0_2, a0g_3, a0g_4, a0g_5, a0g_6, .ref a0_7, a0g_8, a0g_9, a0g_10])), (a0_2, .inr (5, [.int v13na0_2_0, .int v13na0_2_1, .int v13na0_2_2, .int v13na0_2_3, .int v13na0_2_4, .ref a0_2_5, .ref a0_2_6])), (a0_1, .inr (5, [.int a0_1_0, .int a0_1_1, .int a0_1_2, .int a0_1_3, .int a0_1_4, .ref a0_1_5, .ref a0_1_6])), (a0_1_5, .inl (ka0_1_5, 9, .inl (fa0_1_5))), (a0_2_5, .inl (ka0_2_5, 9, .inl (v13nfa0_2_5))), (a0_1_6, .inl (ka0_1_6, 9, .inl (fa0_1_6))), (a0_2_6, .inl (ka0_2_6, 9, .inl (v13nfa0_2_6))), (a0_7, .inr (0, [.int a0_7_0, .int a0_7_1, .int a0_7_2, a0_7g_3, a0_7g_4, .int a0_7_5, .int a0_7_6, a0_7g_7, a0_7g_8, a0_7g_9, .ref a0_7_10, .ref a0_7_11, a0_7g_12, a0_7g_13, .ref a0_7_14])), (a0_7_10, .inl (ka0_7_10, 9, .inl (fa0_7_10))), (a0_7_11, .inl (ka0_7_11, 9, .inl (fa0_7_11))), (a0_7_14, .inr (6, [.int a0_7_14_0, .int a0_7_14_1, .ref a0_7_14_2, .ref a0_7_14_3])), (a0_7_14_3, .inl (ka0_7_14_3, 3, .inl (fa0_7_14_3))), (a0_7_14_2, .inl (ka0_7_14_2, 3, .inl (fa0_7_14_2)))]) hP hD hCc hk1 hFc hP1 hD1 [.inr 0, .inr 2, .inl 2, .inl 3, .inr 5, .inl 5, .inr 9, .inr 1, .inr 3, .inr 4, .inr 6, .inr 7, .inr 8] (by decide +kernel) rfl (fun hP hD => ?_)
  exact W.vret hx hb hr (fun t ht hW => ⟨⟨(), rfl, trivial, v13na0_2_0, v13na0_2_1, v13na0_2_2, v13na0_2_3, v13na0_2_4, v13nfa0_2_5, v13nfa0_2_6, ⟨bv13na0_2_1.1, bv13na0_2_1.2⟩, by rw [ht]; exact hP, va_K.moved hW.alike hK, hD⟩, hS.F ht⟩) hS.2.2 dX7_runAhead_16

set_option maxHeartbeats 4000000 in
set_option maxRecDepth 100000 in
theorem c_X7_runAheadOnTrial (l : Launch) (dC : Nat → ClassId) (dI : Nat → Nat → Nat) (sz : Nat) (a0 : Nat) (a1 : Int32) (a0g_0 a0g_4 a0g_5 a0g_6 a0g_8 a0g_9 a0g_10 : Value) (a0_1 : Nat) (a0_2 : Nat) (a0_3 : Nat) (a0_7 : Nat) (a0_2_0 : Int32) (a0_2_1 : Int32) (a0_2_2 : Int32) (a0_2_3 : Int32) (a0_2_4 : Int32) (a0_2_5 : Nat) (a0_2_6 : Nat) (a0_1_0 : Int32) (a0_1_1 : Int32) (a0_1_2 : Int32) (a0_1_3 : Int32) (a0_1_4 : Int32) (a0_1_5 : Nat) (a0_1_6 : Nat) (ka0_1_5 : ClassId) (fa0_1_5 : Nat → Int32) (ka0_2_5 : ClassId) (fa0_2_5 : Nat → Int32) (ka0_1_6 : ClassId) (fa0_1_6 : Nat → Int32) (ka0_2_6 : ClassId) (fa0_2_6 : Nat → Int32) (a0_7_0 : Int32) (a0_7_1 : Int32) (a0_7_2 : Int32) (a0_7g_3 a0_7g_4 a0_7g_7 a0_7g_8 a0_7g_9 a0_7g_12 a0_7g_13 a0_7g_14 : Value) (a0_7_5 : Int32) (a0_7_6 : Int32) (a0_7_10 : Nat) (a0_7_11 : Nat) (ka0_7_10 : ClassId) (fa0_7_10 : Nat → Int32) (ka0_7_11 : ClassId) (fa0_7_11 : Nat → Int32) (a0_3_0 : Int32) (a0_3_1 : Int32) (a0_3_2 : Nat) (a0_3_3 : Nat) (ka0_3_3 : ClassId) (fa0_3_3 : Nat → Int32) (ka0_3_2 : ClassId) (fa0_3_2 : Nat → Int32) (ba0_2_1_l : (0 : Int) ≤ a0_2_1.toInt) (ba0_2_1_u : a0_2_1.toInt ≤ (8 : Int)) (ba0_1_1_l : (0 : Int) ≤ a0_1_1.toInt) (ba0_1_1_u : a0_1_1.toInt ≤ (8 : Int)) (ba0_7_0_l : (0 : Int) ≤ a0_7_0.toInt) (ba0_7_0_u : a0_7_0.toInt ≤ (9 : Int)) (ba0_7_5_l : (0 : Int) ≤ a0_7_5.toInt) (ba0_7_5_u : a0_7_5.toInt ≤ (8 : Int)) (ba0_7_6_l : (0 : Int) ≤ a0_7_6.toInt) (ba0_7_6_u : a0_7_6.toInt ≤ (8 : Int)) (ba0_3_0_l : (0 : Int) ≤ a0_3_0.toInt) (ba0_3_0_u : a0_3_0.toInt ≤ (3 : Int)) (bfa0_3_3 : (∀ k, (0 : Int) ≤ (fa0_3_3 k).toInt ∧ (fa0_3_3 k).toInt ≤ 80)) (bfa0_3_2 : (∀ k, (0 : Int) ≤ (fa0_3_2 k).toInt ∧ (fa0_3_2 k).toInt ≤ 80)) : zm l yX7_runAheadOnTrial wsX7_runAheadOnTrial ({ frames := 4, cells := 0, slots := 0, locals := 98 }) [.ref a0, .int a1] dC dI sz [(a0, .inr (7, [a0g_0, .ref a0_1, .ref a0_2, .ref a0_3, a0g_4, a0g_5, a0g_6, .ref a0_7, a0g_8, a0g_9, a0g_10])), (a0_2, .inr (5, [.int a0_2_0, .int a0_2_1, .int a0_2_2, .int a0_2_3, .int a0_2_4, .ref a0_2_5, .ref a0_2_6])), (a0_1, .inr (5, [.int a0_1_0, .int a0_1_1, .int a0_1_2, .int a0_1_3, .int a0_1_4, .ref a0_1_5, .ref a0_1_6])), (a0_1_5, .inl (ka0_1_5, 9, .inl (fa0_1_5))), (a0_2_5, .inl (ka0_2_5, 9, .inl (fa0_2_5))), (a0_1_6, .inl (ka0_1_6, 9, .inl (fa0_1_6))), (a0_2_6, .inl (ka0_2_6, 9, .inl (fa0_2_6))), (a0_7, .inr (0, [.int a0_7_0, .int a0_7_1, .int a0_7_2, a0_7g_3, a0_7g_4, .int a0_7_5, .int a0_7_6, a0_7g_7, a0_7g_8, a0_7g_9, .ref a0_7_10, .ref a0_7_11, a0_7g_12, a0_7g_13, a0_7g_14])), (a0_7_10, .inl (ka0_7_10, 9, .inl (fa0_7_10))), (a0_7_11, .inl (ka0_7_11, 9, .inl (fa0_7_11))), (a0_3, .inr (6, [.int a0_3_0, .int a0_3_1, .ref a0_3_2, .ref a0_3_3])), (a0_3_3, .inl (ka0_3_3, 3, .inl (fa0_3_3))), (a0_3_2, .inl (ka0_3_2, 3, .inl (fa0_3_2)))] [(ka0_1_5, .int), (ka0_2_5, .int), (ka0_1_6, .int), (ka0_2_6, .int), (ka0_7_10, .int), (ka0_7_11, .int), (ka0_3_3, .int), (ka0_3_2, .int)] (fun A U => va_Nw (.methodLinkNest RX0 118 yX7_within RX7) U ∧ va_Nw (.methodLinkNest RX5 38 yX7_hasBit RX7) U ∧ va_Nw (.methodLinkNest RX0 129 yX7_hasBit RX7) U) (fun A => va_Qv (fun (_ : Unit) => True) (fun (_ : Unit) (t : State) => ∃ na0_2_0 : Int32, ∃ na0_2_1 : Int32, ∃ na0_2_2 : Int32, ∃ na0_2_3 : Int32, ∃ na0_2_4 : Int32, ∃ nfa0_2_5 : Nat → Int32, ∃ nfa0_2_6 : Nat → Int32, ((0 : Int) ≤ na0_2_1.toInt ∧ na0_2_1.toInt ≤ 8) ∧ ax_B dC dI A [(a0, .inr (7, [a0g_0, .ref a0_1, .ref a0_2, .ref a0_3, a0g_4, a0g_5, a0g_6, .ref a0_7, a0g_8, a0g_9, a0g_10])), (a0_2, .inr (5, [.int na0_2_0, .int na0_2_1, .int na0_2_2, .int na0_2_3, .int na0_2_4, .ref a0_2_5, .ref a0_2_6])), (a0_1, .inr (5, [.int a0_1_0, .int a0_1_1, .int a0_1_2, .int a0_1_3, .int a0_1_4, .ref a0_1_5, .ref a0_1_6])), (a0_1_5, .inl (ka0_1_5, 9, .inl (fa0_1_5))), (a0_2_5, .inl (ka0_2_5, 9, .inl (nfa0_2_5))), (a0_1_6, .inl (ka0_1_6, 9, .inl (fa0_1_6))), (a0_2_6, .inl (ka0_2_6, 9, .inl (nfa0_2_6))), (a0_7, .inr (0, [.int a0_7_0, .int a0_7_1, .int a0_7_2, a0_7g_3, a0_7g_4, .int a0_7_5, .int a0_7_6, a0_7g_7, a0_7g_8, a0_7g_9, .ref a0_7_10, .ref a0_7_11, a0_7g_12, a0_7g_13, a0_7g_14])), (a0_7_10, .inl (ka0_7_10, 9, .inl (fa0_7_10))), (a0_7_11, .inl (ka0_7_11, 9, .inl (fa0_7_11))), (a0_3, .inr (6, [.int a0_3_0, .int a0_3_1, .ref a0_3_2, .ref a0_3_3])), (a0_3_3, .inl (ka0_3_3, 3, .inl (fa0_3_3))), (a0_3_2, .inl (ka0_3_2, 3, .inl (fa0_3_2)))] [(ka0_1_5, .int), (ka0_2_5, .int), (ka0_1_6, .int), (ka0_2_6, .int), (ka0_7_10, .int), (ka0_7_11, .int), (ka0_3_3, .int), (ka0_3_2, .int)] t) A) := by
  refine zh (cc := cX7_runAheadOnTrial) (maxL := 3) (ret := none) zn_RX7 rfl (Nat.le_of_ble_eq_true rfl) (fun p e s m below meth c A ls hx hb hml hr hts (hown : s.vm.findClass RX7 = some m.cls) hlocks hA hS hP hK hD hE (hl : lv_has ls 3 [(0, .ref a0), (1, .int a1)]) => ?_)
  obtain ⟨hE0, hE1, hE2⟩ := hE
  refine ai_open (fun K hK0 => ?_)
  refine (hK0 _ _ _).mpr ?_
  refine lv_aload_n hx hb dX7_runAheadOnTrial_0 rfl (lv_at hl 0 rfl) ?_
  refine va_get (D := (dC, dI)) (ci := 7) (v := .ref a0_2) (C := RX7) (T := TX7) (N := 11) hx hb hts zi_X7_runAheadOnTrial_7 hown hK hP 0 rfl rfl 2 (by decide) (hts (.fieldLink RX7 23 "WaxTurns" "ahead" "LWaxTurns$Scene;") (zm_X7_runAheadOnTrial_r1 (List.mem_of_getElem? (i := 0) rfl))) (fun _ h9 => h9) rfl dX7_runAheadOnTrial_1 ?_
  refine lv_aload_n hx hb dX7_runAheadOnTrial_4 rfl (lv_at hl 0 rfl) ?_
  refine va_get (D := (dC, dI)) (ci := 7) (v := .ref a0_1) (C := RX7) (T := TX7) (N := 11) hx hb hts zi_X7_runAheadOnTrial_7 hown hK hP 0 rfl rfl 1 (by decide) (hts (.fieldLink RX7 19 "WaxTurns" "now" "LWaxTurns$Scene;") (zm_X7_runAheadOnTrial_r1 (List.mem_of_getElem? (i := 1) rfl))) (fun _ h9 => h9) rfl dX7_runAheadOnTrial_5 ?_
  refine zc_cutc (wc := [(a0_2, .inr (5, [.int a0_2_0, .int a0_2_1, .int a0_2_2, .int a0_2_3, .int a0_2_4, .ref a0_2_5, .ref a0_2_6])), (a0_1, .inr (5, [.int a0_1_0, .int a0_1_1, .int a0_1_2, .int a0_1_3, .int a0_1_4, .ref a0_1_5, .ref a0_1_6])), (a0_1_5, .inl (ka0_1_5, 9, .inl (fa0_1_5))), (a0_2_5, .inl (ka0_2_5, 9, .inl (fa0_2_5))), (a0_1_6, .inl (ka0_1_6, 9, .inl (fa0_1_6))), (a0_2_6, .inl (ka0_2_6, 9, .inl (fa0_2_6)))]) hP hD hS hA [1, 2, 3, 4, 5, 6] (by decide +kernel) rfl (fun hPc hDc hFc hCc => ?_)
  have hKc := hK.sub (tys' := [(ka0_1_5, .int), (ka0_2_5, .int), (ka0_1_6, .int), (ka0_2_6, .int)]) [0, 1, 2, 3] rfl
  refine va_callv (va_runV (As := [.ref a0_1]) (rest := []) ⟨hx, hb, hml, hown, hts⟩ (c_X5_copyFrom l dC dI s.heap.size a0_2 a0_1 a0_2_0 a0_2_1 a0_2_2 a0_2_3 a0_2_4 a0_2_5 a0_2_6 a0_1_0 a0_1_1 a0_1_2 a0_1_3 a0_1_4 a0_1_5 a0_1_6 ka0_1_5 fa0_1_5 ka0_2_5 fa0_2_5 ka0_1_6 fa0_1_6 ka0_2_6 fa0_2_6 ba0_2_1_l ba0_2_1_u ba0_1_1_l ba0_1_1_u) (cwV 1 hts gX7_runAheadOnTrial_X5_copyFrom rfl rfl rfl zd_X5_copyFrom ⟨Nat.le_of_ble_eq_true rfl, Nat.le_of_ble_eq_true rfl⟩) ⟨ax_blind (fun _ _ _ _ _ => trivial), zr_5 hKc hPc (q0 := 0) rfl, ax_pre hPc hKc hDc (fun _ _ => trivial)⟩ rfl rfl hl.1 rfl (lv_room (Nat.le_of_ble_eq_true rfl)) dX7_runAheadOnTrial_8 ⟨Nat.le_of_ble_eq_true rfl, Nat.le_of_ble_eq_true rfl⟩) hS (fun q _ h => hFc q h) hFc (fun u t H locs ht hvm hw => zx_7 (fun v8na0_0 v8na0_1 v8na0_2 v8na0_3 v8na0_4 v8nfa0_5 v8nfa0_6 => zy_1 (fun bv8na0_1 hB hz1 hk1 hS1 => zo hB ht hS1 (fun hP1 hK1 hD1 hS => ?_))))
  refine zc_backc (w := [(a0, .inr (7, [a0g_0, .ref a0_1, .ref a0_2, .ref a0_3, a0g_4, a0g_5, a0g_6, .ref a0_7, a0g_8, a0g_9, a0g_10])), (a0_2, .inr (5, [.int v8na0_0, .int v8na0_1, .int v8na0_2, .int v8na0_3, .int v8na0_4, .ref a0_2_5, .ref a0_2_6])), (a0_1, .inr (5, [.int a0_1_0, .int a0_1_1, .int a0_1_2, .int a0_1_3, .int a0_1_4, .ref a0_1_5, .ref a0_1_6])), (a0_1_5, .inl (ka0_1_5, 9, .inl (fa0_1_5))), (a0_2_5, .inl (ka0_2_5, 9, .inl (v8nfa0_5))), (a0_1_6, .inl (ka0_1_6, 9, .inl (fa0_1_6))), (a0_2_6, .inl (ka0_2_6, 9, .inl (v8nfa0_6))), (a0_7, .inr (0, [.int a0_7_0, .int a0_7_1, .int a0_7_2, a0_7g_3, a0_7g_4, .int a0_7_5, .int a0_7_6, a0_7g_7, a0_7g_8, a0_7g_9, .ref a0_7_10, .ref a0_7_11, a0_7g_12, a0_7g_13, a0_7g_14])), (a0_7_10, .inl (ka0_7_10, 9, .inl (fa0_7_10))), (a0_7_11, .inl (ka0_7_11, 9, .inl (fa0_7_11))), (a0_3, .inr (6, [.int a0_3_0, .int a0_3_1, .ref a0_3_2, .ref a0_3_3])), (a0_3_3, .inl (ka0_3_3, 3, .inl (fa0_3_3))), (a0_3_2, .inl (ka0_3_2, 3, .inl (fa0_3_2)))]) hP hD hCc hk1 hFc hP1 hD1 [.inl 0, .inr 0, .inr 1, .inr 2, .inr 3, .inr 4, .inr 5, .inl 7, .inl 8, .inl 9, .inl 10, .inl 11, .inl 12] (by decide +kernel) rfl (fun hP hD => ?_)
  refine lv_iconst (v := 0) hx hb dX7_runAheadOnTrial_11 zk_iconst_0 ?_
  refine lv_istore_n (lv' := [(2, .int 0), (0, .ref a0), (1, .int a1)]) hx hb dX7_runAheadOnTrial_12 rfl hl (by decide) rfl (fun ls hl => ?_)
  have J13 : ∀ (n : Nat) (j13l2 : Int32) (j13a0_2_0 : Int32) (j13a0_2_1 : Int32) (j13a0_2_2 : Int32) (j13a0_2_3 : Int32) (j13a0_2_4 : Int32) (j13a0_2_5_a : Nat → Int32) (j13a0_2_6_a : Nat → Int32) (H : Heap) (locs : List Loc) (ls : Array Slot), (2147483648 : Int) - j13l2.toInt ≤ (n : Int) → (0 : Int) ≤ j13l2.toInt → (0 : Int) ≤ j13a0_2_1.toInt → j13a0_2_1.toInt ≤ (8 : Int) → va_P (dC, dI) vwCl [(a0, .inr (7, [a0g_0, .ref a0_1, .ref a0_2, .ref a0_3, a0g_4, a0g_5, a0g_6, .ref a0_7, a0g_8, a0g_9, a0g_10])), (a0_2, .inr (5, [.int j13a0_2_0, .int j13a0_2_1, .int j13a0_2_2, .int j13a0_2_3, .int j13a0_2_4, .ref a0_2_5, .ref a0_2_6])), (a0_1, .inr (5, [.int a0_1_0, .int a0_1_1, .int a0_1_2, .int a0_1_3, .int a0_1_4, .ref a0_1_5, .ref a0_1_6])), (a0_1_5, .inl (ka0_1_5, 9, .inl (fa0_1_5))), (a0_2_5, .inl (ka0_2_5, 9, .inl (j13a0_2_5_a))), (a0_1_6, .inl (ka0_1_6, 9, .inl (fa0_1_6))), (a0_2_6, .inl (ka0_2_6, 9, .inl (j13a0_2_6_a))), (a0_7, .inr (0, [.int a0_7_0, .int a0_7_1, .int a0_7_2, a0_7g_3, a0_7g_4, .int a0_7_5, .int a0_7_6, a0_7g_7, a0_7g_8, a0_7g_9, .ref a0_7_10, .ref a0_7_11, a0_7g_12, a0_7g_13, a0_7g_14])), (a0_7_10, .inl (ka0_7_10, 9, .inl (fa0_7_10))), (a0_7_11, .inl (ka0_7_11, 9, .inl (fa0_7_11))), (a0_3, .inr (6, [.int a0_3_0, .int a0_3_1, .ref a0_3_2, .ref a0_3_3])), (a0_3_3, .inl (ka0_3_3, 3, .inl (fa0_3_3))), (a0_3_2, .inl (ka0_3_2, 3, .inl (fa0_3_2)))] H → va_D A [(a0, .inr (7, [a0g_0, .ref a0_1, .ref a0_2, .ref a0_3, a0g_4, a0g_5, a0g_6, .ref a0_7, a0g_8, a0g_9, a0g_10])), (a0_2, .inr (5, [.int j13a0_2_0, .int j13a0_2_1, .int j13a0_2_2, .int j13a0_2_3, .int j13a0_2_4, .ref a0_2_5, .ref a0_2_6])), (a0_1, .inr (5, [.int a0_1_0, .int a0_1_1, .int a0_1_2, .int a0_1_3, .int a0_1_4, .ref a0_1_5, .ref a0_1_6])), (a0_1_5, .inl (ka0_1_5, 9, .inl (fa0_1_5))), (a0_2_5, .inl (ka0_2_5, 9, .inl (j13a0_2_5_a))), (a0_1_6, .inl (ka0_1_6, 9, .inl (fa0_1_6))), (a0_2_6, .inl (ka0_2_6, 9, .inl (j13a0_2_6_a))), (a0_7, .inr (0, [.int a0_7_0, .int a0_7_1, .int a0_7_2, a0_7g_3, a0_7g_4, .int a0_7_5, .int a0_7_6, a0_7g_7, a0_7g_8, a0_7g_9, .ref a0_7_10, .ref a0_7_11, a0_7g_12, a0_7g_13, a0_7g_14])), (a0_7_10, .inl (ka0_7_10, 9, .inl (fa0_7_10))), (a0_7_11, .inl (ka0_7_11, 9, .inl (fa0_7_11))), (a0_3, .inr (6, [.int a0_3_0, .int a0_3_1, .ref a0_3_2, .ref a0_3_3])), (a0_3_3, .inl (ka0_3_3, 3, .inl (fa0_3_3))), (a0_3_2, .inl (ka0_3_2, 3, .inl (fa0_3_2)))] → va_S A s.heap H locs → lv_has ls 3 [(0, .ref a0), (1, .int a1), (2, .int j13l2)] → K H locs (F0 m 13 ls []) := by
    intro n
    induction n with
    | zero =>
      intro j13l2 j13a0_2_0 j13a0_2_1 j13a0_2_2 j13a0_2_3 j13a0_2_4 j13a0_2_5_a j13a0_2_6_a H locs ls hm bj13l2_l bj13a0_2_1_l bj13a0_2_1_u hP hD hS hl
      have h8 := ai_min j13l2
      have h9 := ai_max j13l2
      exact absurd hm (by omega)
    | succ n ih13 =>
      intro j13l2 j13a0_2_0 j13a0_2_1 j13a0_2_2 j13a0_2_3 j13a0_2_4 j13a0_2_5_a j13a0_2_6_a H locs ls hm bj13l2_l bj13a0_2_1_l bj13a0_2_1_u hP hD hS hl
      refine (hK0 _ _ _).mpr ?_
      have hm13 := hm
      refine lv_iload_n hx hb dX7_runAheadOnTrial_13 rfl (lv_at hl 2 rfl) ?_
      refine lv_iload_n hx hb dX7_runAheadOnTrial_14 rfl (lv_at hl 1 rfl) ?_
      refine lv_icmp_ge (tgt := 39) hx hb dX7_runAheadOnTrial_15 (by decide) (fun c15 => ?_) (fun c15 => ?_)
      · have gc15 := ai_le c15
        exact W.vret hx hb hr (fun t ht hW => ⟨⟨(), rfl, trivial, j13a0_2_0, j13a0_2_1, j13a0_2_2, j13a0_2_3, j13a0_2_4, j13a0_2_5_a, j13a0_2_6_a, ⟨bj13a0_2_1_l, bj13a0_2_1_u⟩, by rw [ht]; exact hP, va_K.moved hW.alike hK, hD⟩, hS.F ht⟩) hS.2.2 dX7_runAheadOnTrial_39
      · have gc15 := ai_nle c15
        have u15f_j13l2 : j13l2.toInt ≤ (2147483646 : Int) := ai_lthi gc15 (ai_max a1)
        have l15f_a1 : (1 : Int) ≤ a1.toInt := ai_ltlo gc15 bj13l2_l
        refine lv_aload_n hx hb dX7_runAheadOnTrial_18 rfl (lv_at hl 0 rfl) ?_
        refine va_get (D := (dC, dI)) (ci := 7) (v := .ref a0_7) (C := RX7) (T := TX7) (N := 11) hx hb hts zi_X7_runAheadOnTrial_7 hown hK hP 0 rfl rfl 7 (by decide) (hts (.fieldLink RX7 57 "WaxTurns" "hall" "LWaxTurns$Hall;") (zm_X7_runAheadOnTrial_r1 (List.mem_of_getElem? (i := 2) rfl))) (fun _ h9 => h9) rfl dX7_runAheadOnTrial_19 ?_
        refine lv_aload_n hx hb dX7_runAheadOnTrial_22 rfl (lv_at hl 0 rfl) ?_
        refine va_get (D := (dC, dI)) (ci := 7) (v := .ref a0_2) (C := RX7) (T := TX7) (N := 11) hx hb hts zi_X7_runAheadOnTrial_7 hown hK hP 0 rfl rfl 2 (by decide) (hts (.fieldLink RX7 23 "WaxTurns" "ahead" "LWaxTurns$Scene;") (zm_X7_runAheadOnTrial_r1 (List.mem_of_getElem? (i := 0) rfl))) (fun _ h9 => h9) rfl dX7_runAheadOnTrial_23 ?_
        refine lv_aload_n hx hb dX7_runAheadOnTrial_26 rfl (lv_at hl 0 rfl) ?_
        refine va_get (D := (dC, dI)) (ci := 7) (v := .ref a0_3) (C := RX7) (T := TX7) (N := 11) hx hb hts zi_X7_runAheadOnTrial_7 hown hK hP 0 rfl rfl 3 (by decide) (hts (.fieldLink RX7 29 "WaxTurns" "trial" "LWaxTurns$Watchers;") (zm_X7_runAheadOnTrial_r1 (List.mem_of_getElem? (i := 3) rfl))) (fun _ h9 => h9) rfl dX7_runAheadOnTrial_27 ?_
        refine zc_cutc (wc := [(a0_7, .inr (0, [.int a0_7_0, .int a0_7_1, .int a0_7_2, a0_7g_3, a0_7g_4, .int a0_7_5, .int a0_7_6, a0_7g_7, a0_7g_8, a0_7g_9, .ref a0_7_10, .ref a0_7_11, a0_7g_12, a0_7g_13, a0_7g_14])), (a0_2, .inr (5, [.int j13a0_2_0, .int j13a0_2_1, .int j13a0_2_2, .int j13a0_2_3, .int j13a0_2_4, .ref a0_2_5, .ref a0_2_6])), (a0_7_10, .inl (ka0_7_10, 9, .inl (fa0_7_10))), (a0_7_11, .inl (ka0_7_11, 9, .inl (fa0_7_11))), (a0_2_5, .inl (ka0_2_5, 9, .inl (j13a0_2_5_a))), (a0_3, .inr (6, [.int a0_3_0, .int a0_3_1, .ref a0_3_2, .ref a0_3_3])), (a0_3_3, .inl (ka0_3_3, 3, .inl (fa0_3_3))), (a0_3_2, .inl (ka0_3_2, 3, .inl (fa0_3_2))), (a0_2_6, .inl (ka0_2_6, 9, .inl (j13a0_2_6_a)))]) hP hD hS hA [7, 1, 8, 9, 4, 10, 11, 12, 6] (by decide +kernel) rfl (fun hPc hDc hFc hCc => ?_)
        have hKc := hK.sub (tys' := [(ka0_7_10, .int), (ka0_7_11, .int), (ka0_2_5, .int), (ka0_3_3, .int), (ka0_3_2, .int), (ka0_2_6, .int)]) [4, 5, 1, 6, 7, 3] rfl
        refine va_callv (va_runV (As := [.ref a0_2, .ref a0_3]) (rest := []) ⟨hx, hb, hml, hown, hts⟩ (c_X0_pass l dC dI H.size a0_7 a0_2 a0_3 a0_7_0 a0_7_1 a0_7_2 a0_7g_3 a0_7g_4 a0_7g_7 a0_7g_8 a0_7g_9 a0_7g_12 a0_7g_13 a0_7g_14 a0_7_5 a0_7_6 a0_7_10 a0_7_11 j13a0_2_0 j13a0_2_1 j13a0_2_2 j13a0_2_3 j13a0_2_4 a0_2_5 a0_2_6 ka0_7_10 fa0_7_10 ka0_7_11 fa0_7_11 ka0_2_5 j13a0_2_5_a a0_3_0 a0_3_1 a0_3_2 a0_3_3 ka0_3_3 fa0_3_3 ka0_3_2 fa0_3_2 ka0_2_6 j13a0_2_6_a ba0_7_0_l ba0_7_0_u ba0_7_5_l ba0_7_5_u ba0_7_6_l ba0_7_6_u bj13a0_2_1_l bj13a0_2_1_u ba0_3_0_l ba0_3_0_u bfa0_3_3 bfa0_3_2) (cwV 2 hts gX7_runAheadOnTrial_X0_pass rfl rfl rfl zd_X0_pass ⟨Nat.le_of_ble_eq_true rfl, Nat.le_of_ble_eq_true rfl⟩) ⟨ax_blind (fun _ _ _ _ hq => ⟨va_Nw.same rfl rfl (hq.1), va_Nw.same rfl rfl (hq.2.1), va_Nw.same rfl rfl (hq.2.2)⟩), zr_0 hKc hPc (q0 := 0) rfl, ax_pre hPc hKc hDc (fun _ hW => ⟨va_Nw.warmM hW hE0, va_Nw.warmM hW hE1, va_Nw.warmM hW hE2⟩)⟩ rfl rfl hl.1 rfl (lv_room (Nat.le_of_ble_eq_true rfl)) dX7_runAheadOnTrial_30 ⟨Nat.le_of_ble_eq_true rfl, Nat.le_of_ble_eq_true rfl⟩) hS (fun q _ h => hFc q h) hFc (fun u t H locs ht hvm hw => zx_7 (fun v30na1_0 v30na1_1 v30na1_2 v30na1_3 v30na1_4 v30nfa1_5 v30nfa1_6 => zy_1 (fun bv30na1_1 hB hz1 hk1 hS1 => zo hB ht hS1 (fun hP1 hK1 hD1 hS => ?_))))
        refine zc_backc (w := [(a0, .inr (7, [a0g_0, .ref a0_1, .ref a0_2, .ref a0_3, a0g_4, a0g_5, a0g_6, .ref a0_7, a0g_8, a0g_9, a0g_10])), (a0_2, .inr (5, [.int v30na1_0, .int v30na1_1, .int v30na1_2, .int v30na1_3, .int v30na1_4, .ref a0_2_5, .ref a0_2_6])), (a0_1, .inr (5, [.int a0_1_0, .int a0_1_1, .int a0_1_2, .int a0_1_3, .int a0_1_4, .ref a0_1_5, .ref a0_1_6])), (a0_1_5, .inl (ka0_1_5, 9, .inl (fa0_1_5))), (a0_2_5, .inl (ka0_2_5, 9, .inl (v30nfa1_5))), (a0_1_6, .inl (ka0_1_6, 9, .inl (fa0_1_6))), (a0_2_6, .inl (ka0_2_6, 9, .inl (v30nfa1_6))), (a0_7, .inr (0, [.int a0_7_0, .int a0_7_1, .int a0_7_2, a0_7g_3, a0_7g_4, .int a0_7_5, .int a0_7_6, a0_7g_7, a0_7g_8, a0_7g_9, .ref a0_7_10, .ref a0_7_11, a0_7g_12, a0_7g_13, a0_7g_14])), (a0_7_10, .inl (ka0_7_10, 9, .inl (fa0_7_10))), (a0_7_11, .inl (ka0_7_11, 9, .inl (fa0_7_11))), (a0_3, .inr (6, [.int a0_3_0, .int a0_3_1, .ref a0_3_2, .ref a0_3_3])), (a0_3_3, .inl (ka0_3_3, 3, .inl (fa0_3_3))), (a0_3_2, .inl (ka0_3_2, 3, .inl (fa0_3_2)))]) hP hD hCc hk1 hFc hP1 hD1 [.inl 0, .inr 1, .inl 2, .inl 3, .inr 4, .inl 5, .inr 8, .inr 0, .inr 2, .inr 3, .inr 5, .inr 6, .inr 7] (by decide +kernel) rfl (fun hP hD => ?_)
        obtain ⟨x33, ex33⟩ : ∃ y : Int32, y = j13l2 + Int32.ofInt 1 := ⟨_, rfl⟩
        have qx33 : x33.toInt = j13l2.toInt + 1 := ai_inc ex33 (by decide) (by decide) u15f_j13l2 (by decide)
        have bx33 : (1 : Int) ≤ x33.toInt ∧ x33.toInt ≤ 2147483647 := ⟨by rw [qx33]; exact Int.add_le_add bj13l2_l (Int.le_refl _), by rw [qx33]; exact Int.add_le_add u15f_j13l2 (Int.le_refl _)⟩
        refine lv_iinc (v := x33) (lv' := [(2, .int x33), (0, .ref a0), (1, .int a1)]) hx hb dX7_runAheadOnTrial_33 hl (k := 2) rfl ex33.symm (by decide) rfl (fun ls hl => ?_)
        refine lv_goto (tgt := 13) hx hb dX7_runAheadOnTrial_36 (by decide) ?_
        exact (hK0 _ _ _).mp (ih13 x33 v30na1_0 v30na1_1 v30na1_2 v30na1_3 v30na1_4 v30nfa1_5 v30nfa1_6 _ _ _ (by first | exact zg_s hm13 qx33 | (have h0 := qx33; omega)) (Int.le_trans zq4 bx33.1) bv30na1_1.1 bv30na1_1.2 hP hD hS (lv_sub hl [1, 2, 0] rfl))
  exact (hK0 _ _ _).mp (J13 2147483648 0 v8na0_0 v8na0_1 v8na0_2 v8na0_3 v8na0_4 v8nfa0_5 v8nfa0_6 _ _ _ (by first | decide +kernel | (have h1 : (0 : Int) ≤ (0 : Int32).toInt := zq5; have h2 : (0 : Int32).toInt ≤ (0 : Int) := zq6; omega)) zq5 bv8na0_1.1 bv8na0_1.2 hP hD hS (lv_sub hl [1, 2, 0] rfl))
end P105_safe
section P106_safe
set_option maxHeartbeats 4000000 in
set_option maxRecDepth 100000 in
theorem c_X7_placeOfActing (l : Launch) (dC : Nat → ClassId) (dI : Nat → Nat → Nat) (sz : Nat) (a0 : Nat) (a0g_0 a0g_1 a0g_3 a0g_4 a0g_5 a0g_6 a0g_8 a0g_9 a0g_10 : Value) (a0_2 : Nat) (a0_7 : Nat) (a0_2_0 : Int32) (a0_2_1 : Int32) (a0_2_2 : Int32) (a0_2_3 : Int32) (a0_2_4 : Int32) (a0_2_5 : Nat) (a0_2_6 : Nat) (a0_7_0 : Int32) (a0_7_1 : Int32) (a0_7_2 : Int32) (a0_7g_3 a0_7g_4 a0_7g_7 a0_7g_8 a0_7g_9 a0_7g_12 a0_7g_13 : Value) (a0_7_5 : Int32) (a0_7_6 : Int32) (a0_7_10 : Nat) (a0_7_11 : Nat) (a0_7_14 : Nat) (ka0_7_10 : ClassId) (fa0_7_10 : Nat → Int32) (ka0_7_11 : ClassId) (fa0_7_11 : Nat → Int32) (ka0_2_5 : ClassId) (fa0_2_5 : Nat → Int32) (a0_7_14_0 : Int32) (a0_7_14_1 : Int32) (a0_7_14_2 : Nat) (a0_7_14_3 : Nat) (ka0_7_14_3 : ClassId) (fa0_7_14_3 : Nat → Int32) (ka0_7_14_2 : ClassId) (fa0_7_14_2 : Nat → Int32) (ka0_2_6 : ClassId) (fa0_2_6 : Nat → Int32) (ba0_2_1_l : (0 : Int) ≤ a0_2_1.toInt) (ba0_2_1_u : a0_2_1.toInt ≤ (8 : Int)) (ba0_7_0_l : (0 : Int) ≤ a0_7_0.toInt) (ba0_7_0_u : a0_7_0.toInt ≤ (9 : Int)) (ba0_7_5_l : (0 : Int) ≤ a0_7_5.toInt) (ba0_7_5_u : a0_7_5.toInt ≤ (8 : Int)) (ba0_7_6_l : (0 : Int) ≤ a0_7_6.toInt) (ba0_7_6_u : a0_7_6.toInt ≤ (8 : Int)) (ba0_7_14_0_l : (0 : Int) ≤ a0_7_14_0.toInt) (ba0_7_14_0_u : a0_7_14_0.toInt ≤ (3 : Int)) (bfa0_7_14_3 : (∀ k, (0 : Int) ≤ (fa0_7_14_3 k).toInt ∧ (fa0_7_14_3 k).toInt ≤ 80)) (bfa0_7_14_2 : (∀ k, (0 : Int) ≤ (fa0_7_14_2 k).toInt ∧ (fa0_7_14_2 k).toInt ≤ 80)) : zm l yX7_placeOfActing wsX7_placeOfActing ({ frames := 4, cells := 0, slots := 0, locals := 98 }) [.ref a0] dC dI sz [(a0, .inr (7, [a0g_0, a0g_1, .ref a0_2, a0g_3, a0g_4, a0g_5, a0g_6, .ref a0_7, a0g_8, a0g_9, a0g_10])), (a0_2, .inr (5, [.int a0_2_0, .int a0_2_1, .int a0_2_2, .int a0_2_3, .int a0_2_4, .ref a0_2_5, .ref a0_2_6])), (a0_7, .inr (0, [.int a0_7_0, .int a0_7_1, .int a0_7_2, a0_7g_3, a0_7g_4, .int a0_7_5, .int a0_7_6, a0_7g_7, a0_7g_8, a0_7g_9, .ref a0_7_10, .ref a0_7_11, a0_7g_12, a0_7g_13, .ref a0_7_14])), (a0_7_10, .inl (ka0_7_10, 9, .inl (fa0_7_10))), (a0_7_11, .inl (ka0_7_11, 9, .inl (fa0_7_11))), (a0_2_5, .inl (ka0_2_5, 9, .inl (fa0_2_5))), (a0_7_14, .inr (6, [.int a0_7_14_0, .int a0_7_14_1, .ref a0_7_14_2, .ref a0_7_14_3])), (a0_7_14_3, .inl (ka0_7_14_3, 3, .inl (fa0_7_14_3))), (a0_7_14_2, .inl (ka0_7_14_2, 3, .inl (fa0_7_14_2))), (a0_2_6, .inl (ka0_2_6, 9, .inl (fa0_2_6)))] [(ka0_7_10, .int), (ka0_7_11, .int), (ka0_2_5, .int), (ka0_7_14_3, .int), (ka0_7_14_2, .int), (ka0_2_6, .int)] (fun A U => va_Nw (.methodLinkNest RX0 118 yX7_within RX7) U ∧ va_Nw (.methodLinkNest RX5 38 yX7_hasBit RX7) U ∧ va_Nw (.methodLinkNest RX0 129 yX7_hasBit RX7) U) (fun A => va_Qi (fun (r : Int32) (_ : Unit) => True) (fun (_ : Unit) (t : State) => ∃ na0_2_0 : Int32, ∃ na0_2_1 : Int32, ∃ na0_2_2 : Int32, ∃ na0_2_3 : Int32, ∃ na0_2_4 : Int32, ∃ nfa0_2_5 : Nat → Int32, ∃ nfa0_2_6 : Nat → Int32, ((0 : Int) ≤ na0_2_1.toInt ∧ na0_2_1.toInt ≤ 8) ∧ ax_B dC dI A [(a0, .inr (7, [a0g_0, a0g_1, .ref a0_2, a0g_3, a0g_4, a0g_5, a0g_6, .ref a0_7, a0g_8, a0g_9, a0g_10])), (a0_2, .inr (5, [.int na0_2_0, .int na0_2_1, .int na0_2_2, .int na0_2_3, .int na0_2_4, .ref a0_2_5, .ref a0_2_6])), (a0_7, .inr (0, [.int a0_7_0, .int a0_7_1, .int a0_7_2, a0_7g_3, a0_7g_4, .int a0_7_5, .int a0_7_6, a0_7g_7, a0_7g_8, a0_7g_9, .ref a0_7_10, .ref a0_7_11, a0_7g_12, a0_7g_13, .ref a0_7_14])), (a0_7_10, .inl (ka0_7_10, 9, .inl (fa0_7_10))), (a0_7_11, .inl (ka0_7_11, 9, .inl (fa0_7_11))), (a0_2_5, .inl (ka0_2_5, 9, .inl (nfa0_2_5))), (a0_7_14, .inr (6, [.int a0_7_14_0, .int a0_7_14_1, .ref a0_7_14_2, .ref a0_7_14_3])), (a0_7_14_3, .inl (ka0_7_14_3, 3, .inl (fa0_7_14_3))), (a0_7_14_2, .inl (ka0_7_14_2, 3, .inl (fa0_7_14_2))), (a0_2_6, .inl (ka0_2_6, 9, .inl (nfa0_2_6)))] [(ka0_7_10, .int), (ka0_7_11, .int), (ka0_2_5, .int), (ka0_7_14_3, .int), (ka0_7_14_2, .int), (ka0_2_6, .int)] t) A) := by
  refine zh (cc := cX7_placeOfActing) (maxL := 2) (ret := (some .int)) zn_RX7 rfl (Nat.le_of_ble_eq_true rfl) (fun p e s m below meth c A ls hx hb hml hr hts (hown : s.vm.findClass RX7 = some m.cls) hlocks hA hS hP hK hD hE (hl : lv_has ls 2 [(0, .ref a0)]) => ?_)
  obtain ⟨hE0, hE1, hE2⟩ := hE
  refine lv_aload_n hx hb dX7_placeOfActing_0 rfl (lv_at hl 0 rfl) ?_
  refine va_get (D := (dC, dI)) (ci := 7) (v := .ref a0_2) (C := RX7) (T := TX7) (N := 11) hx hb hts zi_X7_placeOfActing_7 hown hK hP 0 rfl rfl 2 (by decide) (hts (.fieldLink RX7 23 "WaxTurns" "ahead" "LWaxTurns$Scene;") (zm_X7_placeOfActing_r1 (List.mem_of_getElem? (i := 0) rfl))) (fun _ h9 => h9) rfl dX7_placeOfActing_1 ?_
  refine va_get (D := (dC, dI)) (ci := 5) (v := .int a0_2_1) (C := RX5) (T := TX5) (N := 7) hx hb hts zi_X7_placeOfActing_5 hown hK hP 1 rfl rfl 1 (by decide) (hts (.fieldLink RX7 158 "WaxTurns$Scene" "turn" "I") (zm_X7_placeOfActing_r1 (List.mem_of_getElem? (i := 1) rfl))) (fun _ h9 => h9) rfl dX7_placeOfActing_4 ?_
  refine lv_istore_n (lv' := [(1, .int a0_2_1), (0, .ref a0)]) hx hb dX7_placeOfActing_7 rfl hl (by decide) rfl (fun ls hl => ?_)
  refine lv_aload_n hx hb dX7_placeOfActing_8 rfl (lv_at hl 1 rfl) ?_
  refine va_get (D := (dC, dI)) (ci := 7) (v := .ref a0_7) (C := RX7) (T := TX7) (N := 11) hx hb hts zi_X7_placeOfActing_7 hown hK hP 0 rfl rfl 7 (by decide) (hts (.fieldLink RX7 57 "WaxTurns" "hall" "LWaxTurns$Hall;") (zm_X7_placeOfActing_r1 (List.mem_of_getElem? (i := 2) rfl))) (fun _ h9 => h9) rfl dX7_placeOfActing_9 ?_
  refine lv_aload_n hx hb dX7_placeOfActing_12 rfl (lv_at hl 1 rfl) ?_
  refine va_get (D := (dC, dI)) (ci := 7) (v := .ref a0_2) (C := RX7) (T := TX7) (N := 11) hx hb hts zi_X7_placeOfActing_7 hown hK hP 0 rfl rfl 2 (by decide) (hts (.fieldLink RX7 23 "WaxTurns" "ahead" "LWaxTurns$Scene;") (zm_X7_placeOfActing_r1 (List.mem_of_getElem? (i := 0) rfl))) (fun _ h9 => h9) rfl dX7_placeOfActing_13 ?_
  refine lv_aload_n hx hb dX7_placeOfActing_16 rfl (lv_at hl 1 rfl) ?_
  refine va_get (D := (dC, dI)) (ci := 7) (v := .ref a0_7) (C := RX7) (T := TX7) (N := 11) hx hb hts zi_X7_placeOfActing_7 hown hK hP 0 rfl rfl 7 (by decide) (hts (.fieldLink RX7 57 "WaxTurns" "hall" "LWaxTurns$Hall;") (zm_X7_placeOfActing_r1 (List.mem_of_getElem? (i := 2) rfl))) (fun _ h9 => h9) rfl dX7_placeOfActing_17 ?_
  refine va_get (D := (dC, dI)) (ci := 0) (v := .ref a0_7_14) (C := RX0) (T := TX0) (N := 15) hx hb hts zi_X7_placeOfActing_0 hown hK hP 2 rfl rfl 14 (by decide) (hts (.fieldLink RX7 138 "WaxTurns$Hall" "watchers" "LWaxTurns$Watchers;") (zm_X7_placeOfActing_r1 (List.mem_of_getElem? (i := 3) rfl))) (fun _ h9 => h9) rfl dX7_placeOfActing_20 ?_
  refine zc_cutc (wc := [(a0_7, .inr (0, [.int a0_7_0, .int a0_7_1, .int a0_7_2, a0_7g_3, a0_7g_4, .int a0_7_5, .int a0_7_6, a0_7g_7, a0_7g_8, a0_7g_9, .ref a0_7_10, .ref a0_7_11, a0_7g_12, a0_7g_13, .ref a0_7_14])), (a0_2, .inr (5, [.int a0_2_0, .int a0_2_1, .int a0_2_2, .int a0_2_3, .int a0_2_4, .ref a0_2_5, .ref a0_2_6])), (a0_7_10, .inl (ka0_7_10, 9, .inl (fa0_7_10))), (a0_7_11, .inl (ka0_7_11, 9, .inl (fa0_7_11))), (a0_2_5, .inl (ka0_2_5, 9, .inl (fa0_2_5))), (a0_7_14, .inr (6, [.int a0_7_14_0, .int a0_7_14_1, .ref a0_7_14_2, .ref a0_7_14_3])), (a0_7_14_3, .inl (ka0_7_14_3, 3, .inl (fa0_7_14_3))), (a0_7_14_2, .inl (ka0_7_14_2, 3, .inl (fa0_7_14_2))), (a0_2_6, .inl (ka0_2_6, 9, .inl (fa0_2_6)))]) hP hD hS hA [2, 1, 3, 4, 5, 6, 7, 8, 9] (by decide +kernel) rfl (fun hPc hDc hFc hCc => ?_)
  have hKc := hK.sub (tys' := [(ka0_7_10, .int), (ka0_7_11, .int), (ka0_2_5, .int), (ka0_7_14_3, .int), (ka0_7_14_2, .int), (ka0_2_6, .int)]) [0, 1, 2, 3, 4, 5] rfl
  refine va_callv (va_runV (As := [.ref a0_2, .ref a0_7_14]) (rest := []) ⟨hx, hb, hml, hown, hts⟩ (c_X0_pass l dC dI s.heap.size a0_7 a0_2 a0_7_14 a0_7_0 a0_7_1 a0_7_2 a0_7g_3 a0_7g_4 a0_7g_7 a0_7g_8 a0_7g_9 a0_7g_12 a0_7g_13 (.ref a0_7_14) a0_7_5 a0_7_6 a0_7_10 a0_7_11 a0_2_0 a0_2_1 a0_2_2 a0_2_3 a0_2_4 a0_2_5 a0_2_6 ka0_7_10 fa0_7_10 ka0_7_11 fa0_7_11 ka0_2_5 fa0_2_5 a0_7_14_0 a0_7_14_1 a0_7_14_2 a0_7_14_3 ka0_7_14_3 fa0_7_14_3 ka0_7_14_2 fa0_7_14_2 ka0_2_6 fa0_2_6 ba0_7_0_l ba0_7_0_u ba0_7_5_l ba0_7_5_u ba0_7_6_l ba0_7_6_u ba0_2_1_l ba0_2_1_u ba0_7_14_0_l ba0_7_14_0_u bfa0_7_14_3 bfa0_7_14_2) (cwV 2 hts gX7_placeOfActing_X0_pass rfl rfl rfl zd_X0_pass ⟨Nat.le_of_ble_eq_true rfl, Nat.le_of_ble_eq_true rfl⟩) ⟨ax_blind (fun _ _ _ _ hq => ⟨va_Nw.same rfl rfl (hq.1), va_Nw.same rfl rfl (hq.2.1), va_Nw.same rfl rfl (hq.2.2)⟩), zr_0 hKc hPc (q0 := 0) rfl, ax_pre hPc hKc hDc (fun _ hW => ⟨va_Nw.warmM hW hE0, va_Nw.warmM hW hE1, va_Nw.warmM hW hE2⟩)⟩ rfl rfl hl.1 rfl (lv_room (Nat.le_of_ble_eq_true rfl)) dX7_placeOfActing_23 ⟨Nat.le_of_ble_eq_true rfl, Nat.le_of_ble_eq_true rfl⟩) hS (fun q _ h => hFc q h) hFc (fun u t H locs ht hvm hw => zx_7 (fun v23na1_0 v23na1_1 v23na1_2 v23na1_3 v23na1_4 v23nfa1_5 v23nfa1_6 => zy_1 (fun bv23na1_1 hB hz1 hk1 hS1 => zo hB ht hS1 (fun hP1 hK1 hD1 hS => ?_))))
  refine zc_backc (w := [(a0, .inr (7, [a0g_0, a0g_1, .ref a0_2, a0g_3, a0g_4, a0g_5, a0g_6, .ref a0_7, a0g_8, a0g_9, a0g_10])), (a0_2, .inr (5, [.int v23na1_0, .int v23na1_1, .int v23na1_2, .int v23na1_3, .int v23na1_4, .ref a0_2_5, .ref a0_2_6])), (a0_7, .inr (0, [.int a0_7_0, .int a0_7_1, .int a0_7_2, a0_7g_3, a0_7g_4, .int a0_7_5, .int a0_7_6, a0_7g_7, a0_7g_8, a0_7g_9, .ref a0_7_10, .ref a0_7_11, a0_7g_12, a0_7g_13, .ref a0_7_14])), (a0_7_10, .inl (ka0_7_10, 9, .inl (fa0_7_10))), (a0_7_11, .inl (ka0_7_11, 9, .inl (fa0_7_11))), (a0_2_5, .inl (ka0_2_5, 9, .inl (v23nfa1_5))), (a0_7_14, .inr (6, [.int a0_7_14_0, .int a0_7_14_1, .ref a0_7_14_2, .ref a0_7_14_3])), (a0_7_14_3, .inl (ka0_7_14_3, 3, .inl (fa0_7_14_3))), (a0_7_14_2, .inl (ka0_7_14_2, 3, .inl (fa0_7_14_2))), (a0_2_6, .inl (ka0_2_6, 9, .inl (v23nfa1_6)))]) hP hD hCc hk1 hFc hP1 hD1 [.inl 0, .inr 1, .inr 0, .inr 2, .inr 3, .inr 4, .inr 5, .inr 6, .inr 7, .inr 8] (by decide +kernel) rfl (fun hP hD => ?_)
  refine lv_aload_n hx hb dX7_placeOfActing_26 rfl (lv_at hl 1 rfl) ?_
  refine va_get (D := (dC, dI)) (ci := 7) (v := .ref a0_2) (C := RX7) (T := TX7) (N := 11) hx hb hts zi_X7_placeOfActing_7 hown hK hP 0 rfl rfl 2 (by decide) (hts (.fieldLink RX7 23 "WaxTurns" "ahead" "LWaxTurns$Scene;") (zm_X7_placeOfActing_r1 (List.mem_of_getElem? (i := 0) rfl))) (fun _ h9 => h9) rfl dX7_placeOfActing_27 ?_
  refine lv_iload_n hx hb dX7_placeOfActing_30 rfl (lv_at hl 0 rfl) ?_
  refine zc_cutc (wc := [(a0_2, .inr (5, [.int v23na1_0, .int v23na1_1, .int v23na1_2, .int v23na1_3, .int v23na1_4, .ref a0_2_5, .ref a0_2_6]))]) hP hD hS hA [1] (by decide +kernel) rfl (fun hPc hDc hFc hCc => ?_)
  have hKc := zp_K hK
  refine va_calli (va_runV (As := [.int a0_2_1]) (rest := []) ⟨hx, hb, hml, hown, hts⟩ (c_X5_isGone l dC dI H.size a0_2 a0_2_1 (.int v23na1_0) (.int v23na1_1) (.int v23na1_2) (.int v23na1_4) (.ref a0_2_5) (.ref a0_2_6) v23na1_3 ) (cwV 1 hts gX7_placeOfActing_X5_isGone rfl rfl rfl zd_X5_isGone ⟨Nat.le_of_ble_eq_true rfl, Nat.le_of_ble_eq_true rfl⟩) ⟨ax_blind (fun _ _ _ _ hq => va_Nw.same rfl rfl (hq)), zr_5 hKc hPc (q0 := 0) rfl, ax_pre hPc hKc hDc (fun _ hW => va_Nw.warmM hW hE1)⟩ rfl rfl hl.1 rfl (lv_room (Nat.le_of_ble_eq_true rfl)) dX7_placeOfActing_31 ⟨Nat.le_of_ble_eq_true rfl, Nat.le_of_ble_eq_true rfl⟩) hS (fun q _ h => hFc q h) hFc (fun r31 u t H locs ht hvm hw hB hz1 hk1 hS1 => zo hB ht hS1 (fun hP1 hK1 hD1 hS => ?_))
  refine zc_backc (w := [(a0, .inr (7, [a0g_0, a0g_1, .ref a0_2, a0g_3, a0g_4, a0g_5, a0g_6, .ref a0_7, a0g_8, a0g_9, a0g_10])), (a0_2, .inr (5, [.int v23na1_0, .int v23na1_1, .int v23na1_2, .int v23na1_3, .int v23na1_4, .ref a0_2_5, .ref a0_2_6])), (a0_7, .inr (0, [.int a0_7_0, .int a0_7_1, .int a0_7_2, a0_7g_3, a0_7g_4, .int a0_7_5, .int a0_7_6, a0_7g_7, a0_7g_8, a0_7g_9, .ref a0_7_10, .ref a0_7_11, a0_7g_12, a0_7g_13, .ref a0_7_14])), (a0_7_10, .inl (ka0_7_10, 9, .inl (fa0_7_10))), (a0_7_11, .inl (ka0_7_11, 9, .inl (fa0_7_11))), (a0_2_5, .inl (ka0_2_5, 9, .inl (v23nfa1_5))), (a0_7_14, .inr (6, [.int a0_7_14_0, .int a0_7_14_1, .ref a0_7_14_2, .ref a0_7_14_3])), (a0_7_14_3, .inl (ka0_7_14_3, 3, .inl (fa0_7_14_3))), (a0_7_14_2, .inl (ka0_7_14_2, 3, .inl (fa0_7_14_2))), (a0_2_6, .inl (ka0_2_6, 9, .inl (v23nfa1_6)))]) hP hD hCc hk1 hFc hP1 hD1 [.inl 0, .inr 0, .inl 2, .inl 3, .inl 4, .inl 5, .inl 6, .inl 7, .inl 8, .inl 9] (by decide +kernel) rfl (fun hP hD => ?_)
  rcases hw with hw | hw
  · subst hw
    refine lv_if_eq (tgt := 41) hx hb dX7_placeOfActing_34 (by decide) (fun c34 => absurd c34 (by decide +kernel)) (fun _ => ?_)
    refine lv_iconst (v := (-1)) hx hb dX7_placeOfActing_37 zk_iconst_n1 ?_
    refine lv_goto (tgt := 50) hx hb dX7_placeOfActing_38 (by decide) ?_
    exact W.iret (v := (-1)) hx hb hr (fun t ht hW => ⟨⟨(-1), (), rfl, trivial, v23na1_0, v23na1_1, v23na1_2, v23na1_3, v23na1_4, v23nfa1_5, v23nfa1_6, ⟨bv23na1_1.1, bv23na1_1.2⟩, by rw [ht]; exact hP, va_K.moved hW.alike hK, hD⟩, hS.F ht⟩) hS.2.2 dX7_placeOfActing_50
  · subst hw
    refine lv_if_eq (tgt := 41) hx hb dX7_placeOfActing_34 (by decide) (fun _ => ?_) (fun c34 => absurd (by decide +kernel) c34)
    refine lv_aload_n hx hb dX7_placeOfActing_41 rfl (lv_at hl 1 rfl) ?_
    refine va_get (D := (dC, dI)) (ci := 7) (v := .ref a0_2) (C := RX7) (T := TX7) (N := 11) hx hb hts zi_X7_placeOfActing_7 hown hK hP 0 rfl rfl 2 (by decide) (hts (.fieldLink RX7 23 "WaxTurns" "ahead" "LWaxTurns$Scene;") (zm_X7_placeOfActing_r1 (List.mem_of_getElem? (i := 0) rfl))) (fun _ h9 => h9) rfl dX7_placeOfActing_42 ?_
    refine va_get (D := (dC, dI)) (ci := 5) (v := .ref a0_2_5) (C := RX5) (T := TX5) (N := 7) hx hb hts zi_X7_placeOfActing_5 hown hK hP 1 rfl rfl 5 (by decide) (hts (.fieldLink RX7 126 "WaxTurns$Scene" "places" "[I") (zm_X7_placeOfActing_r1 (List.mem_of_getElem? (i := 4) rfl))) (fun _ h9 => h9) rfl dX7_placeOfActing_45 ?_
    refine lv_iload_n hx hb dX7_placeOfActing_48 rfl (lv_at hl 0 rfl) ?_
    refine va_iald hx hb hK hP 5 2 rfl rfl (ai_in ba0_2_1_l ba0_2_1_u (by decide) (by decide)) dX7_placeOfActing_49 ?_
    refine lv_topi (fun x49 ex49 => ?_)
    exact W.iret (v := x49) hx hb hr (fun t ht hW => ⟨⟨x49, (), rfl, trivial, v23na1_0, v23na1_1, v23na1_2, v23na1_3, v23na1_4, v23nfa1_5, v23nfa1_6, ⟨bv23na1_1.1, bv23na1_1.2⟩, by rw [ht]; exact hP, va_K.moved hW.alike hK, hD⟩, hS.F ht⟩) hS.2.2 dX7_placeOfActing_50

set_option maxHeartbeats 4000000 in
set_option maxRecDepth 100000 in
theorem c_X7_minutesTillGone (l : Launch) (dC : Nat → ClassId) (dI : Nat → Nat → Nat) (sz : Nat) (a0 : Nat) (a1 : Nat) (a2 : Int32) (a0g_0 a0g_1 a0g_3 a0g_4 a0g_5 a0g_6 a0g_8 a0g_9 a0g_10 : Value) (a0_2 : Nat) (a0_7 : Nat) (a0_2_0 : Int32) (a0_2_1 : Int32) (a0_2_2 : Int32) (a0_2_3 : Int32) (a0_2_4 : Int32) (a0_2_5 : Nat) (a0_2_6 : Nat) (a0_7_0 : Int32) (a0_7_1 : Int32) (a0_7_2 : Int32) (a0_7g_3 a0_7g_4 a0_7g_7 a0_7g_8 a0_7g_9 a0_7g_12 a0_7g_13 a0_7g_14 : Value) (a0_7_5 : Int32) (a0_7_6 : Int32) (a0_7_10 : Nat) (a0_7_11 : Nat) (ka0_7_10 : ClassId) (fa0_7_10 : Nat → Int32) (ka0_7_11 : ClassId) (fa0_7_11 : Nat → Int32) (ka0_2_5 : ClassId) (fa0_2_5 : Nat → Int32) (a1_0 : Int32) (a1_1 : Int32) (a1_2 : Nat) (a1_3 : Nat) (ka1_3 : ClassId) (fa1_3 : Nat → Int32) (ka1_2 : ClassId) (fa1_2 : Nat → Int32) (ka0_2_6 : ClassId) (fa0_2_6 : Nat → Int32) (ba2_l : (0 : Int) ≤ a2.toInt) (ba2_u : a2.toInt ≤ (300 : Int)) (ba0_2_1_l : (0 : Int) ≤ a0_2_1.toInt) (ba0_2_1_u : a0_2_1.toInt ≤ (8 : Int)) (ba0_7_0_l : (0 : Int) ≤ a0_7_0.toInt) (ba0_7_0_u : a0_7_0.toInt ≤ (9 : Int)) (ba0_7_5_l : (0 : Int) ≤ a0_7_5.toInt) (ba0_7_5_u : a0_7_5.toInt ≤ (8 : Int)) (ba0_7_6_l : (0 : Int) ≤ a0_7_6.toInt) (ba0_7_6_u : a0_7_6.toInt ≤ (8 : Int)) (ba1_0_l : (0 : Int) ≤ a1_0.toInt) (ba1_0_u : a1_0.toInt ≤ (3 : Int)) (bfa1_3 : (∀ k, (0 : Int) ≤ (fa1_3 k).toInt ∧ (fa1_3 k).toInt ≤ 80)) (bfa1_2 : (∀ k, (0 : Int) ≤ (fa1_2 k).toInt ∧ (fa1_2 k).toInt ≤ 80)) : zm l yX7_minutesTillGone wsX7_minutesTillGone ({ frames := 4, cells := 0, slots := 0, locals := 98 }) [.ref a0, .ref a1, .int a2] dC dI sz [(a0, .inr (7, [a0g_0, a0g_1, .ref a0_2, a0g_3, a0g_4, a0g_5, a0g_6, .ref a0_7, a0g_8, a0g_9, a0g_10])), (a0_2, .inr (5, [.int a0_2_0, .int a0_2_1, .int a0_2_2, .int a0_2_3, .int a0_2_4, .ref a0_2_5, .ref a0_2_6])), (a0_7, .inr (0, [.int a0_7_0, .int a0_7_1, .int a0_7_2, a0_7g_3, a0_7g_4, .int a0_7_5, .int a0_7_6, a0_7g_7, a0_7g_8, a0_7g_9, .ref a0_7_10, .ref a0_7_11, a0_7g_12, a0_7g_13, a0_7g_14])), (a0_7_10, .inl (ka0_7_10, 9, .inl (fa0_7_10))), (a0_7_11, .inl (ka0_7_11, 9, .inl (fa0_7_11))), (a0_2_5, .inl (ka0_2_5, 9, .inl (fa0_2_5))), (a1, .inr (6, [.int a1_0, .int a1_1, .ref a1_2, .ref a1_3])), (a1_3, .inl (ka1_3, 3, .inl (fa1_3))), (a1_2, .inl (ka1_2, 3, .inl (fa1_2))), (a0_2_6, .inl (ka0_2_6, 9, .inl (fa0_2_6)))] [(ka0_7_10, .int), (ka0_7_11, .int), (ka0_2_5, .int), (ka1_3, .int), (ka1_2, .int), (ka0_2_6, .int)] (fun A U => va_Nw (.methodLinkNest RX0 118 yX7_within RX7) U ∧ va_Nw (.methodLinkNest RX5 38 yX7_hasBit RX7) U ∧ va_Nw (.methodLinkNest RX0 129 yX7_hasBit RX7) U) (fun A => va_Qi (fun (r : Int32) (_ : Unit) => (-2 : Int) ≤ r.toInt ∧ r.toInt ≤ (300 : Int)) (fun (_ : Unit) (t : State) => ∃ na0_2_0 : Int32, ∃ na0_2_1 : Int32, ∃ na0_2_2 : Int32, ∃ na0_2_3 : Int32, ∃ na0_2_4 : Int32, ∃ nfa0_2_5 : Nat → Int32, ∃ nfa0_2_6 : Nat → Int32, ((0 : Int) ≤ na0_2_1.toInt ∧ na0_2_1.toInt ≤ 8) ∧ ax_B dC dI A [(a0, .inr (7, [a0g_0, a0g_1, .ref a0_2, a0g_3, a0g_4, a0g_5, a0g_6, .ref a0_7, a0g_8, a0g_9, a0g_10])), (a0_2, .inr (5, [.int na0_2_0, .int na0_2_1, .int na0_2_2, .int na0_2_3, .int na0_2_4, .ref a0_2_5, .ref a0_2_6])), (a0_7, .inr (0, [.int a0_7_0, .int a0_7_1, .int a0_7_2, a0_7g_3, a0_7g_4, .int a0_7_5, .int a0_7_6, a0_7g_7, a0_7g_8, a0_7g_9, .ref a0_7_10, .ref a0_7_11, a0_7g_12, a0_7g_13, a0_7g_14])), (a0_7_10, .inl (ka0_7_10, 9, .inl (fa0_7_10))), (a0_7_11, .inl (ka0_7_11, 9, .inl (fa0_7_11))), (a0_2_5, .inl (ka0_2_5, 9, .inl (nfa0_2_5))), (a1, .inr (6, [.int a1_0, .int a1_1, .ref a1_2, .ref a1_3])), (a1_3, .inl (ka1_3, 3, .inl (fa1_3))), (a1_2, .inl (ka1_2, 3, .inl (fa1_2))), (a0_2_6, .inl (ka0_2_6, 9, .inl (nfa0_2_6)))] [(ka0_7_10, .int), (ka0_7_11, .int), (ka0_2_5, .int), (ka1_3, .int), (ka1_2, .int), (ka0_2_6, .int)] t) A) := by
  refine zh (cc := cX7_minutesTillGone) (maxL := 5) (ret := (some .int)) zn_RX7 rfl (Nat.le_of_ble_eq_true rfl) (fun p e s m below meth c A ls hx hb hml hr hts (hown : s.vm.findClass RX7 = some m.cls) hlocks hA hS hP hK hD hE (hl : lv_has ls 5 [(0, .ref a0), (1, .ref a1), (2, .int a2)]) => ?_)
  obtain ⟨hE0, hE1, hE2⟩ := hE
  refine ai_open (fun K hK0 => ?_)
  refine (hK0 _ _ _).mpr ?_
  refine lv_aload_n hx hb dX7_minutesTillGone_0 rfl (lv_at hl 0 rfl) ?_
  refine va_get (D := (dC, dI)) (ci := 7) (v := .ref a0_2) (C := RX7) (T := TX7) (N := 11) hx hb hts zi_X7_minutesTillGone_7 hown hK hP 0 rfl rfl 2 (by decide) (hts (.fieldLink RX7 23 "WaxTurns" "ahead" "LWaxTurns$Scene;") (zm_X7_minutesTillGone_r1 (List.mem_of_getElem? (i := 0) rfl))) (fun _ h9 => h9) rfl dX7_minutesTillGone_1 ?_
  refine va_get (D := (dC, dI)) (ci := 5) (v := .int a0_2_3) (C := RX5) (T := TX5) (N := 7) hx hb hts zi_X7_minutesTillGone_5 hown hK hP 1 rfl rfl 3 (by decide) (hts (.fieldLink RX7 191 "WaxTurns$Scene" "goneBits" "I") (zm_X7_minutesTillGone_r1 (List.mem_of_getElem? (i := 1) rfl))) (fun _ h9 => h9) rfl dX7_minutesTillGone_4 ?_
  refine lv_istore_n (lv' := [(3, .int a0_2_3), (0, .ref a0), (1, .ref a1), (2, .int a2)]) hx hb dX7_minutesTillGone_7 rfl hl (by decide) rfl (fun ls hl => ?_)
  refine lv_iconst (v := 1) hx hb dX7_minutesTillGone_8 zk_iconst_1 ?_
  refine lv_istore (lv' := [(4, .int 1), (3, .int a0_2_3), (0, .ref a0), (1, .ref a1), (2, .int a2)]) hx hb dX7_minutesTillGone_9 hl (by decide) rfl (fun ls hl => ?_)
  have J11 : ∀ (n : Nat) (j11l4 : Int32) (j11a0_2_0 : Int32) (j11a0_2_1 : Int32) (j11a0_2_2 : Int32) (j11a0_2_3 : Int32) (j11a0_2_4 : Int32) (j11a0_2_5_a : Nat → Int32) (j11a0_2_6_a : Nat → Int32) (H : Heap) (locs : List Loc) (ls : Array Slot), (730 : Int) - j11l4.toInt ≤ (n : Int) → (1 : Int) ≤ j11l4.toInt → j11l4.toInt ≤ (729 : Int) → (0 : Int) ≤ j11a0_2_1.toInt → j11a0_2_1.toInt ≤ (8 : Int) → va_P (dC, dI) vwCl [(a0, .inr (7, [a0g_0, a0g_1, .ref a0_2, a0g_3, a0g_4, a0g_5, a0g_6, .ref a0_7, a0g_8, a0g_9, a0g_10])), (a0_2, .inr (5, [.int j11a0_2_0, .int j11a0_2_1, .int j11a0_2_2, .int j11a0_2_3, .int j11a0_2_4, .ref a0_2_5, .ref a0_2_6])), (a0_7, .inr (0, [.int a0_7_0, .int a0_7_1, .int a0_7_2, a0_7g_3, a0_7g_4, .int a0_7_5, .int a0_7_6, a0_7g_7, a0_7g_8, a0_7g_9, .ref a0_7_10, .ref a0_7_11, a0_7g_12, a0_7g_13, a0_7g_14])), (a0_7_10, .inl (ka0_7_10, 9, .inl (fa0_7_10))), (a0_7_11, .inl (ka0_7_11, 9, .inl (fa0_7_11))), (a0_2_5, .inl (ka0_2_5, 9, .inl (j11a0_2_5_a))), (a1, .inr (6, [.int a1_0, .int a1_1, .ref a1_2, .ref a1_3])), (a1_3, .inl (ka1_3, 3, .inl (fa1_3))), (a1_2, .inl (ka1_2, 3, .inl (fa1_2))), (a0_2_6, .inl (ka0_2_6, 9, .inl (j11a0_2_6_a)))] H → va_D A [(a0, .inr (7, [a0g_0, a0g_1, .ref a0_2, a0g_3, a0g_4, a0g_5, a0g_6, .ref a0_7, a0g_8, a0g_9, a0g_10])), (a0_2, .inr (5, [.int j11a0_2_0, .int j11a0_2_1, .int j11a0_2_2, .int j11a0_2_3, .int j11a0_2_4, .ref a0_2_5, .ref a0_2_6])), (a0_7, .inr (0, [.int a0_7_0, .int a0_7_1, .int a0_7_2, a0_7g_3, a0_7g_4, .int a0_7_5, .int a0_7_6, a0_7g_7, a0_7g_8, a0_7g_9, .ref a0_7_10, .ref a0_7_11, a0_7g_12, a0_7g_13, a0_7g_14])), (a0_7_10, .inl (ka0_7_10, 9, .inl (fa0_7_10))), (a0_7_11, .inl (ka0_7_11, 9, .inl (fa0_7_11))), (a0_2_5, .inl (ka0_2_5, 9, .inl (j11a0_2_5_a))), (a1, .inr (6, [.int a1_0, .int a1_1, .ref a1_2, .ref a1_3])), (a1_3, .inl (ka1_3, 3, .inl (fa1_3))), (a1_2, .inl (ka1_2, 3, .inl (fa1_2))), (a0_2_6, .inl (ka0_2_6, 9, .inl (j11a0_2_6_a)))] → va_S A s.heap H locs → lv_has ls 5 [(0, .ref a0), (1, .ref a1), (2, .int a2), (3, .int a0_2_3), (4, .int j11l4)] → K H locs (F0 m 11 ls []) := by
    intro n
    induction n with
    | zero =>
      intro j11l4 j11a0_2_0 j11a0_2_1 j11a0_2_2 j11a0_2_3 j11a0_2_4 j11a0_2_5_a j11a0_2_6_a H locs ls hm bj11l4_l bj11l4_u bj11a0_2_1_l bj11a0_2_1_u hP hD hS hl
      first | exact zg_0 hm bj11l4_u (by decide) | (have h8 := ai_min j11l4; have h9 := ai_max j11l4; exact absurd hm (by omega))
    | succ n ih11 =>
      intro j11l4 j11a0_2_0 j11a0_2_1 j11a0_2_2 j11a0_2_3 j11a0_2_4 j11a0_2_5_a j11a0_2_6_a H locs ls hm bj11l4_l bj11l4_u bj11a0_2_1_l bj11a0_2_1_u hP hD hS hl
      refine (hK0 _ _ _).mpr ?_
      have hm11 := hm
      refine lv_iload hx hb dX7_minutesTillGone_11 (lv_at hl 4 rfl) ?_
      refine lv_iload_n hx hb dX7_minutesTillGone_13 rfl (lv_at hl 2 rfl) ?_
      refine lv_icmp_gt (tgt := 49) hx hb dX7_minutesTillGone_14 (by decide) (fun c14 => ?_) (fun c14 => ?_)
      · have gc14 := ai_lt c14
        have u14t_a2 : a2.toInt ≤ (300 : Int) := ba2_u
        have l14t_j11l4 : (1 : Int) ≤ j11l4.toInt := bj11l4_l
        refine lv_bipush (v := (-2)) hx hb dX7_minutesTillGone_49 zk_bipush_n2 ?_
        exact W.iret (v := (-2)) hx hb hr (fun t ht hW => ⟨⟨(-2), (), rfl, ⟨zq45, (Int.le_trans zq44 zq57)⟩, j11a0_2_0, j11a0_2_1, j11a0_2_2, j11a0_2_3, j11a0_2_4, j11a0_2_5_a, j11a0_2_6_a, ⟨bj11a0_2_1_l, bj11a0_2_1_u⟩, by rw [ht]; exact hP, va_K.moved hW.alike hK, hD⟩, hS.F ht⟩) hS.2.2 dX7_minutesTillGone_51
      · have gc14 := ai_nlt c14
        have u14f_j11l4 : j11l4.toInt ≤ (300 : Int) := Int.le_trans gc14 ba2_u
        have l14f_a2 : (1 : Int) ≤ a2.toInt := Int.le_trans bj11l4_l gc14
        refine lv_aload_n hx hb dX7_minutesTillGone_17 rfl (lv_at hl 0 rfl) ?_
        refine va_get (D := (dC, dI)) (ci := 7) (v := .ref a0_7) (C := RX7) (T := TX7) (N := 11) hx hb hts zi_X7_minutesTillGone_7 hown hK hP 0 rfl rfl 7 (by decide) (hts (.fieldLink RX7 57 "WaxTurns" "hall" "LWaxTurns$Hall;") (zm_X7_minutesTillGone_r1 (List.mem_of_getElem? (i := 2) rfl))) (fun _ h9 => h9) rfl dX7_minutesTillGone_18 ?_
        refine lv_aload_n hx hb dX7_minutesTillGone_21 rfl (lv_at hl 0 rfl) ?_
        refine va_get (D := (dC, dI)) (ci := 7) (v := .ref a0_2) (C := RX7) (T := TX7) (N := 11) hx hb hts zi_X7_minutesTillGone_7 hown hK hP 0 rfl rfl 2 (by decide) (hts (.fieldLink RX7 23 "WaxTurns" "ahead" "LWaxTurns$Scene;") (zm_X7_minutesTillGone_r1 (List.mem_of_getElem? (i := 0) rfl))) (fun _ h9 => h9) rfl dX7_minutesTillGone_22 ?_
        refine lv_aload_n hx hb dX7_minutesTillGone_25 rfl (lv_at hl 1 rfl) ?_
        refine zc_cutc (wc := [(a0_7, .inr (0, [.int a0_7_0, .int a0_7_1, .int a0_7_2, a0_7g_3, a0_7g_4, .int a0_7_5, .int a0_7_6, a0_7g_7, a0_7g_8, a0_7g_9, .ref a0_7_10, .ref a0_7_11, a0_7g_12, a0_7g_13, a0_7g_14])), (a0_2, .inr (5, [.int j11a0_2_0, .int j11a0_2_1, .int j11a0_2_2, .int j11a0_2_3, .int j11a0_2_4, .ref a0_2_5, .ref a0_2_6])), (a0_7_10, .inl (ka0_7_10, 9, .inl (fa0_7_10))), (a0_7_11, .inl (ka0_7_11, 9, .inl (fa0_7_11))), (a0_2_5, .inl (ka0_2_5, 9, .inl (j11a0_2_5_a))), (a1, .inr (6, [.int a1_0, .int a1_1, .ref a1_2, .ref a1_3])), (a1_3, .inl (ka1_3, 3, .inl (fa1_3))), (a1_2, .inl (ka1_2, 3, .inl (fa1_2))), (a0_2_6, .inl (ka0_2_6, 9, .inl (j11a0_2_6_a)))]) hP hD hS hA [2, 1, 3, 4, 5, 6, 7, 8, 9] (by decide +kernel) rfl (fun hPc hDc hFc hCc => ?_)
        have hKc := hK.sub (tys' := [(ka0_7_10, .int), (ka0_7_11, .int), (ka0_2_5, .int), (ka1_3, .int), (ka1_2, .int), (ka0_2_6, .int)]) [0, 1, 2, 3, 4, 5] rfl
        refine va_callv (va_runV (As := [.ref a0_2, .ref a1]) (rest := []) ⟨hx, hb, hml, hown, hts⟩ (c_X0_pass l dC dI H.size a0_7 a0_2 a1 a0_7_0 a0_7_1 a0_7_2 a0_7g_3 a0_7g_4 a0_7g_7 a0_7g_8 a0_7g_9 a0_7g_12 a0_7g_13 a0_7g_14 a0_7_5 a0_7_6 a0_7_10 a0_7_11 j11a0_2_0 j11a0_2_1 j11a0_2_2 j11a0_2_3 j11a0_2_4 a0_2_5 a0_2_6 ka0_7_10 fa0_7_10 ka0_7_11 fa0_7_11 ka0_2_5 j11a0_2_5_a a1_0 a1_1 a1_2 a1_3 ka1_3 fa1_3 ka1_2 fa1_2 ka0_2_6 j11a0_2_6_a ba0_7_0_l ba0_7_0_u ba0_7_5_l ba0_7_5_u ba0_7_6_l ba0_7_6_u bj11a0_2_1_l bj11a0_2_1_u ba1_0_l ba1_0_u bfa1_3 bfa1_2) (cwV 2 hts gX7_minutesTillGone_X0_pass rfl rfl rfl zd_X0_pass ⟨Nat.le_of_ble_eq_true rfl, Nat.le_of_ble_eq_true rfl⟩) ⟨ax_blind (fun _ _ _ _ hq => ⟨va_Nw.same rfl rfl (hq.1), va_Nw.same rfl rfl (hq.2.1), va_Nw.same rfl rfl (hq.2.2)⟩), zr_0 hKc hPc (q0 := 0) rfl, ax_pre hPc hKc hDc (fun _ hW => ⟨va_Nw.warmM hW hE0, va_Nw.warmM hW hE1, va_Nw.warmM hW hE2⟩)⟩ rfl rfl hl.1 rfl (lv_room (Nat.le_of_ble_eq_true rfl)) dX7_minutesTillGone_26 ⟨Nat.le_of_ble_eq_true rfl, Nat.le_of_ble_eq_true rfl⟩) hS (fun q _ h => hFc q h) hFc (fun u t H locs ht hvm hw => zx_7 (fun v26na1_0 v26na1_1 v26na1_2 v26na1_3 v26na1_4 v26nfa1_5 v26nfa1_6 => zy_1 (fun bv26na1_1 hB hz1 hk1 hS1 => zo hB ht hS1 (fun hP1 hK1 hD1 hS => ?_))))
        refine zc_backc (w := [(a0, .inr (7, [a0g_0, a0g_1, .ref a0_2, a0g_3, a0g_4, a0g_5, a0g_6, .ref a0_7, a0g_8, a0g_9, a0g_10])), (a0_2, .inr (5, [.int v26na1_0, .int v26na1_1, .int v26na1_2, .int v26na1_3, .int v26na1_4, .ref a0_2_5, .ref a0_2_6])), (a0_7, .inr (0, [.int a0_7_0, .int a0_7_1, .int a0_7_2, a0_7g_3, a0_7g_4, .int a0_7_5, .int a0_7_6, a0_7g_7, a0_7g_8, a0_7g_9, .ref a0_7_10, .ref a0_7_11, a0_7g_12, a0_7g_13, a0_7g_14])), (a0_7_10, .inl (ka0_7_10, 9, .inl (fa0_7_10))), (a0_7_11, .inl (ka0_7_11, 9, .inl (fa0_7_11))), (a0_2_5, .inl (ka0_2_5, 9, .inl (v26nfa1_5))), (a1, .inr (6, [.int a1_0, .int a1_1, .ref a1_2, .ref a1_3])), (a1_3, .inl (ka1_3, 3, .inl (fa1_3))), (a1_2, .inl (ka1_2, 3, .inl (fa1_2))), (a0_2_6, .inl (ka0_2_6, 9, .inl (v26nfa1_6)))]) hP hD hCc hk1 hFc hP1 hD1 [.inl 0, .inr 1, .inr 0, .inr 2, .inr 3, .inr 4, .inr 5, .inr 6, .inr 7, .inr 8] (by decide +kernel) rfl (fun hP hD => ?_)
        refine lv_aload_n hx hb dX7_minutesTillGone_29 rfl (lv_at hl 0 rfl) ?_
        refine va_get (D := (dC, dI)) (ci := 7) (v := .ref a0_2) (C := RX7) (T := TX7) (N := 11) hx hb hts zi_X7_minutesTillGone_7 hown hK hP 0 rfl rfl 2 (by decide) (hts (.fieldLink RX7 23 "WaxTurns" "ahead" "LWaxTurns$Scene;") (zm_X7_minutesTillGone_r1 (List.mem_of_getElem? (i := 0) rfl))) (fun _ h9 => h9) rfl dX7_minutesTillGone_30 ?_
        refine va_get (D := (dC, dI)) (ci := 5) (v := .int v26na1_3) (C := RX5) (T := TX5) (N := 7) hx hb hts zi_X7_minutesTillGone_5 hown hK hP 1 rfl rfl 3 (by decide) (hts (.fieldLink RX7 191 "WaxTurns$Scene" "goneBits" "I") (zm_X7_minutesTillGone_r1 (List.mem_of_getElem? (i := 1) rfl))) (fun _ h9 => h9) rfl dX7_minutesTillGone_33 ?_
        refine lv_iload_n hx hb dX7_minutesTillGone_36 rfl (lv_at hl 3 rfl) ?_
        refine lv_icmp_eq (tgt := 43) hx hb dX7_minutesTillGone_37 (by decide) (fun c37 => ?_) (fun c37 => ?_)
        · have gc37 := ai_eq c37
          obtain ⟨x43, ex43⟩ : ∃ y : Int32, y = j11l4 + Int32.ofInt 1 := ⟨_, rfl⟩
          have qx43 : x43.toInt = j11l4.toInt + 1 := ai_inc ex43 (by decide) (by decide) u14f_j11l4 (by decide)
          have bx43 : (2 : Int) ≤ x43.toInt ∧ x43.toInt ≤ 301 := ⟨by rw [qx43]; exact Int.add_le_add bj11l4_l (Int.le_refl _), by rw [qx43]; exact Int.add_le_add u14f_j11l4 (Int.le_refl _)⟩
          refine lv_iinc (v := x43) (lv' := [(4, .int x43), (0, .ref a0), (1, .ref a1), (2, .int a2), (3, .int a0_2_3)]) hx hb dX7_minutesTillGone_43 hl (k := 4) rfl ex43.symm (by decide) rfl (fun ls hl => ?_)
          refine lv_goto (tgt := 11) hx hb dX7_minutesTillGone_46 (by decide) ?_
          exact (hK0 _ _ _).mp (ih11 x43 v26na1_0 v26na1_1 v26na1_2 v26na1_3 v26na1_4 v26nfa1_5 v26nfa1_6 _ _ _ (by first | exact zg_s hm11 qx43 | (have h0 := qx43; omega)) (Int.le_trans zq54 bx43.1) (Int.le_trans bx43.2 zq58) bv26na1_1.1 bv26na1_1.2 hP hD hS (lv_sub hl [1, 2, 3, 4, 0] rfl))
        · have gc37 := ai_ne c37
          refine lv_iload hx hb dX7_minutesTillGone_40 (lv_at hl 4 rfl) ?_
          exact W.iret (v := j11l4) hx hb hr (fun t ht hW => ⟨⟨j11l4, (), rfl, ⟨(Int.le_trans zq59 bj11l4_l), u14f_j11l4⟩, v26na1_0, v26na1_1, v26na1_2, v26na1_3, v26na1_4, v26nfa1_5, v26nfa1_6, ⟨bv26na1_1.1, bv26na1_1.2⟩, by rw [ht]; exact hP, va_K.moved hW.alike hK, hD⟩, hS.F ht⟩) hS.2.2 dX7_minutesTillGone_42
  exact (hK0 _ _ _).mp (J11 729 1 a0_2_0 a0_2_1 a0_2_2 a0_2_3 a0_2_4 fa0_2_5 fa0_2_6 _ _ _ (by first | decide +kernel | (have h1 : (1 : Int) ≤ (1 : Int32).toInt := zq1; have h2 : (1 : Int32).toInt ≤ (1 : Int) := zq0; omega)) zq1 (Int.le_trans zq0 zq60) ba0_2_1_l ba0_2_1_u hP hD hS (lv_sub hl [2, 3, 4, 1, 0] rfl))

set_option maxHeartbeats 4000000 in
set_option maxRecDepth 100000 in
theorem c_X7_crowdAt (l : Launch) (dC : Nat → ClassId) (dI : Nat → Nat → Nat) (sz : Nat) (a0 : Nat) (a1 : Int32) (a0g_0 a0g_1 a0g_3 a0g_4 a0g_5 a0g_6 a0g_8 a0g_9 a0g_10 : Value) (a0_2 : Nat) (a0_7 : Nat) (a0_7_0 : Int32) (a0_7g_1 a0_7g_2 a0_7g_3 a0_7g_4 a0_7g_5 a0_7g_6 a0_7g_7 a0_7g_8 a0_7g_9 a0_7g_10 a0_7g_11 a0_7g_12 a0_7g_13 a0_7g_14 : Value) (a0_2g_0 a0_2g_1 a0_2g_2 a0_2g_4 a0_2g_6 : Value) (a0_2_3 : Int32) (a0_2_5 : Nat) (ka0_2_5 : ClassId) (fa0_2_5 : Nat → Int32) (ba0_7_0_l : (0 : Int) ≤ a0_7_0.toInt) (ba0_7_0_u : a0_7_0.toInt ≤ (9 : Int)) : zm l yX7_crowdAt wsX7_crowdAt ({ frames := 2, cells := 0, slots := 0, locals := 42 }) [.ref a0, .int a1] dC dI sz [(a0, .inr (7, [a0g_0, a0g_1, .ref a0_2, a0g_3, a0g_4, a0g_5, a0g_6, .ref a0_7, a0g_8, a0g_9, a0g_10])), (a0_7, .inr (0, [.int a0_7_0, a0_7g_1, a0_7g_2, a0_7g_3, a0_7g_4, a0_7g_5, a0_7g_6, a0_7g_7, a0_7g_8, a0_7g_9, a0_7g_10, a0_7g_11, a0_7g_12, a0_7g_13, a0_7g_14])), (a0_2, .inr (5, [a0_2g_0, a0_2g_1, a0_2g_2, .int a0_2_3, a0_2g_4, .ref a0_2_5, a0_2g_6])), (a0_2_5, .inl (ka0_2_5, 9, .inl (fa0_2_5)))] [(ka0_2_5, .int)] (fun A U => va_Nw (.methodLinkNest RX5 38 yX7_hasBit RX7) U) (fun A => va_Qi (fun (r : Int32) (_ : Unit) => True) (fun (_ : Unit) (t : State) => ax_B dC dI A [(a0, .inr (7, [a0g_0, a0g_1, .ref a0_2, a0g_3, a0g_4, a0g_5, a0g_6, .ref a0_7, a0g_8, a0g_9, a0g_10])), (a0_7, .inr (0, [.int a0_7_0, a0_7g_1, a0_7g_2, a0_7g_3, a0_7g_4, a0_7g_5, a0_7g_6, a0_7g_7, a0_7g_8, a0_7g_9, a0_7g_10, a0_7g_11, a0_7g_12, a0_7g_13, a0_7g_14])), (a0_2, .inr (5, [a0_2g_0, a0_2g_1, a0_2g_2, .int a0_2_3, a0_2g_4, .ref a0_2_5, a0_2g_6])), (a0_2_5, .inl (ka0_2_5, 9, .inl (fa0_2_5)))] [(ka0_2_5, .int)] t) A) := by
  refine zh (cc := cX7_crowdAt) (maxL := 4) (ret := (some .int)) zn_RX7 rfl (Nat.le_of_ble_eq_true rfl) (fun p e s m below meth c A ls hx hb hml hr hts (hown : s.vm.findClass RX7 = some m.cls) hlocks hA hS hP hK hD hE (hl : lv_has ls 4 [(0, .ref a0), (1, .int a1)]) => ?_)
  have hE0 := hE
  refine ai_open (fun K hK0 => ?_)
  refine (hK0 _ _ _).mpr ?_
  refine lv_iconst (v := 0) hx hb dX7_crowdAt_0 zk_iconst_0 ?_
  refine lv_istore_n (lv' := [(2, .int 0), (0, .ref a0), (1, .int a1)]) hx hb dX7_crowdAt_1 rfl hl (by decide) rfl (fun ls hl => ?_)
  refine lv_iconst (v := 0) hx hb dX7_crowdAt_2 zk_iconst_0 ?_
  refine lv_istore_n (lv' := [(3, .int 0), (2, .int 0), (0, .ref a0), (1, .int a1)]) hx hb dX7_crowdAt_3 rfl hl (by decide) rfl (fun ls hl => ?_)
  have J4 : ∀ (n : Nat) (j4l3 : Int32) (j4l2 : Int32) (H : Heap) (locs : List Loc) (ls : Array Slot), (10 : Int) - j4l3.toInt ≤ (n : Int) → (0 : Int) ≤ j4l3.toInt → j4l3.toInt ≤ (9 : Int) → va_P (dC, dI) vwCl [(a0, .inr (7, [a0g_0, a0g_1, .ref a0_2, a0g_3, a0g_4, a0g_5, a0g_6, .ref a0_7, a0g_8, a0g_9, a0g_10])), (a0_7, .inr (0, [.int a0_7_0, a0_7g_1, a0_7g_2, a0_7g_3, a0_7g_4, a0_7g_5, a0_7g_6, a0_7g_7, a0_7g_8, a0_7g_9, a0_7g_10, a0_7g_11, a0_7g_12, a0_7g_13, a0_7g_14])), (a0_2, .inr (5, [a0_2g_0, a0_2g_1, a0_2g_2, .int a0_2_3, a0_2g_4, .ref a0_2_5, a0_2g_6])), (a0_2_5, .inl (ka0_2_5, 9, .inl (fa0_2_5)))] H → va_D A [(a0, .inr (7, [a0g_0, a0g_1, .ref a0_2, a0g_3, a0g_4, a0g_5, a0g_6, .ref a0_7, a0g_8, a0g_9, a0g_10])), (a0_7, .inr (0, [.int a0_7_0, a0_7g_1, a0_7g_2, a0_7g_3, a0_7g_4, a0_7g_5, a0_7g_6, a0_7g_7, a0_7g_8, a0_7g_9, a0_7g_10, a0_7g_11, a0_7g_12, a0_7g_13, a0_7g_14])), (a0_2, .inr (5, [a0_2g_0, a0_2g_1, a0_2g_2, .int a0_2_3, a0_2g_4, .ref a0_2_5, a0_2g_6])), (a0_2_5, .inl (ka0_2_5, 9, .inl (fa0_2_5)))] → va_S A s.heap H locs → lv_has ls 4 [(0, .ref a0), (1, .int a1), (2, .int j4l2), (3, .int j4l3)] → K H locs (F0 m 4 ls []) := by
    intro n
    induction n with
    | zero =>
      intro j4l3 j4l2 H locs ls hm bj4l3_l bj4l3_u hP hD hS hl
      first | exact zg_0 hm bj4l3_u (by decide) | (have h8 := ai_min j4l3; have h9 := ai_max j4l3; exact absurd hm (by omega))
    | succ n ih4 =>
      intro j4l3 j4l2 H locs ls hm bj4l3_l bj4l3_u hP hD hS hl
      refine (hK0 _ _ _).mpr ?_
      have hm4 := hm
      refine lv_iload_n hx hb dX7_crowdAt_4 rfl (lv_at hl 3 rfl) ?_
      refine lv_aload_n hx hb dX7_crowdAt_5 rfl (lv_at hl 0 rfl) ?_
      refine va_get (D := (dC, dI)) (ci := 7) (v := .ref a0_7) (C := RX7) (T := TX7) (N := 11) hx hb hts zi_X7_crowdAt_7 hown hK hP 0 rfl rfl 7 (by decide) (hts (.fieldLink RX7 57 "WaxTurns" "hall" "LWaxTurns$Hall;") (List.mem_cons_of_mem _ (List.mem_append_left _ (List.mem_append_left _ (List.mem_append_left _ (List.mem_of_getElem? (i := 0) rfl)))))) (fun _ h9 => h9) rfl dX7_crowdAt_6 ?_
      refine va_get (D := (dC, dI)) (ci := 0) (v := .int a0_7_0) (C := RX0) (T := TX0) (N := 15) hx hb hts zi_X7_crowdAt_0 hown hK hP 1 rfl rfl 0 (by decide) (hts (.fieldLink RX7 110 "WaxTurns$Hall" "figures" "I") (List.mem_cons_of_mem _ (List.mem_append_left _ (List.mem_append_left _ (List.mem_append_left _ (List.mem_of_getElem? (i := 1) rfl)))))) (fun _ h9 => h9) rfl dX7_crowdAt_9 ?_
      refine lv_icmp_ge (tgt := 48) hx hb dX7_crowdAt_12 (by decide) (fun c12 => ?_) (fun c12 => ?_)
      · have gc12 := ai_le c12
        have u12t_a0_7_0 : a0_7_0.toInt ≤ (9 : Int) := ba0_7_0_u
        have l12t_j4l3 : (0 : Int) ≤ j4l3.toInt := bj4l3_l
        refine lv_iload_n hx hb dX7_crowdAt_48 rfl (lv_at hl 2 rfl) ?_
        exact W.iret (v := j4l2) hx hb hr (fun t ht hW => ⟨⟨j4l2, (), rfl, trivial, by rw [ht]; exact hP, va_K.moved hW.alike hK, hD⟩, hS.F ht⟩) hS.2.2 dX7_crowdAt_49
      · have gc12 := ai_nle c12
        have u12f_j4l3 : j4l3.toInt ≤ (8 : Int) := ai_lthi gc12 ba0_7_0_u
        have l12f_a0_7_0 : (1 : Int) ≤ a0_7_0.toInt := ai_ltlo gc12 bj4l3_l
        refine lv_aload_n hx hb dX7_crowdAt_15 rfl (lv_at hl 0 rfl) ?_
        refine va_get (D := (dC, dI)) (ci := 7) (v := .ref a0_2) (C := RX7) (T := TX7) (N := 11) hx hb hts zi_X7_crowdAt_7 hown hK hP 0 rfl rfl 2 (by decide) (hts (.fieldLink RX7 23 "WaxTurns" "ahead" "LWaxTurns$Scene;") (List.mem_cons_of_mem _ (List.mem_append_left _ (List.mem_append_left _ (List.mem_append_left _ (List.mem_of_getElem? (i := 2) rfl)))))) (fun _ h9 => h9) rfl dX7_crowdAt_16 ?_
        refine lv_iload_n hx hb dX7_crowdAt_19 rfl (lv_at hl 3 rfl) ?_
        refine zc_cutc (wc := [(a0_2, .inr (5, [a0_2g_0, a0_2g_1, a0_2g_2, .int a0_2_3, a0_2g_4, .ref a0_2_5, a0_2g_6]))]) hP hD hS hA [2] (by decide +kernel) rfl (fun hPc hDc hFc hCc => ?_)
        have hKc := zp_K hK
        refine va_calli (va_runV (As := [.int j4l3]) (rest := []) ⟨hx, hb, hml, hown, hts⟩ (c_X5_isGone l dC dI H.size a0_2 j4l3 a0_2g_0 a0_2g_1 a0_2g_2 a0_2g_4 (.ref a0_2_5) a0_2g_6 a0_2_3 ) (cwV 1 hts gX7_crowdAt_X5_isGone rfl rfl rfl zd_X5_isGone ⟨Nat.le_of_ble_eq_true rfl, Nat.le_of_ble_eq_true rfl⟩) ⟨ax_blind (fun _ _ _ _ hq => va_Nw.same rfl rfl (hq)), zr_5 hKc hPc (q0 := 0) rfl, ax_pre hPc hKc hDc (fun _ hW => va_Nw.warmM hW hE0)⟩ rfl rfl hl.1 rfl (lv_room (Nat.le_of_ble_eq_true rfl)) dX7_crowdAt_20 ⟨Nat.le_of_ble_eq_true rfl, Nat.le_of_ble_eq_true rfl⟩) hS (fun q _ h => hFc q h) hFc (fun r20 u t H locs ht hvm hw hB hz1 hk1 hS1 => zo hB ht hS1 (fun hP1 hK1 hD1 hS => ?_))
        refine zc_backc (w := [(a0, .inr (7, [a0g_0, a0g_1, .ref a0_2, a0g_3, a0g_4, a0g_5, a0g_6, .ref a0_7, a0g_8, a0g_9, a0g_10])), (a0_7, .inr (0, [.int a0_7_0, a0_7g_1, a0_7g_2, a0_7g_3, a0_7g_4, a0_7g_5, a0_7g_6, a0_7g_7, a0_7g_8, a0_7g_9, a0_7g_10, a0_7g_11, a0_7g_12, a0_7g_13, a0_7g_14])), (a0_2, .inr (5, [a0_2g_0, a0_2g_1, a0_2g_2, .int a0_2_3, a0_2g_4, .ref a0_2_5, a0_2g_6])), (a0_2_5, .inl (ka0_2_5, 9, .inl (fa0_2_5)))]) hP hD hCc hk1 hFc hP1 hD1 [.inl 0, .inl 1, .inr 0, .inl 3] (by decide +kernel) rfl (fun hP hD => ?_)
        rcases hw with hw | hw
        · subst hw
          refine lv_if_ne (tgt := 42) hx hb dX7_crowdAt_23 (by decide) (fun _ => ?_) (fun c23 => absurd c23 (by decide +kernel))
          have J42 : ∀ (j42l2 : Int32) (H : Heap) (locs : List Loc) (ls : Array Slot), va_P (dC, dI) vwCl [(a0, .inr (7, [a0g_0, a0g_1, .ref a0_2, a0g_3, a0g_4, a0g_5, a0g_6, .ref a0_7, a0g_8, a0g_9, a0g_10])), (a0_7, .inr (0, [.int a0_7_0, a0_7g_1, a0_7g_2, a0_7g_3, a0_7g_4, a0_7g_5, a0_7g_6, a0_7g_7, a0_7g_8, a0_7g_9, a0_7g_10, a0_7g_11, a0_7g_12, a0_7g_13, a0_7g_14])), (a0_2, .inr (5, [a0_2g_0, a0_2g_1, a0_2g_2, .int a0_2_3, a0_2g_4, .ref a0_2_5, a0_2g_6])), (a0_2_5, .inl (ka0_2_5, 9, .inl (fa0_2_5)))] H → va_D A [(a0, .inr (7, [a0g_0, a0g_1, .ref a0_2, a0g_3, a0g_4, a0g_5, a0g_6, .ref a0_7, a0g_8, a0g_9, a0g_10])), (a0_7, .inr (0, [.int a0_7_0, a0_7g_1, a0_7g_2, a0_7g_3, a0_7g_4, a0_7g_5, a0_7g_6, a0_7g_7, a0_7g_8, a0_7g_9, a0_7g_10, a0_7g_11, a0_7g_12, a0_7g_13, a0_7g_14])), (a0_2, .inr (5, [a0_2g_0, a0_2g_1, a0_2g_2, .int a0_2_3, a0_2g_4, .ref a0_2_5, a0_2g_6])), (a0_2_5, .inl (ka0_2_5, 9, .inl (fa0_2_5)))] → va_S A s.heap H locs → lv_has ls 4 [(0, .ref a0), (1, .int a1), (2, .int j42l2), (3, .int j4l3)] → K H locs (F0 m 42 ls []) := by
            intro j42l2 H locs ls   hP hD hS hl
            refine (hK0 _ _ _).mpr ?_
            obtain ⟨x42, ex42⟩ : ∃ y : Int32, y = j4l3 + Int32.ofInt 1 := ⟨_, rfl⟩
            have qx42 : x42.toInt = j4l3.toInt + 1 := ai_inc ex42 (by decide) (by decide) u12f_j4l3 (by decide)
            have bx42 : (1 : Int) ≤ x42.toInt ∧ x42.toInt ≤ 9 := ⟨by rw [qx42]; exact Int.add_le_add bj4l3_l (Int.le_refl _), by rw [qx42]; exact Int.add_le_add u12f_j4l3 (Int.le_refl _)⟩
            refine lv_iinc (v := x42) (lv' := [(3, .int x42), (0, .ref a0), (1, .int a1), (2, .int j42l2)]) hx hb dX7_crowdAt_42 hl (k := 3) rfl ex42.symm (by decide) rfl (fun ls hl => ?_)
            refine lv_goto (tgt := 4) hx hb dX7_crowdAt_45 (by decide) ?_
            exact (hK0 _ _ _).mp (ih4 x42 j42l2 _ _ _ (by first | exact zg_s hm4 qx42 | (have h0 := qx42; omega)) (Int.le_trans zq4 bx42.1) bx42.2 hP hD hS (lv_sub hl [1, 2, 3, 0] rfl))
          exact (hK0 _ _ _).mp (J42 j4l2 _ _ _   hP hD hS (lv_sub hl [0, 1, 2, 3] rfl))
        · subst hw
          refine lv_if_ne (tgt := 42) hx hb dX7_crowdAt_23 (by decide) (fun c23 => absurd (by decide +kernel) c23) (fun _ => ?_)
          have J42 : ∀ (j42l2 : Int32) (H : Heap) (locs : List Loc) (ls : Array Slot), va_P (dC, dI) vwCl [(a0, .inr (7, [a0g_0, a0g_1, .ref a0_2, a0g_3, a0g_4, a0g_5, a0g_6, .ref a0_7, a0g_8, a0g_9, a0g_10])), (a0_7, .inr (0, [.int a0_7_0, a0_7g_1, a0_7g_2, a0_7g_3, a0_7g_4, a0_7g_5, a0_7g_6, a0_7g_7, a0_7g_8, a0_7g_9, a0_7g_10, a0_7g_11, a0_7g_12, a0_7g_13, a0_7g_14])), (a0_2, .inr (5, [a0_2g_0, a0_2g_1, a0_2g_2, .int a0_2_3, a0_2g_4, .ref a0_2_5, a0_2g_6])), (a0_2_5, .inl (ka0_2_5, 9, .inl (fa0_2_5)))] H → va_D A [(a0, .inr (7, [a0g_0, a0g_1, .ref a0_2, a0g_3, a0g_4, a0g_5, a0g_6, .ref a0_7, a0g_8, a0g_9, a0g_10])), (a0_7, .inr (0, [.int a0_7_0, a0_7g_1, a0_7g_2, a0_7g_3, a0_7g_4, a0_7g_5, a0_7g_6, a0_7g_7, a0_7g_8, a0_7g_9, a0_7g_10, a0_7g_11, a0_7g_12, a0_7g_13, a0_7g_14])), (a0_2, .inr (5, [a0_2g_0, a0_2g_1, a0_2g_2, .int a0_2_3, a0_2g_4, .ref a0_2_5, a0_2g_6])), (a0_2_5, .inl (ka0_2_5, 9, .inl (fa0_2_5)))] → va_S A s.heap H locs → lv_has ls 4 [(0, .ref a0), (1, .int a1), (2, .int j42l2), (3, .int j4l3)] → K H locs (F0 m 42 ls []) := by
            intro j42l2 H locs ls   hP hD hS hl
            refine (hK0 _ _ _).mpr ?_
            obtain ⟨x42, ex42⟩ : ∃ y : Int32, y = j4l3 + Int32.ofInt 1 := ⟨_, rfl⟩
            have qx42 : x42.toInt = j4l3.toInt + 1 := ai_inc ex42 (by decide) (by decide) u12f_j4l3 (by decide)
            have bx42 : (1 : Int) ≤ x42.toInt ∧ x42.toInt ≤ 9 := ⟨by rw [qx42]; exact Int.add_le_add bj4l3_l (Int.le_refl _), by rw [qx42]; exact Int.add_le_add u12f_j4l3 (Int.le_refl _)⟩
            refine lv_iinc (v := x42) (lv' := [(3, .int x42), (0, .ref a0), (1, .int a1), (2, .int j42l2)]) hx hb dX7_crowdAt_42 hl (k := 3) rfl ex42.symm (by decide) rfl (fun ls hl => ?_)
            refine lv_goto (tgt := 4) hx hb dX7_crowdAt_45 (by decide) ?_
            exact (hK0 _ _ _).mp (ih4 x42 j42l2 _ _ _ (by first | exact zg_s hm4 qx42 | (have h0 := qx42; omega)) (Int.le_trans zq4 bx42.1) bx42.2 hP hD hS (lv_sub hl [1, 2, 3, 0] rfl))
          refine lv_aload_n hx hb dX7_crowdAt_26 rfl (lv_at hl 0 rfl) ?_
          refine va_get (D := (dC, dI)) (ci := 7) (v := .ref a0_2) (C := RX7) (T := TX7) (N := 11) hx hb hts zi_X7_crowdAt_7 hown hK hP 0 rfl rfl 2 (by decide) (hts (.fieldLink RX7 23 "WaxTurns" "ahead" "LWaxTurns$Scene;") (List.mem_cons_of_mem _ (List.mem_append_left _ (List.mem_append_left _ (List.mem_append_left _ (List.mem_of_getElem? (i := 2) rfl)))))) (fun _ h9 => h9) rfl dX7_crowdAt_27 ?_
          refine va_get (D := (dC, dI)) (ci := 5) (v := .ref a0_2_5) (C := RX5) (T := TX5) (N := 7) hx hb hts zi_X7_crowdAt_5 hown hK hP 2 rfl rfl 5 (by decide) (hts (.fieldLink RX7 126 "WaxTurns$Scene" "places" "[I") (List.mem_cons_of_mem _ (List.mem_append_left _ (List.mem_append_left _ (List.mem_append_left _ (List.mem_of_getElem? (i := 3) rfl)))))) (fun _ h9 => h9) rfl dX7_crowdAt_30 ?_
          refine lv_iload_n hx hb dX7_crowdAt_33 rfl (lv_at hl 3 rfl) ?_
          refine va_iald hx hb hK hP 3 0 rfl rfl (ai_in bj4l3_l u12f_j4l3 (by decide) (by decide)) dX7_crowdAt_34 ?_
          refine lv_topi (fun x34 ex34 => ?_)
          refine lv_iload_n hx hb dX7_crowdAt_35 rfl (lv_at hl 1 rfl) ?_
          refine lv_icmp_ne (tgt := 42) hx hb dX7_crowdAt_36 (by decide) (fun c36 => ?_) (fun c36 => ?_)
          · have gc36 := ai_ne c36
            exact (hK0 _ _ _).mp (J42 j4l2 _ _ _   hP hD hS (lv_sub hl [0, 1, 2, 3] rfl))
          · have gc36 := ai_eq c36
            obtain ⟨x39, ex39⟩ : ∃ y : Int32, y = j4l2 + Int32.ofInt 1 := ⟨_, rfl⟩
            refine lv_iinc (v := x39) (lv' := [(2, .int x39), (0, .ref a0), (1, .int a1), (3, .int j4l3)]) hx hb dX7_crowdAt_39 hl (k := 2) rfl ex39.symm (by decide) rfl (fun ls hl => ?_)
            exact (hK0 _ _ _).mp (J42 x39 _ _ _   hP hD hS (lv_sub hl [1, 2, 0, 3] rfl))
  exact (hK0 _ _ _).mp (J4 10 0 0 _ _ _ (by first | decide +kernel | (have h1 : (0 : Int) ≤ (0 : Int32).toInt := zq5; have h2 : (0 : Int32).toInt ≤ (0 : Int) := zq6; omega)) zq5 (Int.le_trans zq6 zq7) hP hD hS (lv_sub hl [2, 3, 1, 0] rfl))

set_option maxHeartbeats 4000000 in
set_option maxRecDepth 100000 in
theorem c_X7_planRoutes (l : Launch) (dC : Nat → ClassId) (dI : Nat → Nat → Nat) (sz : Nat) (a0 : Nat) (a1 : Int32) (a0g_0 a0g_3 a0g_4 a0g_5 a0g_8 a0g_9 a0g_10 : Value) (a0_1 : Nat) (a0_2 : Nat) (a0_6 : Nat) (a0_7 : Nat) (a0_2_0 : Int32) (a0_2_1 : Int32) (a0_2_2 : Int32) (a0_2_3 : Int32) (a0_2_4 : Int32) (a0_2_5 : Nat) (a0_2_6 : Nat) (a0_1_0 : Int32) (a0_1_1 : Int32) (a0_1_2 : Int32) (a0_1_3 : Int32) (a0_1_4 : Int32) (a0_1_5 : Nat) (a0_1_6 : Nat) (ka0_1_5 : ClassId) (fa0_1_5 : Nat → Int32) (ka0_2_5 : ClassId) (fa0_2_5 : Nat → Int32) (ka0_1_6 : ClassId) (fa0_1_6 : Nat → Int32) (ka0_2_6 : ClassId) (fa0_2_6 : Nat → Int32) (a0_7_0 : Int32) (a0_7_1 : Int32) (a0_7_2 : Int32) (a0_7g_3 a0_7g_4 a0_7g_7 a0_7g_8 a0_7g_9 a0_7g_12 a0_7g_13 : Value) (a0_7_5 : Int32) (a0_7_6 : Int32) (a0_7_10 : Nat) (a0_7_11 : Nat) (a0_7_14 : Nat) (a0_6_0 : Int32) (a0_6_1 : Nat) (a0_6_2 : Nat) (ka0_6_2 : ClassId) (fa0_6_2 : Nat → Int32) (ka0_6_1 : ClassId) (fa0_6_1 : Nat → Int32) (ka0_7_10 : ClassId) (fa0_7_10 : Nat → Int32) (ka0_7_11 : ClassId) (fa0_7_11 : Nat → Int32) (a0_7_14_0 : Int32) (a0_7_14_1 : Int32) (a0_7_14_2 : Nat) (a0_7_14_3 : Nat) (ka0_7_14_3 : ClassId) (fa0_7_14_3 : Nat → Int32) (ka0_7_14_2 : ClassId) (fa0_7_14_2 : Nat → Int32) (ba1_l : (0 : Int) ≤ a1.toInt) (ba1_u : a1.toInt ≤ (60 : Int)) (ba0_2_1_l : (0 : Int) ≤ a0_2_1.toInt) (ba0_2_1_u : a0_2_1.toInt ≤ (8 : Int)) (ba0_1_1_l : (0 : Int) ≤ a0_1_1.toInt) (ba0_1_1_u : a0_1_1.toInt ≤ (8 : Int)) (ba0_7_0_l : (0 : Int) ≤ a0_7_0.toInt) (ba0_7_0_u : a0_7_0.toInt ≤ (9 : Int)) (ba0_7_5_l : (0 : Int) ≤ a0_7_5.toInt) (ba0_7_5_u : a0_7_5.toInt ≤ (8 : Int)) (ba0_7_6_l : (0 : Int) ≤ a0_7_6.toInt) (ba0_7_6_u : a0_7_6.toInt ≤ (8 : Int)) (ba0_6_0_l : (0 : Int) ≤ a0_6_0.toInt) (ba0_6_0_u : a0_6_0.toInt ≤ (9 : Int)) (ba0_7_14_0_l : (0 : Int) ≤ a0_7_14_0.toInt) (ba0_7_14_0_u : a0_7_14_0.toInt ≤ (3 : Int)) (bfa0_7_14_3 : (∀ k, (0 : Int) ≤ (fa0_7_14_3 k).toInt ∧ (fa0_7_14_3 k).toInt ≤ 80)) (bfa0_7_14_2 : (∀ k, (0 : Int) ≤ (fa0_7_14_2 k).toInt ∧ (fa0_7_14_2 k).toInt ≤ 80)) : zm l yX7_planRoutes wsX7_planRoutes ({ frames := 5, cells := 0, slots := 0, locals := 119 }) [.ref a0, .int a1] dC dI sz [(a0, .inr (7, [a0g_0, .ref a0_1, .ref a0_2, a0g_3, a0g_4, a0g_5, .ref a0_6, .ref a0_7, a0g_8, a0g_9, a0g_10])), (a0_2, .inr (5, [.int a0_2_0, .int a0_2_1, .int a0_2_2, .int a0_2_3, .int a0_2_4, .ref a0_2_5, .ref a0_2_6])), (a0_1, .inr (5, [.int a0_1_0, .int a0_1_1, .int a0_1_2, .int a0_1_3, .int a0_1_4, .ref a0_1_5, .ref a0_1_6])), (a0_1_5, .inl (ka0_1_5, 9, .inl (fa0_1_5))), (a0_2_5, .inl (ka0_2_5, 9, .inl (fa0_2_5))), (a0_1_6, .inl (ka0_1_6, 9, .inl (fa0_1_6))), (a0_2_6, .inl (ka0_2_6, 9, .inl (fa0_2_6))), (a0_7, .inr (0, [.int a0_7_0, .int a0_7_1, .int a0_7_2, a0_7g_3, a0_7g_4, .int a0_7_5, .int a0_7_6, a0_7g_7, a0_7g_8, a0_7g_9, .ref a0_7_10, .ref a0_7_11, a0_7g_12, a0_7g_13, .ref a0_7_14])), (a0_6, .inr (4, [.int a0_6_0, .ref a0_6_1, .ref a0_6_2])), (a0_6_2, .inl (ka0_6_2, 549, .inl (fa0_6_2))), (a0_6_1, .inl (ka0_6_1, 61, .inl (fa0_6_1))), (a0_7_10, .inl (ka0_7_10, 9, .inl (fa0_7_10))), (a0_7_11, .inl (ka0_7_11, 9, .inl (fa0_7_11))), (a0_7_14, .inr (6, [.int a0_7_14_0, .int a0_7_14_1, .ref a0_7_14_2, .ref a0_7_14_3])), (a0_7_14_3, .inl (ka0_7_14_3, 3, .inl (fa0_7_14_3))), (a0_7_14_2, .inl (ka0_7_14_2, 3, .inl (fa0_7_14_2)))] [(ka0_1_5, .int), (ka0_2_5, .int), (ka0_1_6, .int), (ka0_2_6, .int), (ka0_6_2, .int), (ka0_6_1, .int), (ka0_7_10, .int), (ka0_7_11, .int), (ka0_7_14_3, .int), (ka0_7_14_2, .int)] (fun A U => va_Nw (.methodLinkNest RX0 118 yX7_within RX7) U ∧ va_Nw (.methodLinkNest RX5 38 yX7_hasBit RX7) U ∧ va_Nw (.methodLinkNest RX0 129 yX7_hasBit RX7) U ∧ va_Nw (.methodLinkNest RX4 18 yX7_within RX7) U) (fun A => va_Qv (fun (_ : Unit) => True) (fun (_ : Unit) (t : State) => ∃ na0_2_0 : Int32, ∃ na0_2_1 : Int32, ∃ na0_2_2 : Int32, ∃ na0_2_3 : Int32, ∃ na0_2_4 : Int32, ∃ nfa0_2_5 : Nat → Int32, ∃ nfa0_2_6 : Nat → Int32, ∃ na0_6_0 : Int32, ∃ nfa0_6_2 : Nat → Int32, ∃ nfa0_6_1 : Nat → Int32, ((0 : Int) ≤ na0_2_1.toInt ∧ na0_2_1.toInt ≤ 8) ∧ ((0 : Int) ≤ na0_6_0.toInt ∧ na0_6_0.toInt ≤ 9) ∧ ax_B dC dI A [(a0, .inr (7, [a0g_0, .ref a0_1, .ref a0_2, a0g_3, a0g_4, a0g_5, .ref a0_6, .ref a0_7, a0g_8, a0g_9, a0g_10])), (a0_2, .inr (5, [.int na0_2_0, .int na0_2_1, .int na0_2_2, .int na0_2_3, .int na0_2_4, .ref a0_2_5, .ref a0_2_6])), (a0_1, .inr (5, [.int a0_1_0, .int a0_1_1, .int a0_1_2, .int a0_1_3, .int a0_1_4, .ref a0_1_5, .ref a0_1_6])), (a0_1_5, .inl (ka0_1_5, 9, .inl (fa0_1_5))), (a0_2_5, .inl (ka0_2_5, 9, .inl (nfa0_2_5))), (a0_1_6, .inl (ka0_1_6, 9, .inl (fa0_1_6))), (a0_2_6, .inl (ka0_2_6, 9, .inl (nfa0_2_6))), (a0_7, .inr (0, [.int a0_7_0, .int a0_7_1, .int a0_7_2, a0_7g_3, a0_7g_4, .int a0_7_5, .int a0_7_6, a0_7g_7, a0_7g_8, a0_7g_9, .ref a0_7_10, .ref a0_7_11, a0_7g_12, a0_7g_13, .ref a0_7_14])), (a0_6, .inr (4, [.int na0_6_0, .ref a0_6_1, .ref a0_6_2])), (a0_6_2, .inl (ka0_6_2, 549, .inl (nfa0_6_2))), (a0_6_1, .inl (ka0_6_1, 61, .inl (nfa0_6_1))), (a0_7_10, .inl (ka0_7_10, 9, .inl (fa0_7_10))), (a0_7_11, .inl (ka0_7_11, 9, .inl (fa0_7_11))), (a0_7_14, .inr (6, [.int a0_7_14_0, .int a0_7_14_1, .ref a0_7_14_2, .ref a0_7_14_3])), (a0_7_14_3, .inl (ka0_7_14_3, 3, .inl (fa0_7_14_3))), (a0_7_14_2, .inl (ka0_7_14_2, 3, .inl (fa0_7_14_2)))] [(ka0_1_5, .int), (ka0_2_5, .int), (ka0_1_6, .int), (ka0_2_6, .int), (ka0_6_2, .int), (ka0_6_1, .int), (ka0_7_10, .int), (ka0_7_11, .int), (ka0_7_14_3, .int), (ka0_7_14_2, .int)] t) A) := by
  refine zh (cc := cX7_planRoutes) (maxL := 3) (ret := none) zn_RX7 rfl (Nat.le_of_ble_eq_true rfl) (fun p e s m below meth c A ls hx hb hml hr hts (hown : s.vm.findClass RX7 = some m.cls) hlocks hA hS hP hK hD hE (hl : lv_has ls 3 [(0, .ref a0), (1, .int a1)]) => ?_)
  obtain ⟨hE0, hE1, hE2, hE3⟩ := hE
  refine ai_open (fun K hK0 => ?_)
  refine (hK0 _ _ _).mpr ?_
  refine lv_aload_n hx hb dX7_planRoutes_0 rfl (lv_at hl 0 rfl) ?_
  refine va_get (D := (dC, dI)) (ci := 7) (v := .ref a0_2) (C := RX7) (T := TX7) (N := 11) hx hb hts zi_X7_planRoutes_7 hown hK hP 0 rfl rfl 2 (by decide) (hts (.fieldLink RX7 23 "WaxTurns" "ahead" "LWaxTurns$Scene;") (zm_X7_planRoutes_r1 (List.mem_of_getElem? (i := 0) rfl))) (fun _ h9 => h9) rfl dX7_planRoutes_1 ?_
  refine lv_aload_n hx hb dX7_planRoutes_4 rfl (lv_at hl 0 rfl) ?_
  refine va_get (D := (dC, dI)) (ci := 7) (v := .ref a0_1) (C := RX7) (T := TX7) (N := 11) hx hb hts zi_X7_planRoutes_7 hown hK hP 0 rfl rfl 1 (by decide) (hts (.fieldLink RX7 19 "WaxTurns" "now" "LWaxTurns$Scene;") (zm_X7_planRoutes_r1 (List.mem_of_getElem? (i := 1) rfl))) (fun _ h9 => h9) rfl dX7_planRoutes_5 ?_
  refine zc_cutc (wc := [(a0_2, .inr (5, [.int a0_2_0, .int a0_2_1, .int a0_2_2, .int a0_2_3, .int a0_2_4, .ref a0_2_5, .ref a0_2_6])), (a0_1, .inr (5, [.int a0_1_0, .int a0_1_1, .int a0_1_2, .int a0_1_3, .int a0_1_4, .ref a0_1_5, .ref a0_1_6])), (a0_1_5, .inl (ka0_1_5, 9, .inl (fa0_1_5))), (a0_2_5, .inl (ka0_2_5, 9, .inl (fa0_2_5))), (a0_1_6, .inl (ka0_1_6, 9, .inl (fa0_1_6))), (a0_2_6, .inl (ka0_2_6, 9, .inl (fa0_2_6)))]) hP hD hS hA [1, 2, 3, 4, 5, 6] (by decide +kernel) rfl (fun hPc hDc hFc hCc => ?_)
  have hKc := hK.sub (tys' := [(ka0_1_5, .int), (ka0_2_5, .int), (ka0_1_6, .int), (ka0_2_6, .int)]) [0, 1, 2, 3] rfl
  refine va_callv (va_runV (As := [.ref a0_1]) (rest := []) ⟨hx, hb, hml, hown, hts⟩ (c_X5_copyFrom l dC dI s.heap.size a0_2 a0_1 a0_2_0 a0_2_1 a0_2_2 a0_2_3 a0_2_4 a0_2_5 a0_2_6 a0_1_0 a0_1_1 a0_1_2 a0_1_3 a0_1_4 a0_1_5 a0_1_6 ka0_1_5 fa0_1_5 ka0_2_5 fa0_2_5 ka0_1_6 fa0_1_6 ka0_2_6 fa0_2_6 ba0_2_1_l ba0_2_1_u ba0_1_1_l ba0_1_1_u) (cwV 1 hts gX7_planRoutes_X5_copyFrom rfl rfl rfl zd_X5_copyFrom ⟨Nat.le_of_ble_eq_true rfl, Nat.le_of_ble_eq_true rfl⟩) ⟨ax_blind (fun _ _ _ _ _ => trivial), zr_5 hKc hPc (q0 := 0) rfl, ax_pre hPc hKc hDc (fun _ _ => trivial)⟩ rfl rfl hl.1 rfl (lv_room (Nat.le_of_ble_eq_true rfl)) dX7_planRoutes_8 ⟨Nat.le_of_ble_eq_true rfl, Nat.le_of_ble_eq_true rfl⟩) hS (fun q _ h => hFc q h) hFc (fun u t H locs ht hvm hw => zx_7 (fun v8na0_0 v8na0_1 v8na0_2 v8na0_3 v8na0_4 v8nfa0_5 v8nfa0_6 => zy_1 (fun bv8na0_1 hB hz1 hk1 hS1 => zo hB ht hS1 (fun hP1 hK1 hD1 hS => ?_))))
  refine zc_backc (w := [(a0, .inr (7, [a0g_0, .ref a0_1, .ref a0_2, a0g_3, a0g_4, a0g_5, .ref a0_6, .ref a0_7, a0g_8, a0g_9, a0g_10])), (a0_2, .inr (5, [.int v8na0_0, .int v8na0_1, .int v8na0_2, .int v8na0_3, .int v8na0_4, .ref a0_2_5, .ref a0_2_6])), (a0_1, .inr (5, [.int a0_1_0, .int a0_1_1, .int a0_1_2, .int a0_1_3, .int a0_1_4, .ref a0_1_5, .ref a0_1_6])), (a0_1_5, .inl (ka0_1_5, 9, .inl (fa0_1_5))), (a0_2_5, .inl (ka0_2_5, 9, .inl (v8nfa0_5))), (a0_1_6, .inl (ka0_1_6, 9, .inl (fa0_1_6))), (a0_2_6, .inl (ka0_2_6, 9, .inl (v8nfa0_6))), (a0_7, .inr (0, [.int a0_7_0, .int a0_7_1, .int a0_7_2, a0_7g_3, a0_7g_4, .int a0_7_5, .int a0_7_6, a0_7g_7, a0_7g_8, a0_7g_9, .ref a0_7_10, .ref a0_7_11, a0_7g_12, a0_7g_13, .ref a0_7_14])), (a0_6, .inr (4, [.int a0_6_0, .ref a0_6_1, .ref a0_6_2])), (a0_6_2, .inl (ka0_6_2, 549, .inl (fa0_6_2))), (a0_6_1, .inl (ka0_6_1, 61, .inl (fa0_6_1))), (a0_7_10, .inl (ka0_7_10, 9, .inl (fa0_7_10))), (a0_7_11, .inl (ka0_7_11, 9, .inl (fa0_7_11))), (a0_7_14, .inr (6, [.int a0_7_14_0, .int a0_7_14_1, .ref a0_7_14_2, .ref a0_7_14_3])), (a0_7_14_3, .inl (ka0_7_14_3, 3, .inl (fa0_7_14_3))), (a0_7_14_2, .inl (ka0_7_14_2, 3, .inl (fa0_7_14_2)))]) hP hD hCc hk1 hFc hP1 hD1 [.inl 0, .inr 0, .inr 1, .inr 2, .inr 3, .inr 4, .inr 5, .inl 7, .inl 8, .inl 9, .inl 10, .inl 11, .inl 12, .inl 13, .inl 14, .inl 15] (by decide +kernel) rfl (fun hP hD => ?_)
  refine lv_iconst (v := 1) hx hb dX7_planRoutes_11 zk_iconst_1 ?_
  refine lv_istore_n (lv' := [(2, .int 1), (0, .ref a0), (1, .int a1)]) hx hb dX7_planRoutes_12 rfl hl (by decide) rfl (fun ls hl => ?_)
  have J13 : ∀ (n : Nat) (j13l2 : Int32) (j13a0_2_0 : Int32) (j13a0_2_1 : Int32) (j13a0_2_2 : Int32) (j13a0_2_3 : Int32) (j13a0_2_4 : Int32) (j13a0_2_5_a : Nat → Int32) (j13a0_2_6_a : Nat → Int32) (j13a0_6_1_a : Nat → Int32) (H : Heap) (locs : List Loc) (ls : Array Slot), (81 : Int) - j13l2.toInt ≤ (n : Int) → (1 : Int) ≤ j13l2.toInt → j13l2.toInt ≤ (80 : Int) → (0 : Int) ≤ j13a0_2_1.toInt → j13a0_2_1.toInt ≤ (8 : Int) → va_P (dC, dI) vwCl [(a0, .inr (7, [a0g_0, .ref a0_1, .ref a0_2, a0g_3, a0g_4, a0g_5, .ref a0_6, .ref a0_7, a0g_8, a0g_9, a0g_10])), (a0_2, .inr (5, [.int j13a0_2_0, .int j13a0_2_1, .int j13a0_2_2, .int j13a0_2_3, .int j13a0_2_4, .ref a0_2_5, .ref a0_2_6])), (a0_1, .inr (5, [.int a0_1_0, .int a0_1_1, .int a0_1_2, .int a0_1_3, .int a0_1_4, .ref a0_1_5, .ref a0_1_6])), (a0_1_5, .inl (ka0_1_5, 9, .inl (fa0_1_5))), (a0_2_5, .inl (ka0_2_5, 9, .inl (j13a0_2_5_a))), (a0_1_6, .inl (ka0_1_6, 9, .inl (fa0_1_6))), (a0_2_6, .inl (ka0_2_6, 9, .inl (j13a0_2_6_a))), (a0_7, .inr (0, [.int a0_7_0, .int a0_7_1, .int a0_7_2, a0_7g_3, a0_7g_4, .int a0_7_5, .int a0_7_6, a0_7g_7, a0_7g_8, a0_7g_9, .ref a0_7_10, .ref a0_7_11, a0_7g_12, a0_7g_13, .ref a0_7_14])), (a0_6, .inr (4, [.int a0_6_0, .ref a0_6_1, .ref a0_6_2])), (a0_6_2, .inl (ka0_6_2, 549, .inl (fa0_6_2))), (a0_6_1, .inl (ka0_6_1, 61, .inl (j13a0_6_1_a))), (a0_7_10, .inl (ka0_7_10, 9, .inl (fa0_7_10))), (a0_7_11, .inl (ka0_7_11, 9, .inl (fa0_7_11))), (a0_7_14, .inr (6, [.int a0_7_14_0, .int a0_7_14_1, .ref a0_7_14_2, .ref a0_7_14_3])), (a0_7_14_3, .inl (ka0_7_14_3, 3, .inl (fa0_7_14_3))), (a0_7_14_2, .inl (ka0_7_14_2, 3, .inl (fa0_7_14_2)))] H → va_D A [(a0, .inr (7, [a0g_0, .ref a0_1, .ref a0_2, a0g_3, a0g_4, a0g_5, .ref a0_6, .ref a0_7, a0g_8, a0g_9, a0g_10])), (a0_2, .inr (5, [.int j13a0_2_0, .int j13a0_2_1, .int j13a0_2_2, .int j13a0_2_3, .int j13a0_2_4, .ref a0_2_5, .ref a0_2_6])), (a0_1, .inr (5, [.int a0_1_0, .int a0_1_1, .int a0_1_2, .int a0_1_3, .int a0_1_4, .ref a0_1_5, .ref a0_1_6])), (a0_1_5, .inl (ka0_1_5, 9, .inl (fa0_1_5))), (a0_2_5, .inl (ka0_2_5, 9, .inl (j13a0_2_5_a))), (a0_1_6, .inl (ka0_1_6, 9, .inl (fa0_1_6))), (a0_2_6, .inl (ka0_2_6, 9, .inl (j13a0_2_6_a))), (a0_7, .inr (0, [.int a0_7_0, .int a0_7_1, .int a0_7_2, a0_7g_3, a0_7g_4, .int a0_7_5, .int a0_7_6, a0_7g_7, a0_7g_8, a0_7g_9, .ref a0_7_10, .ref a0_7_11, a0_7g_12, a0_7g_13, .ref a0_7_14])), (a0_6, .inr (4, [.int a0_6_0, .ref a0_6_1, .ref a0_6_2])), (a0_6_2, .inl (ka0_6_2, 549, .inl (fa0_6_2))), (a0_6_1, .inl (ka0_6_1, 61, .inl (j13a0_6_1_a))), (a0_7_10, .inl (ka0_7_10, 9, .inl (fa0_7_10))), (a0_7_11, .inl (ka0_7_11, 9, .inl (fa0_7_11))), (a0_7_14, .inr (6, [.int a0_7_14_0, .int a0_7_14_1, .ref a0_7_14_2, .ref a0_7_14_3])), (a0_7_14_3, .inl (ka0_7_14_3, 3, .inl (fa0_7_14_3))), (a0_7_14_2, .inl (ka0_7_14_2, 3, .inl (fa0_7_14_2)))] → va_S A s.heap H locs → lv_has ls 3 [(0, .ref a0), (1, .int a1), (2, .int j13l2)] → K H locs (F0 m 13 ls []) := by
    intro n
    induction n with
    | zero =>
      intro j13l2 j13a0_2_0 j13a0_2_1 j13a0_2_2 j13a0_2_3 j13a0_2_4 j13a0_2_5_a j13a0_2_6_a j13a0_6_1_a H locs ls hm bj13l2_l bj13l2_u bj13a0_2_1_l bj13a0_2_1_u hP hD hS hl
      first | exact zg_0 hm bj13l2_u (by decide) | (have h8 := ai_min j13l2; have h9 := ai_max j13l2; exact absurd hm (by omega))
    | succ n ih13 =>
      intro j13l2 j13a0_2_0 j13a0_2_1 j13a0_2_2 j13a0_2_3 j13a0_2_4 j13a0_2_5_a j13a0_2_6_a j13a0_6_1_a H locs ls hm bj13l2_l bj13l2_u bj13a0_2_1_l bj13a0_2_1_u hP hD hS hl
      refine (hK0 _ _ _).mpr ?_
      have hm13 := hm
      refine lv_iload_n hx hb dX7_planRoutes_13 rfl (lv_at hl 2 rfl) ?_
      refine lv_iload_n hx hb dX7_planRoutes_14 rfl (lv_at hl 1 rfl) ?_
      refine lv_icmp_gt (tgt := 36) hx hb dX7_planRoutes_15 (by decide) (fun c15 => ?_) (fun c15 => ?_)
      · have gc15 := ai_lt c15
        have u15t_a1 : a1.toInt ≤ (60 : Int) := ba1_u
        have l15t_j13l2 : (1 : Int) ≤ j13l2.toInt := bj13l2_l
        refine lv_aload_n hx hb dX7_planRoutes_36 rfl (lv_at hl 0 rfl) ?_
        refine va_get (D := (dC, dI)) (ci := 7) (v := .ref a0_6) (C := RX7) (T := TX7) (N := 11) hx hb hts zi_X7_planRoutes_7 hown hK hP 0 rfl rfl 6 (by decide) (hts (.fieldLink RX7 50 "WaxTurns" "routes" "LWaxTurns$Routes;") (zm_X7_planRoutes_r1 (List.mem_of_getElem? (i := 2) rfl))) (fun _ h9 => h9) rfl dX7_planRoutes_37 ?_
        refine lv_iload_n hx hb dX7_planRoutes_40 rfl (lv_at hl 1 rfl) ?_
        refine lv_aload_n hx hb dX7_planRoutes_41 rfl (lv_at hl 0 rfl) ?_
        refine va_get (D := (dC, dI)) (ci := 7) (v := .ref a0_7) (C := RX7) (T := TX7) (N := 11) hx hb hts zi_X7_planRoutes_7 hown hK hP 0 rfl rfl 7 (by decide) (hts (.fieldLink RX7 57 "WaxTurns" "hall" "LWaxTurns$Hall;") (zm_X7_planRoutes_r1 (List.mem_of_getElem? (i := 3) rfl))) (fun _ h9 => h9) rfl dX7_planRoutes_42 ?_
        refine va_get (D := (dC, dI)) (ci := 0) (v := .int a0_7_0) (C := RX0) (T := TX0) (N := 15) hx hb hts zi_X7_planRoutes_0 hown hK hP 7 rfl rfl 0 (by decide) (hts (.fieldLink RX7 110 "WaxTurns$Hall" "figures" "I") (zm_X7_planRoutes_r1 (List.mem_of_getElem? (i := 4) rfl))) (fun _ h9 => h9) rfl dX7_planRoutes_45 ?_
        refine zc_cutc (wc := [(a0_6, .inr (4, [.int a0_6_0, .ref a0_6_1, .ref a0_6_2])), (a0_6_2, .inl (ka0_6_2, 549, .inl (fa0_6_2))), (a0_6_1, .inl (ka0_6_1, 61, .inl (j13a0_6_1_a)))]) hP hD hS hA [8, 9, 10] (by decide +kernel) rfl (fun hPc hDc hFc hCc => ?_)
        have hKc := hK.sub (tys' := [(ka0_6_2, .int), (ka0_6_1, .int)]) [4, 5] rfl
        refine va_callv (va_runV (As := [.int a1, .int a0_7_0]) (rest := []) ⟨hx, hb, hml, hown, hts⟩ (c_X4_weigh l dC dI H.size a0_6 a1 a0_7_0 a0_6_0 a0_6_1 a0_6_2 ka0_6_2 fa0_6_2 ka0_6_1 j13a0_6_1_a ba1_l u15t_a1 ba0_7_0_l ba0_7_0_u ba0_6_0_l ba0_6_0_u) (cwV 2 hts gX7_planRoutes_X4_weigh rfl rfl rfl zd_X4_weigh ⟨Nat.le_of_ble_eq_true rfl, Nat.le_of_ble_eq_true rfl⟩) ⟨ax_blind (fun _ _ _ _ _ => trivial), zr_4 hKc hPc (q0 := 0) rfl, ax_pre hPc hKc hDc (fun _ _ => trivial)⟩ rfl rfl hl.1 rfl (lv_room (Nat.le_of_ble_eq_true rfl)) dX7_planRoutes_48 ⟨Nat.le_of_ble_eq_true rfl, Nat.le_of_ble_eq_true rfl⟩) hS (fun q _ h => hFc q h) hFc (fun u t H locs ht hvm hw => zx_2 (fun v48na0_0 v48nfa0_2 => zy_1 (fun bv48na0_0 hB hz1 hk1 hS1 => zo hB ht hS1 (fun hP1 hK1 hD1 hS => ?_))))
        refine zc_backc (w := [(a0, .inr (7, [a0g_0, .ref a0_1, .ref a0_2, a0g_3, a0g_4, a0g_5, .ref a0_6, .ref a0_7, a0g_8, a0g_9, a0g_10])), (a0_2, .inr (5, [.int j13a0_2_0, .int j13a0_2_1, .int j13a0_2_2, .int j13a0_2_3, .int j13a0_2_4, .ref a0_2_5, .ref a0_2_6])), (a0_1, .inr (5, [.int a0_1_0, .int a0_1_1, .int a0_1_2, .int a0_1_3, .int a0_1_4, .ref a0_1_5, .ref a0_1_6])), (a0_1_5, .inl (ka0_1_5, 9, .inl (fa0_1_5))), (a0_2_5, .inl (ka0_2_5, 9, .inl (j13a0_2_5_a))), (a0_1_6, .inl (ka0_1_6, 9, .inl (fa0_1_6))), (a0_2_6, .inl (ka0_2_6, 9, .inl (j13a0_2_6_a))), (a0_7, .inr (0, [.int a0_7_0, .int a0_7_1, .int a0_7_2, a0_7g_3, a0_7g_4, .int a0_7_5, .int a0_7_6, a0_7g_7, a0_7g_8, a0_7g_9, .ref a0_7_10, .ref a0_7_11, a0_7g_12, a0_7g_13, .ref a0_7_14])), (a0_6, .inr (4, [.int v48na0_0, .ref a0_6_1, .ref a0_6_2])), (a0_6_2, .inl (ka0_6_2, 549, .inl (v48nfa0_2))), (a0_6_1, .inl (ka0_6_1, 61, .inl (j13a0_6_1_a))), (a0_7_10, .inl (ka0_7_10, 9, .inl (fa0_7_10))), (a0_7_11, .inl (ka0_7_11, 9, .inl (fa0_7_11))), (a0_7_14, .inr (6, [.int a0_7_14_0, .int a0_7_14_1, .ref a0_7_14_2, .ref a0_7_14_3])), (a0_7_14_3, .inl (ka0_7_14_3, 3, .inl (fa0_7_14_3))), (a0_7_14_2, .inl (ka0_7_14_2, 3, .inl (fa0_7_14_2)))]) hP hD hCc hk1 hFc hP1 hD1 [.inl 0, .inl 1, .inl 2, .inl 3, .inl 4, .inl 5, .inl 6, .inl 7, .inr 0, .inr 1, .inr 2, .inl 11, .inl 12, .inl 13, .inl 14, .inl 15] (by decide +kernel) rfl (fun hP hD => ?_)
        exact W.vret hx hb hr (fun t ht hW => ⟨⟨(), rfl, trivial, j13a0_2_0, j13a0_2_1, j13a0_2_2, j13a0_2_3, j13a0_2_4, j13a0_2_5_a, j13a0_2_6_a, v48na0_0, v48nfa0_2, j13a0_6_1_a, ⟨bj13a0_2_1_l, bj13a0_2_1_u⟩, ⟨bv48na0_0.1, bv48na0_0.2⟩, by rw [ht]; exact hP, va_K.moved hW.alike hK, hD⟩, hS.F ht⟩) hS.2.2 dX7_planRoutes_51
      · have gc15 := ai_nlt c15
        have u15f_j13l2 : j13l2.toInt ≤ (60 : Int) := Int.le_trans gc15 ba1_u
        have l15f_a1 : (1 : Int) ≤ a1.toInt := Int.le_trans bj13l2_l gc15
        refine lv_aload_n hx hb dX7_planRoutes_18 rfl (lv_at hl 0 rfl) ?_
        refine va_get (D := (dC, dI)) (ci := 7) (v := .ref a0_6) (C := RX7) (T := TX7) (N := 11) hx hb hts zi_X7_planRoutes_7 hown hK hP 0 rfl rfl 6 (by decide) (hts (.fieldLink RX7 50 "WaxTurns" "routes" "LWaxTurns$Routes;") (zm_X7_planRoutes_r1 (List.mem_of_getElem? (i := 2) rfl))) (fun _ h9 => h9) rfl dX7_planRoutes_19 ?_
        refine lv_iload_n hx hb dX7_planRoutes_22 rfl (lv_at hl 2 rfl) ?_
        refine lv_aload_n hx hb dX7_planRoutes_23 rfl (lv_at hl 0 rfl) ?_
        refine zc_cutc (wc := [(a0, .inr (7, [a0g_0, .ref a0_1, .ref a0_2, a0g_3, a0g_4, a0g_5, .ref a0_6, .ref a0_7, a0g_8, a0g_9, a0g_10])), (a0_2, .inr (5, [.int j13a0_2_0, .int j13a0_2_1, .int j13a0_2_2, .int j13a0_2_3, .int j13a0_2_4, .ref a0_2_5, .ref a0_2_6])), (a0_7, .inr (0, [.int a0_7_0, .int a0_7_1, .int a0_7_2, a0_7g_3, a0_7g_4, .int a0_7_5, .int a0_7_6, a0_7g_7, a0_7g_8, a0_7g_9, .ref a0_7_10, .ref a0_7_11, a0_7g_12, a0_7g_13, .ref a0_7_14])), (a0_7_10, .inl (ka0_7_10, 9, .inl (fa0_7_10))), (a0_7_11, .inl (ka0_7_11, 9, .inl (fa0_7_11))), (a0_2_5, .inl (ka0_2_5, 9, .inl (j13a0_2_5_a))), (a0_7_14, .inr (6, [.int a0_7_14_0, .int a0_7_14_1, .ref a0_7_14_2, .ref a0_7_14_3])), (a0_7_14_3, .inl (ka0_7_14_3, 3, .inl (fa0_7_14_3))), (a0_7_14_2, .inl (ka0_7_14_2, 3, .inl (fa0_7_14_2))), (a0_2_6, .inl (ka0_2_6, 9, .inl (j13a0_2_6_a)))]) hP hD hS hA [0, 1, 7, 11, 12, 4, 13, 14, 15, 6] (by decide +kernel) rfl (fun hPc hDc hFc hCc => ?_)
        have hKc := hK.sub (tys' := [(ka0_7_10, .int), (ka0_7_11, .int), (ka0_2_5, .int), (ka0_7_14_3, .int), (ka0_7_14_2, .int), (ka0_2_6, .int)]) [6, 7, 1, 8, 9, 3] rfl
        refine va_calli (va_runV (As := []) (rest := [.int j13l2, .ref a0_6]) ⟨hx, hb, hml, hown, hts⟩ (c_X7_placeOfActing l dC dI H.size a0 a0g_0 (.ref a0_1) a0g_3 a0g_4 a0g_5 (.ref a0_6) a0g_8 a0g_9 a0g_10 a0_2 a0_7 j13a0_2_0 j13a0_2_1 j13a0_2_2 j13a0_2_3 j13a0_2_4 a0_2_5 a0_2_6 a0_7_0 a0_7_1 a0_7_2 a0_7g_3 a0_7g_4 a0_7g_7 a0_7g_8 a0_7g_9 a0_7g_12 a0_7g_13 a0_7_5 a0_7_6 a0_7_10 a0_7_11 a0_7_14 ka0_7_10 fa0_7_10 ka0_7_11 fa0_7_11 ka0_2_5 j13a0_2_5_a a0_7_14_0 a0_7_14_1 a0_7_14_2 a0_7_14_3 ka0_7_14_3 fa0_7_14_3 ka0_7_14_2 fa0_7_14_2 ka0_2_6 j13a0_2_6_a bj13a0_2_1_l bj13a0_2_1_u ba0_7_0_l ba0_7_0_u ba0_7_5_l ba0_7_5_u ba0_7_6_l ba0_7_6_u ba0_7_14_0_l ba0_7_14_0_u bfa0_7_14_3 bfa0_7_14_2) (cwV 0 hts gX7_planRoutes_X7_placeOfActing rfl rfl rfl zd_X7_placeOfActing ⟨Nat.le_of_ble_eq_true rfl, Nat.le_of_ble_eq_true rfl⟩) ⟨ax_blind (fun _ _ _ _ hq => ⟨va_Nw.same rfl rfl (hq.1), va_Nw.same rfl rfl (hq.2.1), va_Nw.same rfl rfl (hq.2.2)⟩), zr_7 hKc hPc (q0 := 0) rfl, ax_pre hPc hKc hDc (fun _ hW => ⟨va_Nw.warmM hW hE0, va_Nw.warmM hW hE1, va_Nw.warmM hW hE2⟩)⟩ rfl rfl hl.1 rfl (lv_room (Nat.le_of_ble_eq_true rfl)) dX7_planRoutes_24 ⟨Nat.le_of_ble_eq_true rfl, Nat.le_of_ble_eq_true rfl⟩) hS (fun q _ h => hFc q h) hFc (fun r24 u t H locs ht hvm hw => zx_7 (fun v24na0_2_0 v24na0_2_1 v24na0_2_2 v24na0_2_3 v24na0_2_4 v24nfa0_2_5 v24nfa0_2_6 => zy_1 (fun bv24na0_2_1 hB hz1 hk1 hS1 => zo hB ht hS1 (fun hP1 hK1 hD1 hS => ?_))))
        refine zc_backc (w := [(a0, .inr (7, [a0g_0, .ref a0_1, .ref a0_2, a0g_3, a0g_4, a0g_5, .ref a0_6, .ref a0_7, a0g_8, a0g_9, a0g_10])), (a0_2, .inr (5, [.int v24na0_2_0, .int v24na0_2_1, .int v24na0_2_2, .int v24na0_2_3, .int v24na0_2_4, .ref a0_2_5, .ref a0_2_6])), (a0_1, .inr (5, [.int a0_1_0, .int a0_1_1, .int a0_1_2, .int a0_1_3, .int a0_1_4, .ref a0_1_5, .ref a0_1_6])), (a0_1_5, .inl (ka0_1_5, 9, .inl (fa0_1_5))), (a0_2_5, .inl (ka0_2_5, 9, .inl (v24nfa0_2_5))), (a0_1_6, .inl (ka0_1_6, 9, .inl (fa0_1_6))), (a0_2_6, .inl (ka0_2_6, 9, .inl (v24nfa0_2_6))), (a0_7, .inr (0, [.int a0_7_0, .int a0_7_1, .int a0_7_2, a0_7g_3, a0_7g_4, .int a0_7_5, .int a0_7_6, a0_7g_7, a0_7g_8, a0_7g_9, .ref a0_7_10, .ref a0_7_11, a0_7g_12, a0_7g_13, .ref a0_7_14])), (a0_6, .inr (4, [.int a0_6_0, .ref a0_6_1, .ref a0_6_2])), (a0_6_2, .inl (ka0_6_2, 549, .inl (fa0_6_2))), (a0_6_1, .inl (ka0_6_1, 61, .inl (j13a0_6_1_a))), (a0_7_10, .inl (ka0_7_10, 9, .inl (fa0_7_10))), (a0_7_11, .inl (ka0_7_11, 9, .inl (fa0_7_11))), (a0_7_14, .inr (6, [.int a0_7_14_0, .int a0_7_14_1, .ref a0_7_14_2, .ref a0_7_14_3])), (a0_7_14_3, .inl (ka0_7_14_3, 3, .inl (fa0_7_14_3))), (a0_7_14_2, .inl (ka0_7_14_2, 3, .inl (fa0_7_14_2)))]) hP hD hCc hk1 hFc hP1 hD1 [.inr 0, .inr 1, .inl 2, .inl 3, .inr 5, .inl 5, .inr 9, .inr 2, .inl 8, .inl 9, .inl 10, .inr 3, .inr 4, .inr 6, .inr 7, .inr 8] (by decide +kernel) rfl (fun hP hD => ?_)
        refine zc_cutc (wc := [(a0_6, .inr (4, [.int a0_6_0, .ref a0_6_1, .ref a0_6_2])), (a0_6_1, .inl (ka0_6_1, 61, .inl (j13a0_6_1_a)))]) hP hD hS hA [8, 10] (by decide +kernel) rfl (fun hPc hDc hFc hCc => ?_)
        have hKc := hK.sub (tys' := [(ka0_6_1, .int)]) [5] rfl
        refine va_callv (va_runV (As := [.int j13l2, .int r24]) (rest := []) ⟨hx, hb, hml, hown, hts⟩ (c_X4_aim l dC dI H.size a0_6 j13l2 r24 (.int a0_6_0) (.ref a0_6_2) a0_6_1 ka0_6_1 j13a0_6_1_a ) (cwV 2 hts gX7_planRoutes_X4_aim rfl rfl rfl zd_X4_aim ⟨Nat.le_of_ble_eq_true rfl, Nat.le_of_ble_eq_true rfl⟩) ⟨ax_blind (fun _ _ _ _ hq => va_Nw.same rfl rfl (hq)), zr_4 hKc hPc (q0 := 0) rfl, ax_pre hPc hKc hDc (fun _ hW => va_Nw.warmM hW hE3)⟩ rfl rfl hl.1 rfl (lv_room (Nat.le_of_ble_eq_true rfl)) dX7_planRoutes_27 ⟨Nat.le_of_ble_eq_true rfl, Nat.le_of_ble_eq_true rfl⟩) hS (fun q _ h => hFc q h) hFc (fun u t H locs ht hvm hw => zx_1 (fun v27nfa0_1 hB hz1 hk1 hS1 => zo hB ht hS1 (fun hP1 hK1 hD1 hS => ?_)))
        refine zc_backc (w := [(a0, .inr (7, [a0g_0, .ref a0_1, .ref a0_2, a0g_3, a0g_4, a0g_5, .ref a0_6, .ref a0_7, a0g_8, a0g_9, a0g_10])), (a0_2, .inr (5, [.int v24na0_2_0, .int v24na0_2_1, .int v24na0_2_2, .int v24na0_2_3, .int v24na0_2_4, .ref a0_2_5, .ref a0_2_6])), (a0_1, .inr (5, [.int a0_1_0, .int a0_1_1, .int a0_1_2, .int a0_1_3, .int a0_1_4, .ref a0_1_5, .ref a0_1_6])), (a0_1_5, .inl (ka0_1_5, 9, .inl (fa0_1_5))), (a0_2_5, .inl (ka0_2_5, 9, .inl (v24nfa0_2_5))), (a0_1_6, .inl (ka0_1_6, 9, .inl (fa0_1_6))), (a0_2_6, .inl (ka0_2_6, 9, .inl (v24nfa0_2_6))), (a0_7, .inr (0, [.int a0_7_0, .int a0_7_1, .int a0_7_2, a0_7g_3, a0_7g_4, .int a0_7_5, .int a0_7_6, a0_7g_7, a0_7g_8, a0_7g_9, .ref a0_7_10, .ref a0_7_11, a0_7g_12, a0_7g_13, .ref a0_7_14])), (a0_6, .inr (4, [.int a0_6_0, .ref a0_6_1, .ref a0_6_2])), (a0_6_2, .inl (ka0_6_2, 549, .inl (fa0_6_2))), (a0_6_1, .inl (ka0_6_1, 61, .inl (v27nfa0_1))), (a0_7_10, .inl (ka0_7_10, 9, .inl (fa0_7_10))), (a0_7_11, .inl (ka0_7_11, 9, .inl (fa0_7_11))), (a0_7_14, .inr (6, [.int a0_7_14_0, .int a0_7_14_1, .ref a0_7_14_2, .ref a0_7_14_3])), (a0_7_14_3, .inl (ka0_7_14_3, 3, .inl (fa0_7_14_3))), (a0_7_14_2, .inl (ka0_7_14_2, 3, .inl (fa0_7_14_2)))]) hP hD hCc hk1 hFc hP1 hD1 [.inl 0, .inl 1, .inl 2, .inl 3, .inl 4, .inl 5, .inl 6, .inl 7, .inr 0, .inl 9, .inr 1, .inl 11, .inl 12, .inl 13, .inl 14, .inl 15] (by decide +kernel) rfl (fun hP hD => ?_)
        obtain ⟨x30, ex30⟩ : ∃ y : Int32, y = j13l2 + Int32.ofInt 1 := ⟨_, rfl⟩
        have qx30 : x30.toInt = j13l2.toInt + 1 := ai_inc ex30 (by decide) (by decide) u15f_j13l2 (by decide)
        have bx30 : (2 : Int) ≤ x30.toInt ∧ x30.toInt ≤ 61 := ⟨by rw [qx30]; exact Int.add_le_add bj13l2_l (Int.le_refl _), by rw [qx30]; exact Int.add_le_add u15f_j13l2 (Int.le_refl _)⟩
        refine lv_iinc (v := x30) (lv' := [(2, .int x30), (0, .ref a0), (1, .int a1)]) hx hb dX7_planRoutes_30 hl (k := 2) rfl ex30.symm (by decide) rfl (fun ls hl => ?_)
        refine lv_goto (tgt := 13) hx hb dX7_planRoutes_33 (by decide) ?_
        exact (hK0 _ _ _).mp (ih13 x30 v24na0_2_0 v24na0_2_1 v24na0_2_2 v24na0_2_3 v24na0_2_4 v24nfa0_2_5 v24nfa0_2_6 v27nfa0_1 _ _ _ (by first | exact zg_s hm13 qx30 | (have h0 := qx30; omega)) (Int.le_trans zq54 bx30.1) (Int.le_trans bx30.2 zq61) bv24na0_2_1.1 bv24na0_2_1.2 hP hD hS (lv_sub hl [1, 2, 0] rfl))
  exact (hK0 _ _ _).mp (J13 80 1 v8na0_0 v8na0_1 v8na0_2 v8na0_3 v8na0_4 v8nfa0_5 v8nfa0_6 fa0_6_1 _ _ _ (by first | decide +kernel | (have h1 : (1 : Int) ≤ (1 : Int32).toInt := zq1; have h2 : (1 : Int32).toInt ≤ (1 : Int) := zq0; omega)) zq1 (Int.le_trans zq0 zq62) bv8na0_1.1 bv8na0_1.2 hP hD hS (lv_sub hl [1, 2, 0] rfl))
end P106_safe
section P107_safe
set_option maxHeartbeats 4000000 in
set_option maxRecDepth 100000 in
theorem c_X7_postsHold (l : Launch) (dC : Nat → ClassId) (dI : Nat → Nat → Nat) (sz : Nat) (a0 : Nat) (a1 : Int32) (a2 : Int32) (a0g_0 a0g_4 a0g_5 a0g_6 a0g_8 a0g_9 a0g_10 : Value) (a0_1 : Nat) (a0_2 : Nat) (a0_3 : Nat) (a0_7 : Nat) (a0_3_0 : Int32) (a0_3_1 : Int32) (a0_3_2 : Nat) (a0_3_3 : Nat) (a0_2_0 : Int32) (a0_2_1 : Int32) (a0_2_2 : Int32) (a0_2_3 : Int32) (a0_2_4 : Int32) (a0_2_5 : Nat) (a0_2_6 : Nat) (a0_1_0 : Int32) (a0_1_1 : Int32) (a0_1_2 : Int32) (a0_1_3 : Int32) (a0_1_4 : Int32) (a0_1_5 : Nat) (a0_1_6 : Nat) (ka0_1_5 : ClassId) (fa0_1_5 : Nat → Int32) (ka0_2_5 : ClassId) (fa0_2_5 : Nat → Int32) (ka0_1_6 : ClassId) (fa0_1_6 : Nat → Int32) (ka0_2_6 : ClassId) (fa0_2_6 : Nat → Int32) (a0_7_0 : Int32) (a0_7_1 : Int32) (a0_7_2 : Int32) (a0_7g_3 a0_7g_4 a0_7g_7 a0_7g_8 a0_7g_9 a0_7g_12 a0_7g_13 a0_7g_14 : Value) (a0_7_5 : Int32) (a0_7_6 : Int32) (a0_7_10 : Nat) (a0_7_11 : Nat) (ka0_7_10 : ClassId) (fa0_7_10 : Nat → Int32) (ka0_7_11 : ClassId) (fa0_7_11 : Nat → Int32) (ka0_3_3 : ClassId) (fa0_3_3 : Nat → Int32) (ka0_3_2 : ClassId) (fa0_3_2 : Nat → Int32) (ba2_l : (0 : Int) ≤ a2.toInt) (ba2_u : a2.toInt ≤ (60 : Int)) (ba0_3_0_l : (0 : Int) ≤ a0_3_0.toInt) (ba0_3_0_u : a0_3_0.toInt ≤ (3 : Int)) (ba0_2_1_l : (0 : Int) ≤ a0_2_1.toInt) (ba0_2_1_u : a0_2_1.toInt ≤ (8 : Int)) (ba0_1_1_l : (0 : Int) ≤ a0_1_1.toInt) (ba0_1_1_u : a0_1_1.toInt ≤ (8 : Int)) (ba0_7_0_l : (0 : Int) ≤ a0_7_0.toInt) (ba0_7_0_u : a0_7_0.toInt ≤ (9 : Int)) (ba0_7_5_l : (0 : Int) ≤ a0_7_5.toInt) (ba0_7_5_u : a0_7_5.toInt ≤ (8 : Int)) (ba0_7_6_l : (0 : Int) ≤ a0_7_6.toInt) (ba0_7_6_u : a0_7_6.toInt ≤ (8 : Int)) (bfa0_3_3 : (∀ k, (0 : Int) ≤ (fa0_3_3 k).toInt ∧ (fa0_3_3 k).toInt ≤ 80)) (bfa0_3_2 : (∀ k, (0 : Int) ≤ (fa0_3_2 k).toInt ∧ (fa0_3_2 k).toInt ≤ 80)) : zm l yX7_postsHold wsX7_postsHold ({ frames := 5, cells := 0, slots := 0, locals := 122 }) [.ref a0, .int a1, .int a2] dC dI sz [(a0, .inr (7, [a0g_0, .ref a0_1, .ref a0_2, .ref a0_3, a0g_4, a0g_5, a0g_6, .ref a0_7, a0g_8, a0g_9, a0g_10])), (a0_3, .inr (6, [.int a0_3_0, .int a0_3_1, .ref a0_3_2, .ref a0_3_3])), (a0_2, .inr (5, [.int a0_2_0, .int a0_2_1, .int a0_2_2, .int a0_2_3, .int a0_2_4, .ref a0_2_5, .ref a0_2_6])), (a0_1, .inr (5, [.int a0_1_0, .int a0_1_1, .int a0_1_2, .int a0_1_3, .int a0_1_4, .ref a0_1_5, .ref a0_1_6])), (a0_1_5, .inl (ka0_1_5, 9, .inl (fa0_1_5))), (a0_2_5, .inl (ka0_2_5, 9, .inl (fa0_2_5))), (a0_1_6, .inl (ka0_1_6, 9, .inl (fa0_1_6))), (a0_2_6, .inl (ka0_2_6, 9, .inl (fa0_2_6))), (a0_7, .inr (0, [.int a0_7_0, .int a0_7_1, .int a0_7_2, a0_7g_3, a0_7g_4, .int a0_7_5, .int a0_7_6, a0_7g_7, a0_7g_8, a0_7g_9, .ref a0_7_10, .ref a0_7_11, a0_7g_12, a0_7g_13, a0_7g_14])), (a0_7_10, .inl (ka0_7_10, 9, .inl (fa0_7_10))), (a0_7_11, .inl (ka0_7_11, 9, .inl (fa0_7_11))), (a0_3_3, .inl (ka0_3_3, 3, .inl (fa0_3_3))), (a0_3_2, .inl (ka0_3_2, 3, .inl (fa0_3_2)))] [(ka0_1_5, .int), (ka0_2_5, .int), (ka0_1_6, .int), (ka0_2_6, .int), (ka0_7_10, .int), (ka0_7_11, .int), (ka0_3_3, .int), (ka0_3_2, .int)] (fun A U => va_Nw (.methodLinkNest RX0 118 yX7_within RX7) U ∧ va_Nw (.methodLinkNest RX5 38 yX7_hasBit RX7) U ∧ va_Nw (.methodLinkNest RX0 129 yX7_hasBit RX7) U) (fun A => va_Qi (fun (r : Int32) (_ : Unit) => (r = 1) ∨ (r = 0)) (fun (_ : Unit) (t : State) => ∃ na0_3_1 : Int32, ∃ na0_2_0 : Int32, ∃ na0_2_1 : Int32, ∃ na0_2_2 : Int32, ∃ na0_2_3 : Int32, ∃ na0_2_4 : Int32, ∃ nfa0_2_5 : Nat → Int32, ∃ nfa0_2_6 : Nat → Int32, ((0 : Int) ≤ na0_2_1.toInt ∧ na0_2_1.toInt ≤ 8) ∧ ax_B dC dI A [(a0, .inr (7, [a0g_0, .ref a0_1, .ref a0_2, .ref a0_3, a0g_4, a0g_5, a0g_6, .ref a0_7, a0g_8, a0g_9, a0g_10])), (a0_3, .inr (6, [.int a0_3_0, .int na0_3_1, .ref a0_3_2, .ref a0_3_3])), (a0_2, .inr (5, [.int na0_2_0, .int na0_2_1, .int na0_2_2, .int na0_2_3, .int na0_2_4, .ref a0_2_5, .ref a0_2_6])), (a0_1, .inr (5, [.int a0_1_0, .int a0_1_1, .int a0_1_2, .int a0_1_3, .int a0_1_4, .ref a0_1_5, .ref a0_1_6])), (a0_1_5, .inl (ka0_1_5, 9, .inl (fa0_1_5))), (a0_2_5, .inl (ka0_2_5, 9, .inl (nfa0_2_5))), (a0_1_6, .inl (ka0_1_6, 9, .inl (fa0_1_6))), (a0_2_6, .inl (ka0_2_6, 9, .inl (nfa0_2_6))), (a0_7, .inr (0, [.int a0_7_0, .int a0_7_1, .int a0_7_2, a0_7g_3, a0_7g_4, .int a0_7_5, .int a0_7_6, a0_7g_7, a0_7g_8, a0_7g_9, .ref a0_7_10, .ref a0_7_11, a0_7g_12, a0_7g_13, a0_7g_14])), (a0_7_10, .inl (ka0_7_10, 9, .inl (fa0_7_10))), (a0_7_11, .inl (ka0_7_11, 9, .inl (fa0_7_11))), (a0_3_3, .inl (ka0_3_3, 3, .inl (fa0_3_3))), (a0_3_2, .inl (ka0_3_2, 3, .inl (fa0_3_2)))] [(ka0_1_5, .int), (ka0_2_5, .int), (ka0_1_6, .int), (ka0_2_6, .int), (ka0_7_10, .int), (ka0_7_11, .int), (ka0_3_3, .int), (ka0_3_2, .int)] t) A) := by
  refine zh (cc := cX7_postsHold) (maxL := 3) (ret := (some .boolean)) zn_RX7 rfl (Nat.le_of_ble_eq_true rfl) (fun p e s m below meth c A ls hx hb hml hr hts (hown : s.vm.findClass RX7 = some m.cls) hlocks hA hS hP hK hD hE (hl : lv_has ls 3 [(0, .ref a0), (1, .int a1), (2, .int a2)]) => ?_)
  obtain ⟨hE0, hE1, hE2⟩ := hE
  refine lv_aload_n hx hb dX7_postsHold_0 rfl (lv_at hl 0 rfl) ?_
  refine va_get (D := (dC, dI)) (ci := 7) (v := .ref a0_3) (C := RX7) (T := TX7) (N := 11) hx hb hts zi_X7_postsHold_7 hown hK hP 0 rfl rfl 3 (by decide) (hts (.fieldLink RX7 29 "WaxTurns" "trial" "LWaxTurns$Watchers;") (zm_X7_postsHold_r1 (List.mem_of_getElem? (i := 0) rfl))) (fun _ h9 => h9) rfl dX7_postsHold_1 ?_
  refine lv_iload_n hx hb dX7_postsHold_4 rfl (lv_at hl 1 rfl) ?_
  refine va_put (D := (dC, dI)) (ci := 6) (v := .int a1) (ty := .int) (C := RX6) (T := TX6) (N := 4) hx hb hts zi_X7_postsHold_6 tyX6 tyX6_ok nmX6 hown hK hP hD hS 1 rfl rfl 1 (by decide) (hts (.fieldLink RX7 375 "WaxTurns$Watchers" "posts" "I") (zm_X7_postsHold_r1 (List.mem_of_getElem? (i := 1) rfl))) (fun _ h9 => h9) rfl (tyX6_ok 1 (by decide)) rfl rfl (Nat.le_of_ble_eq_true rfl) dX7_postsHold_5 (fun H locs hP hD hS => ?_)
  refine zs_1 (y := (a0_3, .inr (6, [.int a0_3_0, .int a1, .ref a0_3_2, .ref a0_3_3]))) hP hD rfl (fun hP hD => ?_)
  refine lv_aload_n hx hb dX7_postsHold_8 rfl (lv_at hl 0 rfl) ?_
  refine va_get (D := (dC, dI)) (ci := 7) (v := .ref a0_2) (C := RX7) (T := TX7) (N := 11) hx hb hts zi_X7_postsHold_7 hown hK hP 0 rfl rfl 2 (by decide) (hts (.fieldLink RX7 23 "WaxTurns" "ahead" "LWaxTurns$Scene;") (zm_X7_postsHold_r1 (List.mem_of_getElem? (i := 2) rfl))) (fun _ h9 => h9) rfl dX7_postsHold_9 ?_
  refine lv_aload_n hx hb dX7_postsHold_12 rfl (lv_at hl 0 rfl) ?_
  refine va_get (D := (dC, dI)) (ci := 7) (v := .ref a0_1) (C := RX7) (T := TX7) (N := 11) hx hb hts zi_X7_postsHold_7 hown hK hP 0 rfl rfl 1 (by decide) (hts (.fieldLink RX7 19 "WaxTurns" "now" "LWaxTurns$Scene;") (zm_X7_postsHold_r1 (List.mem_of_getElem? (i := 3) rfl))) (fun _ h9 => h9) rfl dX7_postsHold_13 ?_
  refine zc_cutc (wc := [(a0_2, .inr (5, [.int a0_2_0, .int a0_2_1, .int a0_2_2, .int a0_2_3, .int a0_2_4, .ref a0_2_5, .ref a0_2_6])), (a0_1, .inr (5, [.int a0_1_0, .int a0_1_1, .int a0_1_2, .int a0_1_3, .int a0_1_4, .ref a0_1_5, .ref a0_1_6])), (a0_1_5, .inl (ka0_1_5, 9, .inl (fa0_1_5))), (a0_2_5, .inl (ka0_2_5, 9, .inl (fa0_2_5))), (a0_1_6, .inl (ka0_1_6, 9, .inl (fa0_1_6))), (a0_2_6, .inl (ka0_2_6, 9, .inl (fa0_2_6)))]) hP hD hS hA [2, 3, 4, 5, 6, 7] (by decide +kernel) rfl (fun hPc hDc hFc hCc => ?_)
  have hKc := hK.sub (tys' := [(ka0_1_5, .int), (ka0_2_5, .int), (ka0_1_6, .int), (ka0_2_6, .int)]) [0, 1, 2, 3] rfl
  refine va_callv (va_runV (As := [.ref a0_1]) (rest := []) ⟨hx, hb, hml, hown, hts⟩ (c_X5_copyFrom l dC dI H.size a0_2 a0_1 a0_2_0 a0_2_1 a0_2_2 a0_2_3 a0_2_4 a0_2_5 a0_2_6 a0_1_0 a0_1_1 a0_1_2 a0_1_3 a0_1_4 a0_1_5 a0_1_6 ka0_1_5 fa0_1_5 ka0_2_5 fa0_2_5 ka0_1_6 fa0_1_6 ka0_2_6 fa0_2_6 ba0_2_1_l ba0_2_1_u ba0_1_1_l ba0_1_1_u) (cwV 1 hts gX7_postsHold_X5_copyFrom rfl rfl rfl zd_X5_copyFrom ⟨Nat.le_of_ble_eq_true rfl, Nat.le_of_ble_eq_true rfl⟩) ⟨ax_blind (fun _ _ _ _ _ => trivial), zr_5 hKc hPc (q0 := 0) rfl, ax_pre hPc hKc hDc (fun _ _ => trivial)⟩ rfl rfl hl.1 rfl (lv_room (Nat.le_of_ble_eq_true rfl)) dX7_postsHold_16 ⟨Nat.le_of_ble_eq_true rfl, Nat.le_of_ble_eq_true rfl⟩) hS (fun q _ h => hFc q h) hFc (fun u t H locs ht hvm hw => zx_7 (fun v16na0_0 v16na0_1 v16na0_2 v16na0_3 v16na0_4 v16nfa0_5 v16nfa0_6 => zy_1 (fun bv16na0_1 hB hz1 hk1 hS1 => zo hB ht hS1 (fun hP1 hK1 hD1 hS => ?_))))
  refine zc_backc (w := [(a0, .inr (7, [a0g_0, .ref a0_1, .ref a0_2, .ref a0_3, a0g_4, a0g_5, a0g_6, .ref a0_7, a0g_8, a0g_9, a0g_10])), (a0_3, .inr (6, [.int a0_3_0, .int a1, .ref a0_3_2, .ref a0_3_3])), (a0_2, .inr (5, [.int v16na0_0, .int v16na0_1, .int v16na0_2, .int v16na0_3, .int v16na0_4, .ref a0_2_5, .ref a0_2_6])), (a0_1, .inr (5, [.int a0_1_0, .int a0_1_1, .int a0_1_2, .int a0_1_3, .int a0_1_4, .ref a0_1_5, .ref a0_1_6])), (a0_1_5, .inl (ka0_1_5, 9, .inl (fa0_1_5))), (a0_2_5, .inl (ka0_2_5, 9, .inl (v16nfa0_5))), (a0_1_6, .inl (ka0_1_6, 9, .inl (fa0_1_6))), (a0_2_6, .inl (ka0_2_6, 9, .inl (v16nfa0_6))), (a0_7, .inr (0, [.int a0_7_0, .int a0_7_1, .int a0_7_2, a0_7g_3, a0_7g_4, .int a0_7_5, .int a0_7_6, a0_7g_7, a0_7g_8, a0_7g_9, .ref a0_7_10, .ref a0_7_11, a0_7g_12, a0_7g_13, a0_7g_14])), (a0_7_10, .inl (ka0_7_10, 9, .inl (fa0_7_10))), (a0_7_11, .inl (ka0_7_11, 9, .inl (fa0_7_11))), (a0_3_3, .inl (ka0_3_3, 3, .inl (fa0_3_3))), (a0_3_2, .inl (ka0_3_2, 3, .inl (fa0_3_2)))]) hP hD hCc hk1 hFc hP1 hD1 [.inl 0, .inl 1, .inr 0, .inr 1, .inr 2, .inr 3, .inr 4, .inr 5, .inl 8, .inl 9, .inl 10, .inl 11, .inl 12] (by decide +kernel) rfl (fun hP hD => ?_)
  refine lv_aload_n hx hb dX7_postsHold_19 rfl (lv_at hl 0 rfl) ?_
  refine lv_aload_n hx hb dX7_postsHold_20 rfl (lv_at hl 0 rfl) ?_
  refine va_get (D := (dC, dI)) (ci := 7) (v := .ref a0_3) (C := RX7) (T := TX7) (N := 11) hx hb hts zi_X7_postsHold_7 hown hK hP 0 rfl rfl 3 (by decide) (hts (.fieldLink RX7 29 "WaxTurns" "trial" "LWaxTurns$Watchers;") (zm_X7_postsHold_r1 (List.mem_of_getElem? (i := 0) rfl))) (fun _ h9 => h9) rfl dX7_postsHold_21 ?_
  refine lv_iload_n hx hb dX7_postsHold_24 rfl (lv_at hl 2 rfl) ?_
  refine zc_cutc (wc := [(a0, .inr (7, [a0g_0, .ref a0_1, .ref a0_2, .ref a0_3, a0g_4, a0g_5, a0g_6, .ref a0_7, a0g_8, a0g_9, a0g_10])), (a0_2, .inr (5, [.int v16na0_0, .int v16na0_1, .int v16na0_2, .int v16na0_3, .int v16na0_4, .ref a0_2_5, .ref a0_2_6])), (a0_7, .inr (0, [.int a0_7_0, .int a0_7_1, .int a0_7_2, a0_7g_3, a0_7g_4, .int a0_7_5, .int a0_7_6, a0_7g_7, a0_7g_8, a0_7g_9, .ref a0_7_10, .ref a0_7_11, a0_7g_12, a0_7g_13, a0_7g_14])), (a0_7_10, .inl (ka0_7_10, 9, .inl (fa0_7_10))), (a0_7_11, .inl (ka0_7_11, 9, .inl (fa0_7_11))), (a0_2_5, .inl (ka0_2_5, 9, .inl (v16nfa0_5))), (a0_3, .inr (6, [.int a0_3_0, .int a1, .ref a0_3_2, .ref a0_3_3])), (a0_3_3, .inl (ka0_3_3, 3, .inl (fa0_3_3))), (a0_3_2, .inl (ka0_3_2, 3, .inl (fa0_3_2))), (a0_2_6, .inl (ka0_2_6, 9, .inl (v16nfa0_6)))]) hP hD hS hA [0, 2, 8, 9, 10, 5, 1, 11, 12, 7] (by decide +kernel) rfl (fun hPc hDc hFc hCc => ?_)
  have hKc := hK.sub (tys' := [(ka0_7_10, .int), (ka0_7_11, .int), (ka0_2_5, .int), (ka0_3_3, .int), (ka0_3_2, .int), (ka0_2_6, .int)]) [4, 5, 1, 6, 7, 3] rfl
  refine va_calli (va_runV (As := [.ref a0_3, .int a2]) (rest := []) ⟨hx, hb, hml, hown, hts⟩ (c_X7_minutesTillGone l dC dI H.size a0 a0_3 a2 a0g_0 (.ref a0_1) (.ref a0_3) a0g_4 a0g_5 a0g_6 a0g_8 a0g_9 a0g_10 a0_2 a0_7 v16na0_0 v16na0_1 v16na0_2 v16na0_3 v16na0_4 a0_2_5 a0_2_6 a0_7_0 a0_7_1 a0_7_2 a0_7g_3 a0_7g_4 a0_7g_7 a0_7g_8 a0_7g_9 a0_7g_12 a0_7g_13 a0_7g_14 a0_7_5 a0_7_6 a0_7_10 a0_7_11 ka0_7_10 fa0_7_10 ka0_7_11 fa0_7_11 ka0_2_5 v16nfa0_5 a0_3_0 a1 a0_3_2 a0_3_3 ka0_3_3 fa0_3_3 ka0_3_2 fa0_3_2 ka0_2_6 v16nfa0_6 ba2_l (Int.le_trans ba2_u zq63) bv16na0_1.1 bv16na0_1.2 ba0_7_0_l ba0_7_0_u ba0_7_5_l ba0_7_5_u ba0_7_6_l ba0_7_6_u ba0_3_0_l ba0_3_0_u bfa0_3_3 bfa0_3_2) (cwV 2 hts gX7_postsHold_X7_minutesTillGone rfl rfl rfl zd_X7_minutesTillGone ⟨Nat.le_of_ble_eq_true rfl, Nat.le_of_ble_eq_true rfl⟩) ⟨ax_blind (fun _ _ _ _ hq => ⟨va_Nw.same rfl rfl (hq.1), va_Nw.same rfl rfl (hq.2.1), va_Nw.same rfl rfl (hq.2.2)⟩), zr_7 hKc hPc (q0 := 0) rfl, ax_pre hPc hKc hDc (fun _ hW => ⟨va_Nw.warmM hW hE0, va_Nw.warmM hW hE1, va_Nw.warmM hW hE2⟩)⟩ rfl rfl hl.1 rfl (lv_room (Nat.le_of_ble_eq_true rfl)) dX7_postsHold_25 ⟨Nat.le_of_ble_eq_true rfl, Nat.le_of_ble_eq_true rfl⟩) hS (fun q _ h => hFc q h) hFc (fun r25 u t H locs ht hvm hw => zx_7 (fun v25na0_2_0 v25na0_2_1 v25na0_2_2 v25na0_2_3 v25na0_2_4 v25nfa0_2_5 v25nfa0_2_6 => zy_1 (fun bv25na0_2_1 hB hz1 hk1 hS1 => zo hB ht hS1 (fun hP1 hK1 hD1 hS => ?_))))
  refine zc_backc (w := [(a0, .inr (7, [a0g_0, .ref a0_1, .ref a0_2, .ref a0_3, a0g_4, a0g_5, a0g_6, .ref a0_7, a0g_8, a0g_9, a0g_10])), (a0_3, .inr (6, [.int a0_3_0, .int a1, .ref a0_3_2, .ref a0_3_3])), (a0_2, .inr (5, [.int v25na0_2_0, .int v25na0_2_1, .int v25na0_2_2, .int v25na0_2_3, .int v25na0_2_4, .ref a0_2_5, .ref a0_2_6])), (a0_1, .inr (5, [.int a0_1_0, .int a0_1_1, .int a0_1_2, .int a0_1_3, .int a0_1_4, .ref a0_1_5, .ref a0_1_6])), (a0_1_5, .inl (ka0_1_5, 9, .inl (fa0_1_5))), (a0_2_5, .inl (ka0_2_5, 9, .inl (v25nfa0_2_5))), (a0_1_6, .inl (ka0_1_6, 9, .inl (fa0_1_6))), (a0_2_6, .inl (ka0_2_6, 9, .inl (v25nfa0_2_6))), (a0_7, .inr (0, [.int a0_7_0, .int a0_7_1, .int a0_7_2, a0_7g_3, a0_7g_4, .int a0_7_5, .int a0_7_6, a0_7g_7, a0_7g_8, a0_7g_9, .ref a0_7_10, .ref a0_7_11, a0_7g_12, a0_7g_13, a0_7g_14])), (a0_7_10, .inl (ka0_7_10, 9, .inl (fa0_7_10))), (a0_7_11, .inl (ka0_7_11, 9, .inl (fa0_7_11))), (a0_3_3, .inl (ka0_3_3, 3, .inl (fa0_3_3))), (a0_3_2, .inl (ka0_3_2, 3, .inl (fa0_3_2)))]) hP hD hCc hk1 hFc hP1 hD1 [.inr 0, .inr 6, .inr 1, .inl 3, .inl 4, .inr 5, .inl 6, .inr 9, .inr 2, .inr 3, .inr 4, .inr 7, .inr 8] (by decide +kernel) rfl (fun hP hD => ?_)
  have hw : (-2 : Int) ≤ r25.toInt ∧ r25.toInt ≤ (300 : Int) := hw
  obtain ⟨h25_0, h25_1⟩ := hw
  refine lv_bipush (v := (-2)) hx hb dX7_postsHold_28 zk_bipush_n2 ?_
  refine lv_icmp_ne (tgt := 37) hx hb dX7_postsHold_30 (by decide) (fun c30 => ?_) (fun c30 => ?_)
  · have gc30 := ai_ne c30
    have l30t_r25 : (-1 : Int) ≤ r25.toInt := (by first | exact zg_l h25_0 gc30 (by decide) (by decide) | (have h1 := h25_0; have h2 : ((-2) : Int32).toInt = -2 := (by decide); rw [h2] at gc30; omega))
    refine lv_iconst (v := 0) hx hb dX7_postsHold_37 zk_iconst_0 ?_
    exact W.zret (v := 0) hx hb hr rfl (fun t ht hW => ⟨⟨0, (), rfl, (Or.inr (rfl)), a1, v25na0_2_0, v25na0_2_1, v25na0_2_2, v25na0_2_3, v25na0_2_4, v25nfa0_2_5, v25nfa0_2_6, ⟨bv25na0_2_1.1, bv25na0_2_1.2⟩, by rw [ht]; exact hP, va_K.moved hW.alike hK, hD⟩, hS.F ht⟩) hS.2.2 dX7_postsHold_38
  · have gc30 := ai_eq c30
    have u30f_r25 : r25.toInt ≤ (-2 : Int) := Int.le_trans (Int.le_of_eq gc30) zq44
    have l30f_r25 : (-2 : Int) ≤ r25.toInt := h25_0
    refine lv_iconst (v := 1) hx hb dX7_postsHold_33 zk_iconst_1 ?_
    refine lv_goto (tgt := 38) hx hb dX7_postsHold_34 (by decide) ?_
    exact W.zret (v := 1) hx hb hr rfl (fun t ht hW => ⟨⟨1, (), rfl, (Or.inl (rfl)), a1, v25na0_2_0, v25na0_2_1, v25na0_2_2, v25na0_2_3, v25na0_2_4, v25nfa0_2_5, v25nfa0_2_6, ⟨bv25na0_2_1.1, bv25na0_2_1.2⟩, by rw [ht]; exact hP, va_K.moved hW.alike hK, hD⟩, hS.F ht⟩) hS.2.2 dX7_postsHold_38

set_option maxHeartbeats 4000000 in
set_option maxRecDepth 100000 in
theorem c_X7_figureShare (l : Launch) (dC : Nat → ClassId) (dI : Nat → Nat → Nat) (sz : Nat) (a1 : Int32) (a2 : Int32) (a3 : Int32)  : zm l yX7_figureShare wsX7_figureShare ({ frames := 0, cells := 0, slots := 0, locals := 0 }) [.int a1, .int a2, .int a3] dC dI sz [] [] (fun A _ => True) (fun A => va_Qi (fun (r : Int32) (_ : Unit) => True) (fun (_ : Unit) (t : State) => ax_B dC dI A [] [] t) A) := by
  refine zh (cc := cX7_figureShare) (maxL := 3) (ret := (some .int)) zn_RX7 rfl (Nat.le_of_ble_eq_true rfl) (fun p e s m below meth c A ls hx hb hml hr hts (hown : s.vm.findClass RX7 = some m.cls) hlocks hA hS hP hK hD hE (hl : lv_has ls 3 [(0, .int a1), (1, .int a2), (2, .int a3)]) => ?_)
  refine lv_iload_n hx hb dX7_figureShare_0 rfl (lv_at hl 1 rfl) ?_
  refine lv_if_eq (tgt := 15) hx hb dX7_figureShare_1 (by decide) (fun c1 => ?_) (fun c1 => ?_)
  · have gc1 := ai_eq c1
    have u1t_a2 : a2.toInt ≤ (0 : Int) := Int.le_trans (Int.le_of_eq gc1) zq6
    have l1t_a2 : (0 : Int) ≤ a2.toInt := Int.le_trans zq5 (Int.le_of_eq gc1.symm)
    refine lv_iload_n hx hb dX7_figureShare_15 rfl (lv_at hl 2 rfl) ?_
    refine lv_if_eq (tgt := 23) hx hb dX7_figureShare_16 (by decide) (fun c16 => ?_) (fun c16 => ?_)
    · have gc16 := ai_eq c16
      have u16t_a3 : a3.toInt ≤ (0 : Int) := Int.le_trans (Int.le_of_eq gc16) zq6
      have l16t_a3 : (0 : Int) ≤ a3.toInt := Int.le_trans zq5 (Int.le_of_eq gc16.symm)
      refine lv_iconst (v := 0) hx hb dX7_figureShare_23 zk_iconst_0 ?_
      exact W.iret (v := 0) hx hb hr (fun t ht hW => ⟨⟨0, (), rfl, trivial, by rw [ht]; exact hP, va_K.moved hW.alike hK, hD⟩, hS.F ht⟩) hS.2.2 dX7_figureShare_24
    · have gc16 := ai_ne c16
      refine lv_iconst (v := 1) hx hb dX7_figureShare_19 zk_iconst_1 ?_
      refine lv_goto (tgt := 24) hx hb dX7_figureShare_20 (by decide) ?_
      exact W.iret (v := 1) hx hb hr (fun t ht hW => ⟨⟨1, (), rfl, trivial, by rw [ht]; exact hP, va_K.moved hW.alike hK, hD⟩, hS.F ht⟩) hS.2.2 dX7_figureShare_24
  · have gc1 := ai_ne c1
    refine lv_iload_n hx hb dX7_figureShare_4 rfl (lv_at hl 2 rfl) ?_
    refine lv_if_eq (tgt := 13) hx hb dX7_figureShare_5 (by decide) (fun c5 => ?_) (fun c5 => ?_)
    · have gc5 := ai_eq c5
      have u5t_a3 : a3.toInt ≤ (0 : Int) := Int.le_trans (Int.le_of_eq gc5) zq6
      have l5t_a3 : (0 : Int) ≤ a3.toInt := Int.le_trans zq5 (Int.le_of_eq gc5.symm)
      refine lv_iconst (v := 4) hx hb dX7_figureShare_13 zk_iconst_4 ?_
      exact W.iret (v := 4) hx hb hr (fun t ht hW => ⟨⟨4, (), rfl, trivial, by rw [ht]; exact hP, va_K.moved hW.alike hK, hD⟩, hS.F ht⟩) hS.2.2 dX7_figureShare_14
    · have gc5 := ai_ne c5
      refine lv_iload_n hx hb dX7_figureShare_8 rfl (lv_at hl 0 rfl) ?_
      refine lv_ineg hx hb dX7_figureShare_9 ?_
      refine lv_topi (fun x9 ex9 => ?_)
      refine lv_goto (tgt := 14) hx hb dX7_figureShare_10 (by decide) ?_
      exact W.iret (v := x9) hx hb hr (fun t ht hW => ⟨⟨x9, (), rfl, trivial, by rw [ht]; exact hP, va_K.moved hW.alike hK, hD⟩, hS.F ht⟩) hS.2.2 dX7_figureShare_14

set_option maxHeartbeats 4000000 in
set_option maxRecDepth 100000 in
theorem c_X7_attendantShare (l : Launch) (dC : Nat → ClassId) (dI : Nat → Nat → Nat) (sz : Nat) (a1 : Int32) (a2 : Int32)  : zm l yX7_attendantShare wsX7_attendantShare ({ frames := 0, cells := 0, slots := 0, locals := 0 }) [.int a1, .int a2] dC dI sz [] [] (fun A _ => True) (fun A => va_Qi (fun (r : Int32) (_ : Unit) => (r = 3) ∨ (r = 1 ∧ (0 : Int) ≤ a1.toInt ∧ a1.toInt ≤ (0 : Int) ∧ (0 : Int) ≤ a2.toInt ∧ a2.toInt ≤ (0 : Int)) ∨ (r = 0 ∧ (0 : Int) ≤ a2.toInt ∧ a2.toInt ≤ (0 : Int)) ∨ (r = (-1) ∧ (0 : Int) ≤ a1.toInt ∧ a1.toInt ≤ (0 : Int))) (fun (_ : Unit) (t : State) => ax_B dC dI A [] [] t) A) := by
  refine zh (cc := cX7_attendantShare) (maxL := 2) (ret := (some .int)) zn_RX7 rfl (Nat.le_of_ble_eq_true rfl) (fun p e s m below meth c A ls hx hb hml hr hts (hown : s.vm.findClass RX7 = some m.cls) hlocks hA hS hP hK hD hE (hl : lv_has ls 2 [(0, .int a1), (1, .int a2)]) => ?_)
  refine lv_iload_n hx hb dX7_attendantShare_0 rfl (lv_at hl 0 rfl) ?_
  refine lv_if_eq (tgt := 14) hx hb dX7_attendantShare_1 (by decide) (fun c1 => ?_) (fun c1 => ?_)
  · have gc1 := ai_eq c1
    have u1t_a1 : a1.toInt ≤ (0 : Int) := Int.le_trans (Int.le_of_eq gc1) zq6
    have l1t_a1 : (0 : Int) ≤ a1.toInt := Int.le_trans zq5 (Int.le_of_eq gc1.symm)
    refine lv_iload_n hx hb dX7_attendantShare_14 rfl (lv_at hl 1 rfl) ?_
    refine lv_if_eq (tgt := 22) hx hb dX7_attendantShare_15 (by decide) (fun c15 => ?_) (fun c15 => ?_)
    · have gc15 := ai_eq c15
      have u15t_a2 : a2.toInt ≤ (0 : Int) := Int.le_trans (Int.le_of_eq gc15) zq6
      have l15t_a2 : (0 : Int) ≤ a2.toInt := Int.le_trans zq5 (Int.le_of_eq gc15.symm)
      refine lv_iconst (v := 1) hx hb dX7_attendantShare_22 zk_iconst_1 ?_
      exact W.iret (v := 1) hx hb hr (fun t ht hW => ⟨⟨1, (), rfl, (Or.inr (Or.inl ⟨rfl, l1t_a1, u1t_a1, l15t_a2, u15t_a2⟩)), by rw [ht]; exact hP, va_K.moved hW.alike hK, hD⟩, hS.F ht⟩) hS.2.2 dX7_attendantShare_23
    · have gc15 := ai_ne c15
      refine lv_iconst (v := (-1)) hx hb dX7_attendantShare_18 zk_iconst_n1 ?_
      refine lv_goto (tgt := 23) hx hb dX7_attendantShare_19 (by decide) ?_
      exact W.iret (v := (-1)) hx hb hr (fun t ht hW => ⟨⟨(-1), (), rfl, (Or.inr (Or.inr (Or.inr (⟨rfl, l1t_a1, u1t_a1⟩)))), by rw [ht]; exact hP, va_K.moved hW.alike hK, hD⟩, hS.F ht⟩) hS.2.2 dX7_attendantShare_23
  · have gc1 := ai_ne c1
    refine lv_iload_n hx hb dX7_attendantShare_4 rfl (lv_at hl 1 rfl) ?_
    refine lv_if_eq (tgt := 12) hx hb dX7_attendantShare_5 (by decide) (fun c5 => ?_) (fun c5 => ?_)
    · have gc5 := ai_eq c5
      have u5t_a2 : a2.toInt ≤ (0 : Int) := Int.le_trans (Int.le_of_eq gc5) zq6
      have l5t_a2 : (0 : Int) ≤ a2.toInt := Int.le_trans zq5 (Int.le_of_eq gc5.symm)
      refine lv_iconst (v := 0) hx hb dX7_attendantShare_12 zk_iconst_0 ?_
      exact W.iret (v := 0) hx hb hr (fun t ht hW => ⟨⟨0, (), rfl, (Or.inr (Or.inr (Or.inl ⟨rfl, l5t_a2, u5t_a2⟩))), by rw [ht]; exact hP, va_K.moved hW.alike hK, hD⟩, hS.F ht⟩) hS.2.2 dX7_attendantShare_13
    · have gc5 := ai_ne c5
      refine lv_iconst (v := 3) hx hb dX7_attendantShare_8 zk_iconst_3 ?_
      refine lv_goto (tgt := 13) hx hb dX7_attendantShare_9 (by decide) ?_
      exact W.iret (v := 3) hx hb hr (fun t ht hW => ⟨⟨3, (), rfl, (Or.inl (rfl)), by rw [ht]; exact hP, va_K.moved hW.alike hK, hD⟩, hS.F ht⟩) hS.2.2 dX7_attendantShare_13

set_option maxHeartbeats 4000000 in
set_option maxRecDepth 100000 in
theorem c_X7_isRest (l : Launch) (dC : Nat → ClassId) (dI : Nat → Nat → Nat) (sz : Nat) (a1 : Int32) (a2 : Int32) (a3 : Int32)  : zm l yX7_isRest wsX7_isRest ({ frames := 1, cells := 0, slots := 0, locals := 22 }) [.int a1, .int a2, .int a3] dC dI sz [] [] (fun A _ => True) (fun A => va_Qi (fun (r : Int32) (_ : Unit) => (r = 1) ∨ (r = 0)) (fun (_ : Unit) (t : State) => ax_B dC dI A [] [] t) A) := by
  refine zh (cc := cX7_isRest) (maxL := 3) (ret := (some .boolean)) zn_RX7 rfl (Nat.le_of_ble_eq_true rfl) (fun p e s m below meth c A ls hx hb hml hr hts (hown : s.vm.findClass RX7 = some m.cls) hlocks hA hS hP hK hD hE (hl : lv_has ls 3 [(0, .int a1), (1, .int a2), (2, .int a3)]) => ?_)
  refine lv_iload_n hx hb dX7_isRest_0 rfl (lv_at hl 0 rfl) ?_
  refine lv_iload_n hx hb dX7_isRest_1 rfl (lv_at hl 1 rfl) ?_
  refine lv_iload_n hx hb dX7_isRest_2 rfl (lv_at hl 2 rfl) ?_
  refine va_calli (va_runS (As := [.int a1, .int a2, .int a3]) (rest := []) ⟨hx, hb, hml, hown, hts⟩ (c_X7_figureShare l dC dI s.heap.size a1 a2 a3 ) (va_cwS 3 hts gX7_isRest_X7_figureShare rfl rfl rfl zd_X7_figureShare.2 ⟨Nat.le_of_ble_eq_true rfl, Nat.le_of_ble_eq_true rfl⟩) ⟨ax_blind (fun _ _ _ _ _ => trivial), ax_pre (zp_P0 hP) (zp_K hK) (zp_D0 hD) (fun _ _ => trivial)⟩ rfl rfl hl.1 rfl (lv_room (Nat.le_of_ble_eq_true rfl)) dX7_isRest_3 ⟨Nat.le_of_ble_eq_true rfl, Nat.le_of_ble_eq_true rfl⟩) hS (fun q _ h => zp_F0 hD hS hA q h) (zp_F0 hD hS hA) (fun r3 u t H locs ht hvm hw hB hz1 hk1 hS1 => zo0 hB ht hP hD hk1 (zp_F0 hD hS hA) hS1 (fun hP hK1 hD hS => ?_))
  refine lv_iload_n hx hb dX7_isRest_6 rfl (lv_at hl 0 rfl) ?_
  refine lv_iload_n hx hb dX7_isRest_7 rfl (lv_at hl 1 rfl) ?_
  refine lv_if_ne (tgt := 15) hx hb dX7_isRest_8 (by decide) (fun c8 => ?_) (fun c8 => ?_)
  · have gc8 := ai_ne c8
    refine lv_iconst (v := 0) hx hb dX7_isRest_15 zk_iconst_0 ?_
    refine lv_iload_n hx hb dX7_isRest_16 rfl (lv_at hl 2 rfl) ?_
    refine va_calli (va_runS (As := [.int a1, .int 0, .int a3]) (rest := [.int r3]) ⟨hx, hb, hml, hown, hts⟩ (c_X7_figureShare l dC dI H.size a1 0 a3 ) (va_cwS 3 hts gX7_isRest_X7_figureShare rfl rfl rfl zd_X7_figureShare.2 ⟨Nat.le_of_ble_eq_true rfl, Nat.le_of_ble_eq_true rfl⟩) ⟨ax_blind (fun _ _ _ _ _ => trivial), ax_pre (zp_P0 hP) (zp_K hK) (zp_D0 hD) (fun _ _ => trivial)⟩ rfl rfl hl.1 rfl (lv_room (Nat.le_of_ble_eq_true rfl)) dX7_isRest_17 ⟨Nat.le_of_ble_eq_true rfl, Nat.le_of_ble_eq_true rfl⟩) hS (fun q _ h => zp_F0 hD hS hA q h) (zp_F0 hD hS hA) (fun r17 u t H locs ht hvm hw hB hz1 hk1 hS1 => zo0 hB ht hP hD hk1 (zp_F0 hD hS hA) hS1 (fun hP hK1 hD hS => ?_))
    refine lv_icmp_lt (tgt := 48) hx hb dX7_isRest_20 (by decide) (fun c20 => ?_) (fun c20 => ?_)
    · have gc20 := ai_lt c20
      have u20t_r3 : r3.toInt ≤ (2147483646 : Int) := ai_lthi gc20 (ai_max r17)
      have l20t_r17 : (-2147483647 : Int) ≤ r17.toInt := ai_ltlo gc20 (ai_min r3)
      refine lv_iconst (v := 0) hx hb dX7_isRest_48 zk_iconst_0 ?_
      exact W.zret (v := 0) hx hb hr rfl (fun t ht hW => ⟨⟨0, (), rfl, (Or.inr (rfl)), by rw [ht]; exact hP, va_K.moved hW.alike hK, hD⟩, hS.F ht⟩) hS.2.2 dX7_isRest_49
    · have gc20 := ai_nlt c20
      refine lv_iload_n hx hb dX7_isRest_23 rfl (lv_at hl 1 rfl) ?_
      refine lv_iload_n hx hb dX7_isRest_24 rfl (lv_at hl 2 rfl) ?_
      refine va_calli (va_runS (As := [.int a2, .int a3]) (rest := []) ⟨hx, hb, hml, hown, hts⟩ (c_X7_attendantShare l dC dI H.size a2 a3 ) (va_cwS 2 hts gX7_isRest_X7_attendantShare rfl rfl rfl zd_X7_attendantShare.2 ⟨Nat.le_of_ble_eq_true rfl, Nat.le_of_ble_eq_true rfl⟩) ⟨ax_blind (fun _ _ _ _ _ => trivial), ax_pre (zp_P0 hP) (zp_K hK) (zp_D0 hD) (fun _ _ => trivial)⟩ rfl rfl hl.1 rfl (lv_room (Nat.le_of_ble_eq_true rfl)) dX7_isRest_25 ⟨Nat.le_of_ble_eq_true rfl, Nat.le_of_ble_eq_true rfl⟩) hS (fun q _ h => zp_F0 hD hS hA q h) (zp_F0 hD hS hA) (fun r25 u t H locs ht hvm hw hB hz1 hk1 hS1 => zo0 hB ht hP hD hk1 (zp_F0 hD hS hA) hS1 (fun hP hK1 hD hS => ?_))
      rcases hw with hw | hw | hw | hw
      · subst hw
        refine lv_iload_n hx hb dX7_isRest_28 rfl (lv_at hl 1 rfl) ?_
        refine lv_iload_n hx hb dX7_isRest_29 rfl (lv_at hl 2 rfl) ?_
        refine lv_if_ne (tgt := 37) hx hb dX7_isRest_30 (by decide) (fun c30 => ?_) (fun c30 => ?_)
        · have gc30 := ai_ne c30
          refine lv_iconst (v := 0) hx hb dX7_isRest_37 zk_iconst_0 ?_
          refine va_calli (va_runS (As := [.int a2, .int 0]) (rest := [.int 3]) ⟨hx, hb, hml, hown, hts⟩ (c_X7_attendantShare l dC dI H.size a2 0 ) (va_cwS 2 hts gX7_isRest_X7_attendantShare rfl rfl rfl zd_X7_attendantShare.2 ⟨Nat.le_of_ble_eq_true rfl, Nat.le_of_ble_eq_true rfl⟩) ⟨ax_blind (fun _ _ _ _ _ => trivial), ax_pre (zp_P0 hP) (zp_K hK) (zp_D0 hD) (fun _ _ => trivial)⟩ rfl rfl hl.1 rfl (lv_room (Nat.le_of_ble_eq_true rfl)) dX7_isRest_38 ⟨Nat.le_of_ble_eq_true rfl, Nat.le_of_ble_eq_true rfl⟩) hS (fun q _ h => zp_F0 hD hS hA q h) (zp_F0 hD hS hA) (fun r38 u t H locs ht hvm hw hB hz1 hk1 hS1 => zo0 hB ht hP hD hk1 (zp_F0 hD hS hA) hS1 (fun hP hK1 hD hS => ?_))
          rcases hw with hw | hw | hw | hw
          · subst hw
            refine lv_icmp_lt (tgt := 48) hx hb dX7_isRest_41 (by decide) (fun c41 => absurd c41 (by decide +kernel)) (fun _ => ?_)
            refine lv_iconst (v := 1) hx hb dX7_isRest_44 zk_iconst_1 ?_
            refine lv_goto (tgt := 49) hx hb dX7_isRest_45 (by decide) ?_
            exact W.zret (v := 1) hx hb hr rfl (fun t ht hW => ⟨⟨1, (), rfl, (Or.inl (rfl)), by rw [ht]; exact hP, va_K.moved hW.alike hK, hD⟩, hS.F ht⟩) hS.2.2 dX7_isRest_49
          · obtain ⟨hw, h38_0, h38_1, h38_2, h38_3⟩ := hw
            subst hw
            have l38k1_a2 : (0 : Int) ≤ a2.toInt := h38_0
            have u38k1_a2 : a2.toInt ≤ (0 : Int) := h38_1
            refine lv_icmp_lt (tgt := 48) hx hb dX7_isRest_41 (by decide) (fun c41 => absurd c41 (by decide +kernel)) (fun _ => ?_)
            refine lv_iconst (v := 1) hx hb dX7_isRest_44 zk_iconst_1 ?_
            refine lv_goto (tgt := 49) hx hb dX7_isRest_45 (by decide) ?_
            exact W.zret (v := 1) hx hb hr rfl (fun t ht hW => ⟨⟨1, (), rfl, (Or.inl (rfl)), by rw [ht]; exact hP, va_K.moved hW.alike hK, hD⟩, hS.F ht⟩) hS.2.2 dX7_isRest_49
          · obtain ⟨hw, h38_0, h38_1⟩ := hw
            subst hw
            refine lv_icmp_lt (tgt := 48) hx hb dX7_isRest_41 (by decide) (fun c41 => absurd c41 (by decide +kernel)) (fun _ => ?_)
            refine lv_iconst (v := 1) hx hb dX7_isRest_44 zk_iconst_1 ?_
            refine lv_goto (tgt := 49) hx hb dX7_isRest_45 (by decide) ?_
            exact W.zret (v := 1) hx hb hr rfl (fun t ht hW => ⟨⟨1, (), rfl, (Or.inl (rfl)), by rw [ht]; exact hP, va_K.moved hW.alike hK, hD⟩, hS.F ht⟩) hS.2.2 dX7_isRest_49
          · obtain ⟨hw, h38_0, h38_1⟩ := hw
            subst hw
            have l38k3_a2 : (0 : Int) ≤ a2.toInt := h38_0
            have u38k3_a2 : a2.toInt ≤ (0 : Int) := h38_1
            refine lv_icmp_lt (tgt := 48) hx hb dX7_isRest_41 (by decide) (fun c41 => absurd c41 (by decide +kernel)) (fun _ => ?_)
            refine lv_iconst (v := 1) hx hb dX7_isRest_44 zk_iconst_1 ?_
            refine lv_goto (tgt := 49) hx hb dX7_isRest_45 (by decide) ?_
            exact W.zret (v := 1) hx hb hr rfl (fun t ht hW => ⟨⟨1, (), rfl, (Or.inl (rfl)), by rw [ht]; exact hP, va_K.moved hW.alike hK, hD⟩, hS.F ht⟩) hS.2.2 dX7_isRest_49
        · have gc30 := ai_eq c30
          have u30f_a3 : a3.toInt ≤ (0 : Int) := Int.le_trans (Int.le_of_eq gc30) zq6
          have l30f_a3 : (0 : Int) ≤ a3.toInt := Int.le_trans zq5 (Int.le_of_eq gc30.symm)
          refine lv_iconst (v := 1) hx hb dX7_isRest_33 zk_iconst_1 ?_
          refine lv_goto (tgt := 38) hx hb dX7_isRest_34 (by decide) ?_
          refine va_calli (va_runS (As := [.int a2, .int 1]) (rest := [.int 3]) ⟨hx, hb, hml, hown, hts⟩ (c_X7_attendantShare l dC dI H.size a2 1 ) (va_cwS 2 hts gX7_isRest_X7_attendantShare rfl rfl rfl zd_X7_attendantShare.2 ⟨Nat.le_of_ble_eq_true rfl, Nat.le_of_ble_eq_true rfl⟩) ⟨ax_blind (fun _ _ _ _ _ => trivial), ax_pre (zp_P0 hP) (zp_K hK) (zp_D0 hD) (fun _ _ => trivial)⟩ rfl rfl hl.1 rfl (lv_room (Nat.le_of_ble_eq_true rfl)) dX7_isRest_38 ⟨Nat.le_of_ble_eq_true rfl, Nat.le_of_ble_eq_true rfl⟩) hS (fun q _ h => zp_F0 hD hS hA q h) (zp_F0 hD hS hA) (fun r38 u t H locs ht hvm hw hB hz1 hk1 hS1 => zo0 hB ht hP hD hk1 (zp_F0 hD hS hA) hS1 (fun hP hK1 hD hS => ?_))
          rcases hw with hw | hw | hw | hw
          · subst hw
            refine lv_icmp_lt (tgt := 48) hx hb dX7_isRest_41 (by decide) (fun c41 => absurd c41 (by decide +kernel)) (fun _ => ?_)
            refine lv_iconst (v := 1) hx hb dX7_isRest_44 zk_iconst_1 ?_
            refine lv_goto (tgt := 49) hx hb dX7_isRest_45 (by decide) ?_
            exact W.zret (v := 1) hx hb hr rfl (fun t ht hW => ⟨⟨1, (), rfl, (Or.inl (rfl)), by rw [ht]; exact hP, va_K.moved hW.alike hK, hD⟩, hS.F ht⟩) hS.2.2 dX7_isRest_49
          · obtain ⟨hw, h38_0, h38_1, h38_2, h38_3⟩ := hw
            subst hw
            have l38k1_a2 : (0 : Int) ≤ a2.toInt := h38_0
            have u38k1_a2 : a2.toInt ≤ (0 : Int) := h38_1
            exact absurd h38_3 (by decide)
          · obtain ⟨hw, h38_0, h38_1⟩ := hw
            subst hw
            exact absurd h38_1 (by decide)
          · obtain ⟨hw, h38_0, h38_1⟩ := hw
            subst hw
            have l38k3_a2 : (0 : Int) ≤ a2.toInt := h38_0
            have u38k3_a2 : a2.toInt ≤ (0 : Int) := h38_1
            refine lv_icmp_lt (tgt := 48) hx hb dX7_isRest_41 (by decide) (fun c41 => absurd c41 (by decide +kernel)) (fun _ => ?_)
            refine lv_iconst (v := 1) hx hb dX7_isRest_44 zk_iconst_1 ?_
            refine lv_goto (tgt := 49) hx hb dX7_isRest_45 (by decide) ?_
            exact W.zret (v := 1) hx hb hr rfl (fun t ht hW => ⟨⟨1, (), rfl, (Or.inl (rfl)), by rw [ht]; exact hP, va_K.moved hW.alike hK, hD⟩, hS.F ht⟩) hS.2.2 dX7_isRest_49
      · obtain ⟨hw, h25_0, h25_1, h25_2, h25_3⟩ := hw
        subst hw
        have l25k1_a2 : (0 : Int) ≤ a2.toInt := h25_0
        have u25k1_a2 : a2.toInt ≤ (0 : Int) := h25_1
        have l25k1_a3 : (0 : Int) ≤ a3.toInt := h25_2
        have u25k1_a3 : a3.toInt ≤ (0 : Int) := h25_3
        refine lv_iload_n hx hb dX7_isRest_28 rfl (lv_at hl 1 rfl) ?_
        refine lv_iload_n hx hb dX7_isRest_29 rfl (lv_at hl 2 rfl) ?_
        refine lv_if_ne (tgt := 37) hx hb dX7_isRest_30 (by decide) (fun c30 => ?_) (fun c30 => ?_)
        · have gc30 := ai_ne c30
          have l30t_a3 : (1 : Int) ≤ a3.toInt := (by first | exact zg_l l25k1_a3 gc30 (by decide) (by decide) | (have h1 := l25k1_a3; have h2 : (0 : Int32).toInt = 0 := (by decide); rw [h2] at gc30; omega))
          have u30t_a3 : a3.toInt ≤ (-1 : Int) := (by first | exact zg_u u25k1_a3 gc30 (by decide) (by decide) | (have h1 := u25k1_a3; have h2 : (0 : Int32).toInt = 0 := (by decide); rw [h2] at gc30; omega))
          exact absurd (Int.le_trans l30t_a3 u30t_a3) (by decide)
        · have gc30 := ai_eq c30
          have u30f_a3 : a3.toInt ≤ (0 : Int) := u25k1_a3
          have l30f_a3 : (0 : Int) ≤ a3.toInt := l25k1_a3
          refine lv_iconst (v := 1) hx hb dX7_isRest_33 zk_iconst_1 ?_
          refine lv_goto (tgt := 38) hx hb dX7_isRest_34 (by decide) ?_
          refine va_calli (va_runS (As := [.int a2, .int 1]) (rest := [.int 1]) ⟨hx, hb, hml, hown, hts⟩ (c_X7_attendantShare l dC dI H.size a2 1 ) (va_cwS 2 hts gX7_isRest_X7_attendantShare rfl rfl rfl zd_X7_attendantShare.2 ⟨Nat.le_of_ble_eq_true rfl, Nat.le_of_ble_eq_true rfl⟩) ⟨ax_blind (fun _ _ _ _ _ => trivial), ax_pre (zp_P0 hP) (zp_K hK) (zp_D0 hD) (fun _ _ => trivial)⟩ rfl rfl hl.1 rfl (lv_room (Nat.le_of_ble_eq_true rfl)) dX7_isRest_38 ⟨Nat.le_of_ble_eq_true rfl, Nat.le_of_ble_eq_true rfl⟩) hS (fun q _ h => zp_F0 hD hS hA q h) (zp_F0 hD hS hA) (fun r38 u t H locs ht hvm hw hB hz1 hk1 hS1 => zo0 hB ht hP hD hk1 (zp_F0 hD hS hA) hS1 (fun hP hK1 hD hS => ?_))
          rcases hw with hw | hw | hw | hw
          · subst hw
            refine lv_icmp_lt (tgt := 48) hx hb dX7_isRest_41 (by decide) (fun _ => ?_) (fun c41 => absurd (by decide +kernel) c41)
            refine lv_iconst (v := 0) hx hb dX7_isRest_48 zk_iconst_0 ?_
            exact W.zret (v := 0) hx hb hr rfl (fun t ht hW => ⟨⟨0, (), rfl, (Or.inr (rfl)), by rw [ht]; exact hP, va_K.moved hW.alike hK, hD⟩, hS.F ht⟩) hS.2.2 dX7_isRest_49
          · obtain ⟨hw, h38_0, h38_1, h38_2, h38_3⟩ := hw
            subst hw
            have l38k1_a2 : (0 : Int) ≤ a2.toInt := l25k1_a2
            have u38k1_a2 : a2.toInt ≤ (0 : Int) := u25k1_a2
            exact absurd h38_3 (by decide)
          · obtain ⟨hw, h38_0, h38_1⟩ := hw
            subst hw
            exact absurd h38_1 (by decide)
          · obtain ⟨hw, h38_0, h38_1⟩ := hw
            subst hw
            have l38k3_a2 : (0 : Int) ≤ a2.toInt := l25k1_a2
            have u38k3_a2 : a2.toInt ≤ (0 : Int) := u25k1_a2
            refine lv_icmp_lt (tgt := 48) hx hb dX7_isRest_41 (by decide) (fun c41 => absurd c41 (by decide +kernel)) (fun _ => ?_)
            refine lv_iconst (v := 1) hx hb dX7_isRest_44 zk_iconst_1 ?_
            refine lv_goto (tgt := 49) hx hb dX7_isRest_45 (by decide) ?_
            exact W.zret (v := 1) hx hb hr rfl (fun t ht hW => ⟨⟨1, (), rfl, (Or.inl (rfl)), by rw [ht]; exact hP, va_K.moved hW.alike hK, hD⟩, hS.F ht⟩) hS.2.2 dX7_isRest_49
      · obtain ⟨hw, h25_0, h25_1⟩ := hw
        subst hw
        have l25k2_a3 : (0 : Int) ≤ a3.toInt := h25_0
        have u25k2_a3 : a3.toInt ≤ (0 : Int) := h25_1
        refine lv_iload_n hx hb dX7_isRest_28 rfl (lv_at hl 1 rfl) ?_
        refine lv_iload_n hx hb dX7_isRest_29 rfl (lv_at hl 2 rfl) ?_
        refine lv_if_ne (tgt := 37) hx hb dX7_isRest_30 (by decide) (fun c30 => ?_) (fun c30 => ?_)
        · have gc30 := ai_ne c30
          have l30t_a3 : (1 : Int) ≤ a3.toInt := (by first | exact zg_l l25k2_a3 gc30 (by decide) (by decide) | (have h1 := l25k2_a3; have h2 : (0 : Int32).toInt = 0 := (by decide); rw [h2] at gc30; omega))
          have u30t_a3 : a3.toInt ≤ (-1 : Int) := (by first | exact zg_u u25k2_a3 gc30 (by decide) (by decide) | (have h1 := u25k2_a3; have h2 : (0 : Int32).toInt = 0 := (by decide); rw [h2] at gc30; omega))
          exact absurd (Int.le_trans l30t_a3 u30t_a3) (by decide)
        · have gc30 := ai_eq c30
          have u30f_a3 : a3.toInt ≤ (0 : Int) := u25k2_a3
          have l30f_a3 : (0 : Int) ≤ a3.toInt := l25k2_a3
          refine lv_iconst (v := 1) hx hb dX7_isRest_33 zk_iconst_1 ?_
          refine lv_goto (tgt := 38) hx hb dX7_isRest_34 (by decide) ?_
          refine va_calli (va_runS (As := [.int a2, .int 1]) (rest := [.int 0]) ⟨hx, hb, hml, hown, hts⟩ (c_X7_attendantShare l dC dI H.size a2 1 ) (va_cwS 2 hts gX7_isRest_X7_attendantShare rfl rfl rfl zd_X7_attendantShare.2 ⟨Nat.le_of_ble_eq_true rfl, Nat.le_of_ble_eq_true rfl⟩) ⟨ax_blind (fun _ _ _ _ _ => trivial), ax_pre (zp_P0 hP) (zp_K hK) (zp_D0 hD) (fun _ _ => trivial)⟩ rfl rfl hl.1 rfl (lv_room (Nat.le_of_ble_eq_true rfl)) dX7_isRest_38 ⟨Nat.le_of_ble_eq_true rfl, Nat.le_of_ble_eq_true rfl⟩) hS (fun q _ h => zp_F0 hD hS hA q h) (zp_F0 hD hS hA) (fun r38 u t H locs ht hvm hw hB hz1 hk1 hS1 => zo0 hB ht hP hD hk1 (zp_F0 hD hS hA) hS1 (fun hP hK1 hD hS => ?_))
          rcases hw with hw | hw | hw | hw
          · subst hw
            refine lv_icmp_lt (tgt := 48) hx hb dX7_isRest_41 (by decide) (fun _ => ?_) (fun c41 => absurd (by decide +kernel) c41)
            refine lv_iconst (v := 0) hx hb dX7_isRest_48 zk_iconst_0 ?_
            exact W.zret (v := 0) hx hb hr rfl (fun t ht hW => ⟨⟨0, (), rfl, (Or.inr (rfl)), by rw [ht]; exact hP, va_K.moved hW.alike hK, hD⟩, hS.F ht⟩) hS.2.2 dX7_isRest_49
          · obtain ⟨hw, h38_0, h38_1, h38_2, h38_3⟩ := hw
            subst hw
            have l38k1_a2 : (0 : Int) ≤ a2.toInt := h38_0
            have u38k1_a2 : a2.toInt ≤ (0 : Int) := h38_1
            exact absurd h38_3 (by decide)
          · obtain ⟨hw, h38_0, h38_1⟩ := hw
            subst hw
            exact absurd h38_1 (by decide)
          · obtain ⟨hw, h38_0, h38_1⟩ := hw
            subst hw
            have l38k3_a2 : (0 : Int) ≤ a2.toInt := h38_0
            have u38k3_a2 : a2.toInt ≤ (0 : Int) := h38_1
            refine lv_icmp_lt (tgt := 48) hx hb dX7_isRest_41 (by decide) (fun c41 => absurd c41 (by decide +kernel)) (fun _ => ?_)
            refine lv_iconst (v := 1) hx hb dX7_isRest_44 zk_iconst_1 ?_
            refine lv_goto (tgt := 49) hx hb dX7_isRest_45 (by decide) ?_
            exact W.zret (v := 1) hx hb hr rfl (fun t ht hW => ⟨⟨1, (), rfl, (Or.inl (rfl)), by rw [ht]; exact hP, va_K.moved hW.alike hK, hD⟩, hS.F ht⟩) hS.2.2 dX7_isRest_49
      · obtain ⟨hw, h25_0, h25_1⟩ := hw
        subst hw
        have l25k3_a2 : (0 : Int) ≤ a2.toInt := h25_0
        have u25k3_a2 : a2.toInt ≤ (0 : Int) := h25_1
        refine lv_iload_n hx hb dX7_isRest_28 rfl (lv_at hl 1 rfl) ?_
        refine lv_iload_n hx hb dX7_isRest_29 rfl (lv_at hl 2 rfl) ?_
        refine lv_if_ne (tgt := 37) hx hb dX7_isRest_30 (by decide) (fun c30 => ?_) (fun c30 => ?_)
        · have gc30 := ai_ne c30
          refine lv_iconst (v := 0) hx hb dX7_isRest_37 zk_iconst_0 ?_
          refine va_calli (va_runS (As := [.int a2, .int 0]) (rest := [.int (-1)]) ⟨hx, hb, hml, hown, hts⟩ (c_X7_attendantShare l dC dI H.size a2 0 ) (va_cwS 2 hts gX7_isRest_X7_attendantShare rfl rfl rfl zd_X7_attendantShare.2 ⟨Nat.le_of_ble_eq_true rfl, Nat.le_of_ble_eq_true rfl⟩) ⟨ax_blind (fun _ _ _ _ _ => trivial), ax_pre (zp_P0 hP) (zp_K hK) (zp_D0 hD) (fun _ _ => trivial)⟩ rfl rfl hl.1 rfl (lv_room (Nat.le_of_ble_eq_true rfl)) dX7_isRest_38 ⟨Nat.le_of_ble_eq_true rfl, Nat.le_of_ble_eq_true rfl⟩) hS (fun q _ h => zp_F0 hD hS hA q h) (zp_F0 hD hS hA) (fun r38 u t H locs ht hvm hw hB hz1 hk1 hS1 => zo0 hB ht hP hD hk1 (zp_F0 hD hS hA) hS1 (fun hP hK1 hD hS => ?_))
          rcases hw with hw | hw | hw | hw
          · subst hw
            refine lv_icmp_lt (tgt := 48) hx hb dX7_isRest_41 (by decide) (fun _ => ?_) (fun c41 => absurd (by decide +kernel) c41)
            refine lv_iconst (v := 0) hx hb dX7_isRest_48 zk_iconst_0 ?_
            exact W.zret (v := 0) hx hb hr rfl (fun t ht hW => ⟨⟨0, (), rfl, (Or.inr (rfl)), by rw [ht]; exact hP, va_K.moved hW.alike hK, hD⟩, hS.F ht⟩) hS.2.2 dX7_isRest_49
          · obtain ⟨hw, h38_0, h38_1, h38_2, h38_3⟩ := hw
            subst hw
            have l38k1_a2 : (0 : Int) ≤ a2.toInt := l25k3_a2
            have u38k1_a2 : a2.toInt ≤ (0 : Int) := u25k3_a2
            refine lv_icmp_lt (tgt := 48) hx hb dX7_isRest_41 (by decide) (fun _ => ?_) (fun c41 => absurd (by decide +kernel) c41)
            refine lv_iconst (v := 0) hx hb dX7_isRest_48 zk_iconst_0 ?_
            exact W.zret (v := 0) hx hb hr rfl (fun t ht hW => ⟨⟨0, (), rfl, (Or.inr (rfl)), by rw [ht]; exact hP, va_K.moved hW.alike hK, hD⟩, hS.F ht⟩) hS.2.2 dX7_isRest_49
          · obtain ⟨hw, h38_0, h38_1⟩ := hw
            subst hw
            refine lv_icmp_lt (tgt := 48) hx hb dX7_isRest_41 (by decide) (fun _ => ?_) (fun c41 => absurd (by decide +kernel) c41)
            refine lv_iconst (v := 0) hx hb dX7_isRest_48 zk_iconst_0 ?_
            exact W.zret (v := 0) hx hb hr rfl (fun t ht hW => ⟨⟨0, (), rfl, (Or.inr (rfl)), by rw [ht]; exact hP, va_K.moved hW.alike hK, hD⟩, hS.F ht⟩) hS.2.2 dX7_isRest_49
          · obtain ⟨hw, h38_0, h38_1⟩ := hw
            subst hw
            have l38k3_a2 : (0 : Int) ≤ a2.toInt := l25k3_a2
            have u38k3_a2 : a2.toInt ≤ (0 : Int) := u25k3_a2
            refine lv_icmp_lt (tgt := 48) hx hb dX7_isRest_41 (by decide) (fun c41 => absurd c41 (by decide +kernel)) (fun _ => ?_)
            refine lv_iconst (v := 1) hx hb dX7_isRest_44 zk_iconst_1 ?_
            refine lv_goto (tgt := 49) hx hb dX7_isRest_45 (by decide) ?_
            exact W.zret (v := 1) hx hb hr rfl (fun t ht hW => ⟨⟨1, (), rfl, (Or.inl (rfl)), by rw [ht]; exact hP, va_K.moved hW.alike hK, hD⟩, hS.F ht⟩) hS.2.2 dX7_isRest_49
        · have gc30 := ai_eq c30
          have u30f_a3 : a3.toInt ≤ (0 : Int) := Int.le_trans (Int.le_of_eq gc30) zq6
          have l30f_a3 : (0 : Int) ≤ a3.toInt := Int.le_trans zq5 (Int.le_of_eq gc30.symm)
          refine lv_iconst (v := 1) hx hb dX7_isRest_33 zk_iconst_1 ?_
          refine lv_goto (tgt := 38) hx hb dX7_isRest_34 (by decide) ?_
          refine va_calli (va_runS (As := [.int a2, .int 1]) (rest := [.int (-1)]) ⟨hx, hb, hml, hown, hts⟩ (c_X7_attendantShare l dC dI H.size a2 1 ) (va_cwS 2 hts gX7_isRest_X7_attendantShare rfl rfl rfl zd_X7_attendantShare.2 ⟨Nat.le_of_ble_eq_true rfl, Nat.le_of_ble_eq_true rfl⟩) ⟨ax_blind (fun _ _ _ _ _ => trivial), ax_pre (zp_P0 hP) (zp_K hK) (zp_D0 hD) (fun _ _ => trivial)⟩ rfl rfl hl.1 rfl (lv_room (Nat.le_of_ble_eq_true rfl)) dX7_isRest_38 ⟨Nat.le_of_ble_eq_true rfl, Nat.le_of_ble_eq_true rfl⟩) hS (fun q _ h => zp_F0 hD hS hA q h) (zp_F0 hD hS hA) (fun r38 u t H locs ht hvm hw hB hz1 hk1 hS1 => zo0 hB ht hP hD hk1 (zp_F0 hD hS hA) hS1 (fun hP hK1 hD hS => ?_))
          rcases hw with hw | hw | hw | hw
          · subst hw
            refine lv_icmp_lt (tgt := 48) hx hb dX7_isRest_41 (by decide) (fun _ => ?_) (fun c41 => absurd (by decide +kernel) c41)
            refine lv_iconst (v := 0) hx hb dX7_isRest_48 zk_iconst_0 ?_
            exact W.zret (v := 0) hx hb hr rfl (fun t ht hW => ⟨⟨0, (), rfl, (Or.inr (rfl)), by rw [ht]; exact hP, va_K.moved hW.alike hK, hD⟩, hS.F ht⟩) hS.2.2 dX7_isRest_49
          · obtain ⟨hw, h38_0, h38_1, h38_2, h38_3⟩ := hw
            subst hw
            have l38k1_a2 : (0 : Int) ≤ a2.toInt := l25k3_a2
            have u38k1_a2 : a2.toInt ≤ (0 : Int) := u25k3_a2
            exact absurd h38_3 (by decide)
          · obtain ⟨hw, h38_0, h38_1⟩ := hw
            subst hw
            exact absurd h38_1 (by decide)
          · obtain ⟨hw, h38_0, h38_1⟩ := hw
            subst hw
            have l38k3_a2 : (0 : Int) ≤ a2.toInt := l25k3_a2
            have u38k3_a2 : a2.toInt ≤ (0 : Int) := u25k3_a2
            refine lv_icmp_lt (tgt := 48) hx hb dX7_isRest_41 (by decide) (fun c41 => absurd c41 (by decide +kernel)) (fun _ => ?_)
            refine lv_iconst (v := 1) hx hb dX7_isRest_44 zk_iconst_1 ?_
            refine lv_goto (tgt := 49) hx hb dX7_isRest_45 (by decide) ?_
            exact W.zret (v := 1) hx hb hr rfl (fun t ht hW => ⟨⟨1, (), rfl, (Or.inl (rfl)), by rw [ht]; exact hP, va_K.moved hW.alike hK, hD⟩, hS.F ht⟩) hS.2.2 dX7_isRest_49
  · have gc8 := ai_eq c8
    have u8f_a2 : a2.toInt ≤ (0 : Int) := Int.le_trans (Int.le_of_eq gc8) zq6
    have l8f_a2 : (0 : Int) ≤ a2.toInt := Int.le_trans zq5 (Int.le_of_eq gc8.symm)
    refine lv_iconst (v := 1) hx hb dX7_isRest_11 zk_iconst_1 ?_
    refine lv_goto (tgt := 16) hx hb dX7_isRest_12 (by decide) ?_
    refine lv_iload_n hx hb dX7_isRest_16 rfl (lv_at hl 2 rfl) ?_
    refine va_calli (va_runS (As := [.int a1, .int 1, .int a3]) (rest := [.int r3]) ⟨hx, hb, hml, hown, hts⟩ (c_X7_figureShare l dC dI H.size a1 1 a3 ) (va_cwS 3 hts gX7_isRest_X7_figureShare rfl rfl rfl zd_X7_figureShare.2 ⟨Nat.le_of_ble_eq_true rfl, Nat.le_of_ble_eq_true rfl⟩) ⟨ax_blind (fun _ _ _ _ _ => trivial), ax_pre (zp_P0 hP) (zp_K hK) (zp_D0 hD) (fun _ _ => trivial)⟩ rfl rfl hl.1 rfl (lv_room (Nat.le_of_ble_eq_true rfl)) dX7_isRest_17 ⟨Nat.le_of_ble_eq_true rfl, Nat.le_of_ble_eq_true rfl⟩) hS (fun q _ h => zp_F0 hD hS hA q h) (zp_F0 hD hS hA) (fun r17 u t H locs ht hvm hw hB hz1 hk1 hS1 => zo0 hB ht hP hD hk1 (zp_F0 hD hS hA) hS1 (fun hP hK1 hD hS => ?_))
    refine lv_icmp_lt (tgt := 48) hx hb dX7_isRest_20 (by decide) (fun c20 => ?_) (fun c20 => ?_)
    · have gc20 := ai_lt c20
      have u20t_r3 : r3.toInt ≤ (2147483646 : Int) := ai_lthi gc20 (ai_max r17)
      have l20t_r17 : (-2147483647 : Int) ≤ r17.toInt := ai_ltlo gc20 (ai_min r3)
      refine lv_iconst (v := 0) hx hb dX7_isRest_48 zk_iconst_0 ?_
      exact W.zret (v := 0) hx hb hr rfl (fun t ht hW => ⟨⟨0, (), rfl, (Or.inr (rfl)), by rw [ht]; exact hP, va_K.moved hW.alike hK, hD⟩, hS.F ht⟩) hS.2.2 dX7_isRest_49
    · have gc20 := ai_nlt c20
      refine lv_iload_n hx hb dX7_isRest_23 rfl (lv_at hl 1 rfl) ?_
      refine lv_iload_n hx hb dX7_isRest_24 rfl (lv_at hl 2 rfl) ?_
      refine va_calli (va_runS (As := [.int a2, .int a3]) (rest := []) ⟨hx, hb, hml, hown, hts⟩ (c_X7_attendantShare l dC dI H.size a2 a3 ) (va_cwS 2 hts gX7_isRest_X7_attendantShare rfl rfl rfl zd_X7_attendantShare.2 ⟨Nat.le_of_ble_eq_true rfl, Nat.le_of_ble_eq_true rfl⟩) ⟨ax_blind (fun _ _ _ _ _ => trivial), ax_pre (zp_P0 hP) (zp_K hK) (zp_D0 hD) (fun _ _ => trivial)⟩ rfl rfl hl.1 rfl (lv_room (Nat.le_of_ble_eq_true rfl)) dX7_isRest_25 ⟨Nat.le_of_ble_eq_true rfl, Nat.le_of_ble_eq_true rfl⟩) hS (fun q _ h => zp_F0 hD hS hA q h) (zp_F0 hD hS hA) (fun r25 u t H locs ht hvm hw hB hz1 hk1 hS1 => zo0 hB ht hP hD hk1 (zp_F0 hD hS hA) hS1 (fun hP hK1 hD hS => ?_))
      rcases hw with hw | hw | hw | hw
      · subst hw
        refine lv_iload_n hx hb dX7_isRest_28 rfl (lv_at hl 1 rfl) ?_
        refine lv_iload_n hx hb dX7_isRest_29 rfl (lv_at hl 2 rfl) ?_
        refine lv_if_ne (tgt := 37) hx hb dX7_isRest_30 (by decide) (fun c30 => ?_) (fun c30 => ?_)
        · have gc30 := ai_ne c30
          refine lv_iconst (v := 0) hx hb dX7_isRest_37 zk_iconst_0 ?_
          refine va_calli (va_runS (As := [.int a2, .int 0]) (rest := [.int 3]) ⟨hx, hb, hml, hown, hts⟩ (c_X7_attendantShare l dC dI H.size a2 0 ) (va_cwS 2 hts gX7_isRest_X7_attendantShare rfl rfl rfl zd_X7_attendantShare.2 ⟨Nat.le_of_ble_eq_true rfl, Nat.le_of_ble_eq_true rfl⟩) ⟨ax_blind (fun _ _ _ _ _ => trivial), ax_pre (zp_P0 hP) (zp_K hK) (zp_D0 hD) (fun _ _ => trivial)⟩ rfl rfl hl.1 rfl (lv_room (Nat.le_of_ble_eq_true rfl)) dX7_isRest_38 ⟨Nat.le_of_ble_eq_true rfl, Nat.le_of_ble_eq_true rfl⟩) hS (fun q _ h => zp_F0 hD hS hA q h) (zp_F0 hD hS hA) (fun r38 u t H locs ht hvm hw hB hz1 hk1 hS1 => zo0 hB ht hP hD hk1 (zp_F0 hD hS hA) hS1 (fun hP hK1 hD hS => ?_))
          rcases hw with hw | hw | hw | hw
          · subst hw
            refine lv_icmp_lt (tgt := 48) hx hb dX7_isRest_41 (by decide) (fun c41 => absurd c41 (by decide +kernel)) (fun _ => ?_)
            refine lv_iconst (v := 1) hx hb dX7_isRest_44 zk_iconst_1 ?_
            refine lv_goto (tgt := 49) hx hb dX7_isRest_45 (by decide) ?_
            exact W.zret (v := 1) hx hb hr rfl (fun t ht hW => ⟨⟨1, (), rfl, (Or.inl (rfl)), by rw [ht]; exact hP, va_K.moved hW.alike hK, hD⟩, hS.F ht⟩) hS.2.2 dX7_isRest_49
          · obtain ⟨hw, h38_0, h38_1, h38_2, h38_3⟩ := hw
            subst hw
            have l38k1_a2 : (0 : Int) ≤ a2.toInt := l8f_a2
            have u38k1_a2 : a2.toInt ≤ (0 : Int) := u8f_a2
            refine lv_icmp_lt (tgt := 48) hx hb dX7_isRest_41 (by decide) (fun c41 => absurd c41 (by decide +kernel)) (fun _ => ?_)
            refine lv_iconst (v := 1) hx hb dX7_isRest_44 zk_iconst_1 ?_
            refine lv_goto (tgt := 49) hx hb dX7_isRest_45 (by decide) ?_
            exact W.zret (v := 1) hx hb hr rfl (fun t ht hW => ⟨⟨1, (), rfl, (Or.inl (rfl)), by rw [ht]; exact hP, va_K.moved hW.alike hK, hD⟩, hS.F ht⟩) hS.2.2 dX7_isRest_49
          · obtain ⟨hw, h38_0, h38_1⟩ := hw
            subst hw
            refine lv_icmp_lt (tgt := 48) hx hb dX7_isRest_41 (by decide) (fun c41 => absurd c41 (by decide +kernel)) (fun _ => ?_)
            refine lv_iconst (v := 1) hx hb dX7_isRest_44 zk_iconst_1 ?_
            refine lv_goto (tgt := 49) hx hb dX7_isRest_45 (by decide) ?_
            exact W.zret (v := 1) hx hb hr rfl (fun t ht hW => ⟨⟨1, (), rfl, (Or.inl (rfl)), by rw [ht]; exact hP, va_K.moved hW.alike hK, hD⟩, hS.F ht⟩) hS.2.2 dX7_isRest_49
          · obtain ⟨hw, h38_0, h38_1⟩ := hw
            subst hw
            have l38k3_a2 : (0 : Int) ≤ a2.toInt := l8f_a2
            have u38k3_a2 : a2.toInt ≤ (0 : Int) := u8f_a2
            refine lv_icmp_lt (tgt := 48) hx hb dX7_isRest_41 (by decide) (fun c41 => absurd c41 (by decide +kernel)) (fun _ => ?_)
            refine lv_iconst (v := 1) hx hb dX7_isRest_44 zk_iconst_1 ?_
            refine lv_goto (tgt := 49) hx hb dX7_isRest_45 (by decide) ?_
            exact W.zret (v := 1) hx hb hr rfl (fun t ht hW => ⟨⟨1, (), rfl, (Or.inl (rfl)), by rw [ht]; exact hP, va_K.moved hW.alike hK, hD⟩, hS.F ht⟩) hS.2.2 dX7_isRest_49
        · have gc30 := ai_eq c30
          have u30f_a3 : a3.toInt ≤ (0 : Int) := Int.le_trans (Int.le_of_eq gc30) zq6
          have l30f_a3 : (0 : Int) ≤ a3.toInt := Int.le_trans zq5 (Int.le_of_eq gc30.symm)
          refine lv_iconst (v := 1) hx hb dX7_isRest_33 zk_iconst_1 ?_
          refine lv_goto (tgt := 38) hx hb dX7_isRest_34 (by decide) ?_
          refine va_calli (va_runS (As := [.int a2, .int 1]) (rest := [.int 3]) ⟨hx, hb, hml, hown, hts⟩ (c_X7_attendantShare l dC dI H.size a2 1 ) (va_cwS 2 hts gX7_isRest_X7_attendantShare rfl rfl rfl zd_X7_attendantShare.2 ⟨Nat.le_of_ble_eq_true rfl, Nat.le_of_ble_eq_true rfl⟩) ⟨ax_blind (fun _ _ _ _ _ => trivial), ax_pre (zp_P0 hP) (zp_K hK) (zp_D0 hD) (fun _ _ => trivial)⟩ rfl rfl hl.1 rfl (lv_room (Nat.le_of_ble_eq_true rfl)) dX7_isRest_38 ⟨Nat.le_of_ble_eq_true rfl, Nat.le_of_ble_eq_true rfl⟩) hS (fun q _ h => zp_F0 hD hS hA q h) (zp_F0 hD hS hA) (fun r38 u t H locs ht hvm hw hB hz1 hk1 hS1 => zo0 hB ht hP hD hk1 (zp_F0 hD hS hA) hS1 (fun hP hK1 hD hS => ?_))
          rcases hw with hw | hw | hw | hw
          · subst hw
            refine lv_icmp_lt (tgt := 48) hx hb dX7_isRest_41 (by decide) (fun c41 => absurd c41 (by decide +kernel)) (fun _ => ?_)
            refine lv_iconst (v := 1) hx hb dX7_isRest_44 zk_iconst_1 ?_
            refine lv_goto (tgt := 49) hx hb dX7_isRest_45 (by decide) ?_
            exact W.zret (v := 1) hx hb hr rfl (fun t ht hW => ⟨⟨1, (), rfl, (Or.inl (rfl)), by rw [ht]; exact hP, va_K.moved hW.alike hK, hD⟩, hS.F ht⟩) hS.2.2 dX7_isRest_49
          · obtain ⟨hw, h38_0, h38_1, h38_2, h38_3⟩ := hw
            subst hw
            have l38k1_a2 : (0 : Int) ≤ a2.toInt := l8f_a2
            have u38k1_a2 : a2.toInt ≤ (0 : Int) := u8f_a2
            exact absurd h38_3 (by decide)
          · obtain ⟨hw, h38_0, h38_1⟩ := hw
            subst hw
            exact absurd h38_1 (by decide)
          · obtain ⟨hw, h38_0, h38_1⟩ := hw
            subst hw
            have l38k3_a2 : (0 : Int) ≤ a2.toInt := l8f_a2
            have u38k3_a2 : a2.toInt ≤ (0 : Int) := u8f_a2
            refine lv_icmp_lt (tgt := 48) hx hb dX7_isRest_41 (by decide) (fun c41 => absurd c41 (by decide +kernel)) (fun _ => ?_)
            refine lv_iconst (v := 1) hx hb dX7_isRest_44 zk_iconst_1 ?_
            refine lv_goto (tgt := 49) hx hb dX7_isRest_45 (by decide) ?_
            exact W.zret (v := 1) hx hb hr rfl (fun t ht hW => ⟨⟨1, (), rfl, (Or.inl (rfl)), by rw [ht]; exact hP, va_K.moved hW.alike hK, hD⟩, hS.F ht⟩) hS.2.2 dX7_isRest_49
      · obtain ⟨hw, h25_0, h25_1, h25_2, h25_3⟩ := hw
        subst hw
        have l25k1_a2 : (0 : Int) ≤ a2.toInt := l8f_a2
        have u25k1_a2 : a2.toInt ≤ (0 : Int) := u8f_a2
        have l25k1_a3 : (0 : Int) ≤ a3.toInt := h25_2
        have u25k1_a3 : a3.toInt ≤ (0 : Int) := h25_3
        refine lv_iload_n hx hb dX7_isRest_28 rfl (lv_at hl 1 rfl) ?_
        refine lv_iload_n hx hb dX7_isRest_29 rfl (lv_at hl 2 rfl) ?_
        refine lv_if_ne (tgt := 37) hx hb dX7_isRest_30 (by decide) (fun c30 => ?_) (fun c30 => ?_)
        · have gc30 := ai_ne c30
          have l30t_a3 : (1 : Int) ≤ a3.toInt := (by first | exact zg_l l25k1_a3 gc30 (by decide) (by decide) | (have h1 := l25k1_a3; have h2 : (0 : Int32).toInt = 0 := (by decide); rw [h2] at gc30; omega))
          have u30t_a3 : a3.toInt ≤ (-1 : Int) := (by first | exact zg_u u25k1_a3 gc30 (by decide) (by decide) | (have h1 := u25k1_a3; have h2 : (0 : Int32).toInt = 0 := (by decide); rw [h2] at gc30; omega))
          exact absurd (Int.le_trans l30t_a3 u30t_a3) (by decide)
        · have gc30 := ai_eq c30
          have u30f_a3 : a3.toInt ≤ (0 : Int) := u25k1_a3
          have l30f_a3 : (0 : Int) ≤ a3.toInt := l25k1_a3
          refine lv_iconst (v := 1) hx hb dX7_isRest_33 zk_iconst_1 ?_
          refine lv_goto (tgt := 38) hx hb dX7_isRest_34 (by decide) ?_
          refine va_calli (va_runS (As := [.int a2, .int 1]) (rest := [.int 1]) ⟨hx, hb, hml, hown, hts⟩ (c_X7_attendantShare l dC dI H.size a2 1 ) (va_cwS 2 hts gX7_isRest_X7_attendantShare rfl rfl rfl zd_X7_attendantShare.2 ⟨Nat.le_of_ble_eq_true rfl, Nat.le_of_ble_eq_true rfl⟩) ⟨ax_blind (fun _ _ _ _ _ => trivial), ax_pre (zp_P0 hP) (zp_K hK) (zp_D0 hD) (fun _ _ => trivial)⟩ rfl rfl hl.1 rfl (lv_room (Nat.le_of_ble_eq_true rfl)) dX7_isRest_38 ⟨Nat.le_of_ble_eq_true rfl, Nat.le_of_ble_eq_true rfl⟩) hS (fun q _ h => zp_F0 hD hS hA q h) (zp_F0 hD hS hA) (fun r38 u t H locs ht hvm hw hB hz1 hk1 hS1 => zo0 hB ht hP hD hk1 (zp_F0 hD hS hA) hS1 (fun hP hK1 hD hS => ?_))
          rcases hw with hw | hw | hw | hw
          · subst hw
            refine lv_icmp_lt (tgt := 48) hx hb dX7_isRest_41 (by decide) (fun _ => ?_) (fun c41 => absurd (by decide +kernel) c41)
            refine lv_iconst (v := 0) hx hb dX7_isRest_48 zk_iconst_0 ?_
            exact W.zret (v := 0) hx hb hr rfl (fun t ht hW => ⟨⟨0, (), rfl, (Or.inr (rfl)), by rw [ht]; exact hP, va_K.moved hW.alike hK, hD⟩, hS.F ht⟩) hS.2.2 dX7_isRest_49
          · obtain ⟨hw, h38_0, h38_1, h38_2, h38_3⟩ := hw
            subst hw
            have l38k1_a2 : (0 : Int) ≤ a2.toInt := l25k1_a2
            have u38k1_a2 : a2.toInt ≤ (0 : Int) := u25k1_a2
            exact absurd h38_3 (by decide)
          · obtain ⟨hw, h38_0, h38_1⟩ := hw
            subst hw
            exact absurd h38_1 (by decide)
          · obtain ⟨hw, h38_0, h38_1⟩ := hw
            subst hw
            have l38k3_a2 : (0 : Int) ≤ a2.toInt := l25k1_a2
            have u38k3_a2 : a2.toInt ≤ (0 : Int) := u25k1_a2
            refine lv_icmp_lt (tgt := 48) hx hb dX7_isRest_41 (by decide) (fun c41 => absurd c41 (by decide +kernel)) (fun _ => ?_)
            refine lv_iconst (v := 1) hx hb dX7_isRest_44 zk_iconst_1 ?_
            refine lv_goto (tgt := 49) hx hb dX7_isRest_45 (by decide) ?_
            exact W.zret (v := 1) hx hb hr rfl (fun t ht hW => ⟨⟨1, (), rfl, (Or.inl (rfl)), by rw [ht]; exact hP, va_K.moved hW.alike hK, hD⟩, hS.F ht⟩) hS.2.2 dX7_isRest_49
      · obtain ⟨hw, h25_0, h25_1⟩ := hw
        subst hw
        have l25k2_a3 : (0 : Int) ≤ a3.toInt := h25_0
        have u25k2_a3 : a3.toInt ≤ (0 : Int) := h25_1
        refine lv_iload_n hx hb dX7_isRest_28 rfl (lv_at hl 1 rfl) ?_
        refine lv_iload_n hx hb dX7_isRest_29 rfl (lv_at hl 2 rfl) ?_
        refine lv_if_ne (tgt := 37) hx hb dX7_isRest_30 (by decide) (fun c30 => ?_) (fun c30 => ?_)
        · have gc30 := ai_ne c30
          have l30t_a3 : (1 : Int) ≤ a3.toInt := (by first | exact zg_l l25k2_a3 gc30 (by decide) (by decide) | (have h1 := l25k2_a3; have h2 : (0 : Int32).toInt = 0 := (by decide); rw [h2] at gc30; omega))
          have u30t_a3 : a3.toInt ≤ (-1 : Int) := (by first | exact zg_u u25k2_a3 gc30 (by decide) (by decide) | (have h1 := u25k2_a3; have h2 : (0 : Int32).toInt = 0 := (by decide); rw [h2] at gc30; omega))
          exact absurd (Int.le_trans l30t_a3 u30t_a3) (by decide)
        · have gc30 := ai_eq c30
          have u30f_a3 : a3.toInt ≤ (0 : Int) := u25k2_a3
          have l30f_a3 : (0 : Int) ≤ a3.toInt := l25k2_a3
          refine lv_iconst (v := 1) hx hb dX7_isRest_33 zk_iconst_1 ?_
          refine lv_goto (tgt := 38) hx hb dX7_isRest_34 (by decide) ?_
          refine va_calli (va_runS (As := [.int a2, .int 1]) (rest := [.int 0]) ⟨hx, hb, hml, hown, hts⟩ (c_X7_attendantShare l dC dI H.size a2 1 ) (va_cwS 2 hts gX7_isRest_X7_attendantShare rfl rfl rfl zd_X7_attendantShare.2 ⟨Nat.le_of_ble_eq_true rfl, Nat.le_of_ble_eq_true rfl⟩) ⟨ax_blind (fun _ _ _ _ _ => trivial), ax_pre (zp_P0 hP) (zp_K hK) (zp_D0 hD) (fun _ _ => trivial)⟩ rfl rfl hl.1 rfl (lv_room (Nat.le_of_ble_eq_true rfl)) dX7_isRest_38 ⟨Nat.le_of_ble_eq_true rfl, Nat.le_of_ble_eq_true rfl⟩) hS (fun q _ h => zp_F0 hD hS hA q h) (zp_F0 hD hS hA) (fun r38 u t H locs ht hvm hw hB hz1 hk1 hS1 => zo0 hB ht hP hD hk1 (zp_F0 hD hS hA) hS1 (fun hP hK1 hD hS => ?_))
          rcases hw with hw | hw | hw | hw
          · subst hw
            refine lv_icmp_lt (tgt := 48) hx hb dX7_isRest_41 (by decide) (fun _ => ?_) (fun c41 => absurd (by decide +kernel) c41)
            refine lv_iconst (v := 0) hx hb dX7_isRest_48 zk_iconst_0 ?_
            exact W.zret (v := 0) hx hb hr rfl (fun t ht hW => ⟨⟨0, (), rfl, (Or.inr (rfl)), by rw [ht]; exact hP, va_K.moved hW.alike hK, hD⟩, hS.F ht⟩) hS.2.2 dX7_isRest_49
          · obtain ⟨hw, h38_0, h38_1, h38_2, h38_3⟩ := hw
            subst hw
            have l38k1_a2 : (0 : Int) ≤ a2.toInt := l8f_a2
            have u38k1_a2 : a2.toInt ≤ (0 : Int) := u8f_a2
            exact absurd h38_3 (by decide)
          · obtain ⟨hw, h38_0, h38_1⟩ := hw
            subst hw
            exact absurd h38_1 (by decide)
          · obtain ⟨hw, h38_0, h38_1⟩ := hw
            subst hw
            have l38k3_a2 : (0 : Int) ≤ a2.toInt := l8f_a2
            have u38k3_a2 : a2.toInt ≤ (0 : Int) := u8f_a2
            refine lv_icmp_lt (tgt := 48) hx hb dX7_isRest_41 (by decide) (fun c41 => absurd c41 (by decide +kernel)) (fun _ => ?_)
            refine lv_iconst (v := 1) hx hb dX7_isRest_44 zk_iconst_1 ?_
            refine lv_goto (tgt := 49) hx hb dX7_isRest_45 (by decide) ?_
            exact W.zret (v := 1) hx hb hr rfl (fun t ht hW => ⟨⟨1, (), rfl, (Or.inl (rfl)), by rw [ht]; exact hP, va_K.moved hW.alike hK, hD⟩, hS.F ht⟩) hS.2.2 dX7_isRest_49
      · obtain ⟨hw, h25_0, h25_1⟩ := hw
        subst hw
        have l25k3_a2 : (0 : Int) ≤ a2.toInt := l8f_a2
        have u25k3_a2 : a2.toInt ≤ (0 : Int) := u8f_a2
        refine lv_iload_n hx hb dX7_isRest_28 rfl (lv_at hl 1 rfl) ?_
        refine lv_iload_n hx hb dX7_isRest_29 rfl (lv_at hl 2 rfl) ?_
        refine lv_if_ne (tgt := 37) hx hb dX7_isRest_30 (by decide) (fun c30 => ?_) (fun c30 => ?_)
        · have gc30 := ai_ne c30
          refine lv_iconst (v := 0) hx hb dX7_isRest_37 zk_iconst_0 ?_
          refine va_calli (va_runS (As := [.int a2, .int 0]) (rest := [.int (-1)]) ⟨hx, hb, hml, hown, hts⟩ (c_X7_attendantShare l dC dI H.size a2 0 ) (va_cwS 2 hts gX7_isRest_X7_attendantShare rfl rfl rfl zd_X7_attendantShare.2 ⟨Nat.le_of_ble_eq_true rfl, Nat.le_of_ble_eq_true rfl⟩) ⟨ax_blind (fun _ _ _ _ _ => trivial), ax_pre (zp_P0 hP) (zp_K hK) (zp_D0 hD) (fun _ _ => trivial)⟩ rfl rfl hl.1 rfl (lv_room (Nat.le_of_ble_eq_true rfl)) dX7_isRest_38 ⟨Nat.le_of_ble_eq_true rfl, Nat.le_of_ble_eq_true rfl⟩) hS (fun q _ h => zp_F0 hD hS hA q h) (zp_F0 hD hS hA) (fun r38 u t H locs ht hvm hw hB hz1 hk1 hS1 => zo0 hB ht hP hD hk1 (zp_F0 hD hS hA) hS1 (fun hP hK1 hD hS => ?_))
          rcases hw with hw | hw | hw | hw
          · subst hw
            refine lv_icmp_lt (tgt := 48) hx hb dX7_isRest_41 (by decide) (fun _ => ?_) (fun c41 => absurd (by decide +kernel) c41)
            refine lv_iconst (v := 0) hx hb dX7_isRest_48 zk_iconst_0 ?_
            exact W.zret (v := 0) hx hb hr rfl (fun t ht hW => ⟨⟨0, (), rfl, (Or.inr (rfl)), by rw [ht]; exact hP, va_K.moved hW.alike hK, hD⟩, hS.F ht⟩) hS.2.2 dX7_isRest_49
          · obtain ⟨hw, h38_0, h38_1, h38_2, h38_3⟩ := hw
            subst hw
            have l38k1_a2 : (0 : Int) ≤ a2.toInt := l25k3_a2
            have u38k1_a2 : a2.toInt ≤ (0 : Int) := u25k3_a2
            refine lv_icmp_lt (tgt := 48) hx hb dX7_isRest_41 (by decide) (fun _ => ?_) (fun c41 => absurd (by decide +kernel) c41)
            refine lv_iconst (v := 0) hx hb dX7_isRest_48 zk_iconst_0 ?_
            exact W.zret (v := 0) hx hb hr rfl (fun t ht hW => ⟨⟨0, (), rfl, (Or.inr (rfl)), by rw [ht]; exact hP, va_K.moved hW.alike hK, hD⟩, hS.F ht⟩) hS.2.2 dX7_isRest_49
          · obtain ⟨hw, h38_0, h38_1⟩ := hw
            subst hw
            refine lv_icmp_lt (tgt := 48) hx hb dX7_isRest_41 (by decide) (fun _ => ?_) (fun c41 => absurd (by decide +kernel) c41)
            refine lv_iconst (v := 0) hx hb dX7_isRest_48 zk_iconst_0 ?_
            exact W.zret (v := 0) hx hb hr rfl (fun t ht hW => ⟨⟨0, (), rfl, (Or.inr (rfl)), by rw [ht]; exact hP, va_K.moved hW.alike hK, hD⟩, hS.F ht⟩) hS.2.2 dX7_isRest_49
          · obtain ⟨hw, h38_0, h38_1⟩ := hw
            subst hw
            have l38k3_a2 : (0 : Int) ≤ a2.toInt := l25k3_a2
            have u38k3_a2 : a2.toInt ≤ (0 : Int) := u25k3_a2
            refine lv_icmp_lt (tgt := 48) hx hb dX7_isRest_41 (by decide) (fun c41 => absurd c41 (by decide +kernel)) (fun _ => ?_)
            refine lv_iconst (v := 1) hx hb dX7_isRest_44 zk_iconst_1 ?_
            refine lv_goto (tgt := 49) hx hb dX7_isRest_45 (by decide) ?_
            exact W.zret (v := 1) hx hb hr rfl (fun t ht hW => ⟨⟨1, (), rfl, (Or.inl (rfl)), by rw [ht]; exact hP, va_K.moved hW.alike hK, hD⟩, hS.F ht⟩) hS.2.2 dX7_isRest_49
        · have gc30 := ai_eq c30
          have u30f_a3 : a3.toInt ≤ (0 : Int) := Int.le_trans (Int.le_of_eq gc30) zq6
          have l30f_a3 : (0 : Int) ≤ a3.toInt := Int.le_trans zq5 (Int.le_of_eq gc30.symm)
          refine lv_iconst (v := 1) hx hb dX7_isRest_33 zk_iconst_1 ?_
          refine lv_goto (tgt := 38) hx hb dX7_isRest_34 (by decide) ?_
          refine va_calli (va_runS (As := [.int a2, .int 1]) (rest := [.int (-1)]) ⟨hx, hb, hml, hown, hts⟩ (c_X7_attendantShare l dC dI H.size a2 1 ) (va_cwS 2 hts gX7_isRest_X7_attendantShare rfl rfl rfl zd_X7_attendantShare.2 ⟨Nat.le_of_ble_eq_true rfl, Nat.le_of_ble_eq_true rfl⟩) ⟨ax_blind (fun _ _ _ _ _ => trivial), ax_pre (zp_P0 hP) (zp_K hK) (zp_D0 hD) (fun _ _ => trivial)⟩ rfl rfl hl.1 rfl (lv_room (Nat.le_of_ble_eq_true rfl)) dX7_isRest_38 ⟨Nat.le_of_ble_eq_true rfl, Nat.le_of_ble_eq_true rfl⟩) hS (fun q _ h => zp_F0 hD hS hA q h) (zp_F0 hD hS hA) (fun r38 u t H locs ht hvm hw hB hz1 hk1 hS1 => zo0 hB ht hP hD hk1 (zp_F0 hD hS hA) hS1 (fun hP hK1 hD hS => ?_))
          rcases hw with hw | hw | hw | hw
          · subst hw
            refine lv_icmp_lt (tgt := 48) hx hb dX7_isRest_41 (by decide) (fun _ => ?_) (fun c41 => absurd (by decide +kernel) c41)
            refine lv_iconst (v := 0) hx hb dX7_isRest_48 zk_iconst_0 ?_
            exact W.zret (v := 0) hx hb hr rfl (fun t ht hW => ⟨⟨0, (), rfl, (Or.inr (rfl)), by rw [ht]; exact hP, va_K.moved hW.alike hK, hD⟩, hS.F ht⟩) hS.2.2 dX7_isRest_49
          · obtain ⟨hw, h38_0, h38_1, h38_2, h38_3⟩ := hw
            subst hw
            have l38k1_a2 : (0 : Int) ≤ a2.toInt := l25k3_a2
            have u38k1_a2 : a2.toInt ≤ (0 : Int) := u25k3_a2
            exact absurd h38_3 (by decide)
          · obtain ⟨hw, h38_0, h38_1⟩ := hw
            subst hw
            exact absurd h38_1 (by decide)
          · obtain ⟨hw, h38_0, h38_1⟩ := hw
            subst hw
            have l38k3_a2 : (0 : Int) ≤ a2.toInt := l25k3_a2
            have u38k3_a2 : a2.toInt ≤ (0 : Int) := u25k3_a2
            refine lv_icmp_lt (tgt := 48) hx hb dX7_isRest_41 (by decide) (fun c41 => absurd c41 (by decide +kernel)) (fun _ => ?_)
            refine lv_iconst (v := 1) hx hb dX7_isRest_44 zk_iconst_1 ?_
            refine lv_goto (tgt := 49) hx hb dX7_isRest_45 (by decide) ?_
            exact W.zret (v := 1) hx hb hr rfl (fun t ht hW => ⟨⟨1, (), rfl, (Or.inl (rfl)), by rw [ht]; exact hP, va_K.moved hW.alike hK, hD⟩, hS.F ht⟩) hS.2.2 dX7_isRest_49

set_option maxHeartbeats 4000000 in
set_option maxRecDepth 100000 in
theorem c_X7_ownTurns (l : Launch) (dC : Nat → ClassId) (dI : Nat → Nat → Nat) (sz : Nat) (a0 : Nat) (a1 : Int32) (a2 : Int32) (a0g_0 a0g_2 a0g_3 a0g_4 a0g_5 a0g_6 a0g_8 a0g_9 a0g_10 : Value) (a0_1 : Nat) (a0_7 : Nat) (a0_1g_0 a0_1g_2 a0_1g_3 a0_1g_4 a0_1g_5 a0_1g_6 : Value) (a0_1_1 : Int32) (a0_7_0 : Int32) (a0_7g_1 a0_7g_2 a0_7g_3 a0_7g_4 a0_7g_7 a0_7g_8 a0_7g_9 a0_7g_10 a0_7g_11 a0_7g_12 a0_7g_13 a0_7g_14 : Value) (a0_7_5 : Int32) (a0_7_6 : Int32) (ba0_1_1_l : (0 : Int) ≤ a0_1_1.toInt) (ba0_1_1_u : a0_1_1.toInt ≤ (8 : Int)) (ba0_7_0_l : (0 : Int) ≤ a0_7_0.toInt) (ba0_7_0_u : a0_7_0.toInt ≤ (9 : Int)) (ba0_7_5_l : (0 : Int) ≤ a0_7_5.toInt) (ba0_7_5_u : a0_7_5.toInt ≤ (8 : Int)) (ba0_7_6_l : (0 : Int) ≤ a0_7_6.toInt) (ba0_7_6_u : a0_7_6.toInt ≤ (8 : Int)) : zm l yX7_ownTurns wsX7_ownTurns ({ frames := 1, cells := 0, slots := 0, locals := 21 }) [.ref a0, .int a1, .int a2] dC dI sz [(a0, .inr (7, [a0g_0, .ref a0_1, a0g_2, a0g_3, a0g_4, a0g_5, a0g_6, .ref a0_7, a0g_8, a0g_9, a0g_10])), (a0_1, .inr (5, [a0_1g_0, .int a0_1_1, a0_1g_2, a0_1g_3, a0_1g_4, a0_1g_5, a0_1g_6])), (a0_7, .inr (0, [.int a0_7_0, a0_7g_1, a0_7g_2, a0_7g_3, a0_7g_4, .int a0_7_5, .int a0_7_6, a0_7g_7, a0_7g_8, a0_7g_9, a0_7g_10, a0_7g_11, a0_7g_12, a0_7g_13, a0_7g_14]))] [] (fun A _ => True) (fun A => va_Qi (fun (r : Int32) (_ : Unit) => True) (fun (_ : Unit) (t : State) => ax_B dC dI A [(a0, .inr (7, [a0g_0, .ref a0_1, a0g_2, a0g_3, a0g_4, a0g_5, a0g_6, .ref a0_7, a0g_8, a0g_9, a0g_10])), (a0_1, .inr (5, [a0_1g_0, .int a0_1_1, a0_1g_2, a0_1g_3, a0_1g_4, a0_1g_5, a0_1g_6])), (a0_7, .inr (0, [.int a0_7_0, a0_7g_1, a0_7g_2, a0_7g_3, a0_7g_4, .int a0_7_5, .int a0_7_6, a0_7g_7, a0_7g_8, a0_7g_9, a0_7g_10, a0_7g_11, a0_7g_12, a0_7g_13, a0_7g_14]))] [] t) A) := by
  refine zh (cc := cX7_ownTurns) (maxL := 6) (ret := (some .int)) zn_RX7 rfl (Nat.le_of_ble_eq_true rfl) (fun p e s m below meth c A ls hx hb hml hr hts (hown : s.vm.findClass RX7 = some m.cls) hlocks hA hS hP hK hD hE (hl : lv_has ls 6 [(0, .ref a0), (1, .int a1), (2, .int a2)]) => ?_)
  refine ai_open (fun K hK0 => ?_)
  refine (hK0 _ _ _).mpr ?_
  refine lv_iconst (v := 0) hx hb dX7_ownTurns_0 zk_iconst_0 ?_
  refine lv_istore_n (lv' := [(3, .int 0), (0, .ref a0), (1, .int a1), (2, .int a2)]) hx hb dX7_ownTurns_1 rfl hl (by decide) rfl (fun ls hl => ?_)
  refine lv_aload_n hx hb dX7_ownTurns_2 rfl (lv_at hl 1 rfl) ?_
  refine va_get (D := (dC, dI)) (ci := 7) (v := .ref a0_1) (C := RX7) (T := TX7) (N := 11) hx hb hts zi_X7_ownTurns_7 hown hK hP 0 rfl rfl 1 (by decide) (hts (.fieldLink RX7 19 "WaxTurns" "now" "LWaxTurns$Scene;") (List.mem_cons_of_mem _ (List.mem_append_left _ (List.mem_append_left _ (List.mem_append_left _ (List.mem_of_getElem? (i := 0) rfl)))))) (fun _ h9 => h9) rfl dX7_ownTurns_3 ?_
  refine va_get (D := (dC, dI)) (ci := 5) (v := .int a0_1_1) (C := RX5) (T := TX5) (N := 7) hx hb hts zi_X7_ownTurns_5 hown hK hP 1 rfl rfl 1 (by decide) (hts (.fieldLink RX7 158 "WaxTurns$Scene" "turn" "I") (List.mem_cons_of_mem _ (List.mem_append_left _ (List.mem_append_left _ (List.mem_append_left _ (List.mem_of_getElem? (i := 1) rfl)))))) (fun _ h9 => h9) rfl dX7_ownTurns_6 ?_
  refine lv_istore (lv' := [(4, .int a0_1_1), (3, .int 0), (0, .ref a0), (1, .int a1), (2, .int a2)]) hx hb dX7_ownTurns_9 hl (by decide) rfl (fun ls hl => ?_)
  refine lv_iconst (v := 0) hx hb dX7_ownTurns_11 zk_iconst_0 ?_
  refine lv_istore (lv' := [(5, .int 0), (4, .int a0_1_1), (3, .int 0), (0, .ref a0), (1, .int a1), (2, .int a2)]) hx hb dX7_ownTurns_12 hl (by decide) rfl (fun ls hl => ?_)
  have J14 : ∀ (n : Nat) (j14l5 : Int32) (j14l4 : Int32) (j14l3 : Int32) (H : Heap) (locs : List Loc) (ls : Array Slot), (2147483648 : Int) - j14l5.toInt ≤ (n : Int) → (0 : Int) ≤ j14l5.toInt → (0 : Int) ≤ j14l4.toInt → j14l4.toInt ≤ (8 : Int) → va_P (dC, dI) vwCl [(a0, .inr (7, [a0g_0, .ref a0_1, a0g_2, a0g_3, a0g_4, a0g_5, a0g_6, .ref a0_7, a0g_8, a0g_9, a0g_10])), (a0_1, .inr (5, [a0_1g_0, .int a0_1_1, a0_1g_2, a0_1g_3, a0_1g_4, a0_1g_5, a0_1g_6])), (a0_7, .inr (0, [.int a0_7_0, a0_7g_1, a0_7g_2, a0_7g_3, a0_7g_4, .int a0_7_5, .int a0_7_6, a0_7g_7, a0_7g_8, a0_7g_9, a0_7g_10, a0_7g_11, a0_7g_12, a0_7g_13, a0_7g_14]))] H → va_D A [(a0, .inr (7, [a0g_0, .ref a0_1, a0g_2, a0g_3, a0g_4, a0g_5, a0g_6, .ref a0_7, a0g_8, a0g_9, a0g_10])), (a0_1, .inr (5, [a0_1g_0, .int a0_1_1, a0_1g_2, a0_1g_3, a0_1g_4, a0_1g_5, a0_1g_6])), (a0_7, .inr (0, [.int a0_7_0, a0_7g_1, a0_7g_2, a0_7g_3, a0_7g_4, .int a0_7_5, .int a0_7_6, a0_7g_7, a0_7g_8, a0_7g_9, a0_7g_10, a0_7g_11, a0_7g_12, a0_7g_13, a0_7g_14]))] → va_S A s.heap H locs → lv_has ls 6 [(0, .ref a0), (1, .int a1), (2, .int a2), (3, .int j14l3), (4, .int j14l4), (5, .int j14l5)] → K H locs (F0 m 14 ls []) := by
    intro n
    induction n with
    | zero =>
      intro j14l5 j14l4 j14l3 H locs ls hm bj14l5_l bj14l4_l bj14l4_u hP hD hS hl
      have h8 := ai_min j14l5
      have h9 := ai_max j14l5
      exact absurd hm (by omega)
    | succ n ih14 =>
      intro j14l5 j14l4 j14l3 H locs ls hm bj14l5_l bj14l4_l bj14l4_u hP hD hS hl
      refine (hK0 _ _ _).mpr ?_
      have hm14 := hm
      refine lv_iload hx hb dX7_ownTurns_14 (lv_at hl 5 rfl) ?_
      refine lv_iload_n hx hb dX7_ownTurns_16 rfl (lv_at hl 2 rfl) ?_
      refine lv_icmp_ge (tgt := 46) hx hb dX7_ownTurns_17 (by decide) (fun c17 => ?_) (fun c17 => ?_)
      · have gc17 := ai_le c17
        refine lv_iload_n hx hb dX7_ownTurns_46 rfl (lv_at hl 3 rfl) ?_
        exact W.iret (v := j14l3) hx hb hr (fun t ht hW => ⟨⟨j14l3, (), rfl, trivial, by rw [ht]; exact hP, va_K.moved hW.alike hK, hD⟩, hS.F ht⟩) hS.2.2 dX7_ownTurns_47
      · have gc17 := ai_nle c17
        have u17f_j14l5 : j14l5.toInt ≤ (2147483646 : Int) := ai_lthi gc17 (ai_max a2)
        have l17f_a2 : (1 : Int) ≤ a2.toInt := ai_ltlo gc17 bj14l5_l
        refine lv_aload_n hx hb dX7_ownTurns_20 rfl (lv_at hl 0 rfl) ?_
        refine va_get (D := (dC, dI)) (ci := 7) (v := .ref a0_7) (C := RX7) (T := TX7) (N := 11) hx hb hts zi_X7_ownTurns_7 hown hK hP 0 rfl rfl 7 (by decide) (hts (.fieldLink RX7 57 "WaxTurns" "hall" "LWaxTurns$Hall;") (List.mem_cons_of_mem _ (List.mem_append_left _ (List.mem_append_left _ (List.mem_append_left _ (List.mem_of_getElem? (i := 2) rfl)))))) (fun _ h9 => h9) rfl dX7_ownTurns_21 ?_
        refine lv_iload hx hb dX7_ownTurns_24 (lv_at hl 4 rfl) ?_
        refine zc_cutc (wc := [(a0_7, .inr (0, [.int a0_7_0, a0_7g_1, a0_7g_2, a0_7g_3, a0_7g_4, .int a0_7_5, .int a0_7_6, a0_7g_7, a0_7g_8, a0_7g_9, a0_7g_10, a0_7g_11, a0_7g_12, a0_7g_13, a0_7g_14]))]) hP hD hS hA [2] (by decide +kernel) rfl (fun hPc hDc hFc hCc => ?_)
        have hKc := zp_K hK
        refine va_calli (va_runV (As := [.int j14l4]) (rest := []) ⟨hx, hb, hml, hown, hts⟩ (c_X0_next l dC dI H.size a0_7 j14l4 a0_7_0 a0_7g_1 a0_7g_2 a0_7g_3 a0_7g_4 a0_7g_7 a0_7g_8 a0_7g_9 a0_7g_10 a0_7g_11 a0_7g_12 a0_7g_13 a0_7g_14 a0_7_5 a0_7_6 bj14l4_l bj14l4_u ba0_7_0_l ba0_7_0_u ba0_7_5_l ba0_7_5_u ba0_7_6_l ba0_7_6_u) (cwV 1 hts gX7_ownTurns_X0_next rfl rfl rfl zd_X0_next ⟨Nat.le_of_ble_eq_true rfl, Nat.le_of_ble_eq_true rfl⟩) ⟨ax_blind (fun _ _ _ _ _ => trivial), zr_0 hKc hPc (q0 := 0) rfl, ax_pre hPc hKc hDc (fun _ _ => trivial)⟩ rfl rfl hl.1 rfl (lv_room (Nat.le_of_ble_eq_true rfl)) dX7_ownTurns_26 ⟨Nat.le_of_ble_eq_true rfl, Nat.le_of_ble_eq_true rfl⟩) hS (fun q _ h => hFc q h) hFc (fun r26 u t H locs ht hvm hw hB hz1 hk1 hS1 => zo hB ht hS1 (fun hP1 hK1 hD1 hS => ?_))
        refine zc_backc (w := [(a0, .inr (7, [a0g_0, .ref a0_1, a0g_2, a0g_3, a0g_4, a0g_5, a0g_6, .ref a0_7, a0g_8, a0g_9, a0g_10])), (a0_1, .inr (5, [a0_1g_0, .int a0_1_1, a0_1g_2, a0_1g_3, a0_1g_4, a0_1g_5, a0_1g_6])), (a0_7, .inr (0, [.int a0_7_0, a0_7g_1, a0_7g_2, a0_7g_3, a0_7g_4, .int a0_7_5, .int a0_7_6, a0_7g_7, a0_7g_8, a0_7g_9, a0_7g_10, a0_7g_11, a0_7g_12, a0_7g_13, a0_7g_14]))]) hP hD hCc hk1 hFc hP1 hD1 [.inl 0, .inl 1, .inr 0] (by decide +kernel) rfl (fun hP hD => ?_)
        have hw : (0 : Int) ≤ r26.toInt ∧ r26.toInt ≤ (8 : Int) := hw
        obtain ⟨h26_0, h26_1⟩ := hw
        refine lv_istore (lv' := [(4, .int r26), (0, .ref a0), (1, .int a1), (2, .int a2), (3, .int j14l3), (5, .int j14l5)]) hx hb dX7_ownTurns_29 hl (by decide) rfl (fun ls hl => ?_)
        refine lv_iload hx hb dX7_ownTurns_31 (lv_at hl 0 rfl) ?_
        refine lv_iload_n hx hb dX7_ownTurns_33 rfl (lv_at hl 2 rfl) ?_
        have J40 : ∀ (j40l3 : Int32) (H : Heap) (locs : List Loc) (ls : Array Slot), va_P (dC, dI) vwCl [(a0, .inr (7, [a0g_0, .ref a0_1, a0g_2, a0g_3, a0g_4, a0g_5, a0g_6, .ref a0_7, a0g_8, a0g_9, a0g_10])), (a0_1, .inr (5, [a0_1g_0, .int a0_1_1, a0_1g_2, a0_1g_3, a0_1g_4, a0_1g_5, a0_1g_6])), (a0_7, .inr (0, [.int a0_7_0, a0_7g_1, a0_7g_2, a0_7g_3, a0_7g_4, .int a0_7_5, .int a0_7_6, a0_7g_7, a0_7g_8, a0_7g_9, a0_7g_10, a0_7g_11, a0_7g_12, a0_7g_13, a0_7g_14]))] H → va_D A [(a0, .inr (7, [a0g_0, .ref a0_1, a0g_2, a0g_3, a0g_4, a0g_5, a0g_6, .ref a0_7, a0g_8, a0g_9, a0g_10])), (a0_1, .inr (5, [a0_1g_0, .int a0_1_1, a0_1g_2, a0_1g_3, a0_1g_4, a0_1g_5, a0_1g_6])), (a0_7, .inr (0, [.int a0_7_0, a0_7g_1, a0_7g_2, a0_7g_3, a0_7g_4, .int a0_7_5, .int a0_7_6, a0_7g_7, a0_7g_8, a0_7g_9, a0_7g_10, a0_7g_11, a0_7g_12, a0_7g_13, a0_7g_14]))] → va_S A s.heap H locs → lv_has ls 6 [(0, .ref a0), (1, .int a1), (2, .int a2), (3, .int j40l3), (4, .int r26), (5, .int j14l5)] → K H locs (F0 m 40 ls []) := by
          intro j40l3 H locs ls   hP hD hS hl
          refine (hK0 _ _ _).mpr ?_
          obtain ⟨x40, ex40⟩ : ∃ y : Int32, y = j14l5 + Int32.ofInt 1 := ⟨_, rfl⟩
          have qx40 : x40.toInt = j14l5.toInt + 1 := ai_inc ex40 (by decide) (by decide) u17f_j14l5 (by decide)
          have bx40 : (1 : Int) ≤ x40.toInt ∧ x40.toInt ≤ 2147483647 := ⟨by rw [qx40]; exact Int.add_le_add bj14l5_l (Int.le_refl _), by rw [qx40]; exact Int.add_le_add u17f_j14l5 (Int.le_refl _)⟩
          refine lv_iinc (v := x40) (lv' := [(5, .int x40), (0, .ref a0), (1, .int a1), (2, .int a2), (3, .int j40l3), (4, .int r26)]) hx hb dX7_ownTurns_40 hl (k := 5) rfl ex40.symm (by decide) rfl (fun ls hl => ?_)
          refine lv_goto (tgt := 14) hx hb dX7_ownTurns_43 (by decide) ?_
          exact (hK0 _ _ _).mp (ih14 x40 r26 j40l3 _ _ _ (by first | exact zg_s hm14 qx40 | (have h0 := qx40; omega)) (Int.le_trans zq4 bx40.1) h26_0 h26_1 hP hD hS (lv_sub hl [1, 2, 3, 4, 5, 0] rfl))
        refine lv_icmp_ne (tgt := 40) hx hb dX7_ownTurns_34 (by decide) (fun c34 => ?_) (fun c34 => ?_)
        · have gc34 := ai_ne c34
          exact (hK0 _ _ _).mp (J40 j14l3 _ _ _   hP hD hS (lv_sub hl [1, 2, 3, 4, 0, 5] rfl))
        · have gc34 := ai_eq c34
          have u34f_a1 : a1.toInt ≤ (8 : Int) := Int.le_trans (Int.le_of_eq gc34.symm) h26_1
          have l34f_a1 : (0 : Int) ≤ a1.toInt := Int.le_trans h26_0 (Int.le_of_eq gc34)
          obtain ⟨x37, ex37⟩ : ∃ y : Int32, y = j14l3 + Int32.ofInt 1 := ⟨_, rfl⟩
          refine lv_iinc (v := x37) (lv' := [(3, .int x37), (4, .int r26), (0, .ref a0), (1, .int a1), (2, .int a2), (5, .int j14l5)]) hx hb dX7_ownTurns_37 hl (k := 4) rfl ex37.symm (by decide) rfl (fun ls hl => ?_)
          exact (hK0 _ _ _).mp (J40 x37 _ _ _   hP hD hS (lv_sub hl [2, 3, 4, 0, 1, 5] rfl))
  exact (hK0 _ _ _).mp (J14 2147483648 0 a0_1_1 0 _ _ _ (by first | decide +kernel | (have h1 : (0 : Int) ≤ (0 : Int32).toInt := zq5; have h2 : (0 : Int32).toInt ≤ (0 : Int) := zq6; omega)) zq5 ba0_1_1_l ba0_1_1_u hP hD hS (lv_sub hl [3, 4, 5, 2, 1, 0] rfl))

set_option maxHeartbeats 4000000 in
set_option maxRecDepth 100000 in
theorem c_X7_inLowestTerms (l : Launch) (dC : Nat → ClassId) (dI : Nat → Nat → Nat) (sz : Nat) (a1 : Int64) (a2 : Int64) (a3 : Int32)  : zm l yX7_inLowestTerms wsX7_inLowestTerms ({ frames := 0, cells := 0, slots := 0, locals := 0 }) [.long a1, .long a2, .int a3] dC dI sz [] [] (fun A _ => True) (fun A => va_Ql (fun (r : Int64) (_ : Unit) => True) (fun (_ : Unit) (t : State) => ax_B dC dI A [] [] t) A) := by
  refine zh (cc := cX7_inLowestTerms) (maxL := 12) (ret := (some .long)) zn_RX7 rfl (Nat.le_of_ble_eq_true rfl) (fun p e s m below meth c A ls hx hb hml hr hts (hown : s.vm.findClass RX7 = some m.cls) hlocks hA hS hP hK hD hE (hl : lv_has ls 12 [(0, .long a1), (2, .long a2), (4, .int a3)]) => ?_)
  refine ai_open (fun K hK0 => ?_)
  refine (hK0 _ _ _).mpr ?_
  refine lv_lload_n hx hb dX7_inLowestTerms_0 rfl (lv_at hl 1 rfl) ?_
  refine lv_lstore (lv' := [(5, .long a2), (0, .long a1), (2, .long a2), (4, .int a3)]) hx hb dX7_inLowestTerms_1 hl (by decide) rfl (fun ls hl => ?_)
  refine lv_lload_n hx hb dX7_inLowestTerms_3 rfl (lv_at hl 1 rfl) ?_
  refine lv_lstore (lv' := [(7, .long a1), (5, .long a2), (0, .long a1), (2, .long a2), (4, .int a3)]) hx hb dX7_inLowestTerms_4 hl (by decide) rfl (fun ls hl => ?_)
  refine lv_iconst (v := 0) hx hb dX7_inLowestTerms_6 zk_iconst_0 ?_
  refine lv_istore (lv' := [(9, .int 0), (7, .long a1), (5, .long a2), (0, .long a1), (2, .long a2), (4, .int a3)]) hx hb dX7_inLowestTerms_7 hl (by decide) rfl (fun ls hl => ?_)
  have J9 : ∀ (n : Nat) (j9l9 : Int32) (j9l7 : Int64) (j9l5 : Int64) (H : Heap) (locs : List Loc) (ls : Array Slot), (201 : Int) - j9l9.toInt ≤ (n : Int) → (0 : Int) ≤ j9l9.toInt → j9l9.toInt ≤ (200 : Int) → va_P (dC, dI) vwCl [] H → va_D A [] → va_S A s.heap H locs → lv_has ls 12 [(0, .long a1), (2, .long a2), (4, .int a3), (5, .long j9l5), (7, .long j9l7), (9, .int j9l9)] → K H locs (F0 m 9 ls []) := by
    intro n
    induction n with
    | zero =>
      intro j9l9 j9l7 j9l5 H locs ls hm bj9l9_l bj9l9_u hP hD hS hl
      first | exact zg_0 hm bj9l9_u (by decide) | (have h8 := ai_min j9l9; have h9 := ai_max j9l9; exact absurd hm (by omega))
    | succ n ih9 =>
      intro j9l9 j9l7 j9l5 H locs ls hm bj9l9_l bj9l9_u hP hD hS hl
      refine (hK0 _ _ _).mpr ?_
      have hm9 := hm
      refine lv_iload hx hb dX7_inLowestTerms_9 (lv_at hl 5 rfl) ?_
      refine lv_sipush (v := 200) hx hb dX7_inLowestTerms_11 zk_sipush_200 ?_
      have J45 : ∀ (H : Heap) (locs : List Loc) (ls : Array Slot), va_P (dC, dI) vwCl [] H → va_D A [] → va_S A s.heap H locs → lv_has ls 12 [(0, .long a1), (2, .long a2), (4, .int a3), (5, .long j9l5)] → K H locs (F0 m 45 ls []) := by
        intro  H locs ls   hP hD hS hl
        refine (hK0 _ _ _).mpr ?_
        refine lv_iload hx hb dX7_inLowestTerms_45 (lv_at hl 2 rfl) ?_
        have J55 : ∀ (j55s0 : Int64) (H : Heap) (locs : List Loc) (ls : Array Slot), va_P (dC, dI) vwCl [] H → va_D A [] → va_S A s.heap H locs → lv_has ls 12 [(5, .long j9l5)] → K H locs (F0 m 55 ls [.long j55s0]) := by
          intro j55s0 H locs ls   hP hD hS hl
          refine (hK0 _ _ _).mpr ?_
          refine lv_lstore (lv' := [(9, .long j55s0), (5, .long j9l5)]) hx hb dX7_inLowestTerms_55 hl (by decide) rfl (fun ls hl => ?_)
          refine lv_lload hx hb dX7_inLowestTerms_57 (lv_at hl 1 rfl) ?_
          refine lv_lconst (v := 0) hx hb dX7_inLowestTerms_59 (by decide) ?_
          refine W.lcmp hx hb dX7_inLowestTerms_60 ?_
          refine lv_topi (fun x60 ex60 => ?_)
          refine lv_if_ne (tgt := 69) hx hb dX7_inLowestTerms_61 (by decide) (fun c61 => ?_) (fun c61 => ?_)
          · have gc61 := ai_ne c61
            have zc61 : ¬ j9l5 = 0 := ai_lcne ex60 c61
            refine lv_lload hx hb dX7_inLowestTerms_69 (lv_at hl 0 rfl) ?_
            refine lv_lload hx hb dX7_inLowestTerms_71 (lv_at hl 1 rfl) ?_
            refine lv_ldiv hx hb dX7_inLowestTerms_73 zc61 ?_
            refine lv_topl (fun x73 ex73 => ?_)
            exact W.lret (v := x73) hx hb hr (fun t ht hW => ⟨⟨x73, (), rfl, trivial, by rw [ht]; exact hP, va_K.moved hW.alike hK, hD⟩, hS.F ht⟩) hS.2.2 dX7_inLowestTerms_74
          · have gc61 := ai_eq c61
            have u61f_x60 : x60.toInt ≤ (0 : Int) := Int.le_trans (Int.le_of_eq gc61) zq6
            have l61f_x60 : (0 : Int) ≤ x60.toInt := Int.le_trans zq5 (Int.le_of_eq gc61.symm)
            refine lv_lload hx hb dX7_inLowestTerms_64 (lv_at hl 0 rfl) ?_
            refine lv_goto (tgt := 74) hx hb dX7_inLowestTerms_66 (by decide) ?_
            exact W.lret (v := j55s0) hx hb hr (fun t ht hW => ⟨⟨j55s0, (), rfl, trivial, by rw [ht]; exact hP, va_K.moved hW.alike hK, hD⟩, hS.F ht⟩) hS.2.2 dX7_inLowestTerms_74
        refine lv_if_eq (tgt := 54) hx hb dX7_inLowestTerms_47 (by decide) (fun c47 => ?_) (fun c47 => ?_)
        · have gc47 := ai_eq c47
          have u47t_a3 : a3.toInt ≤ (0 : Int) := Int.le_trans (Int.le_of_eq gc47) zq6
          have l47t_a3 : (0 : Int) ≤ a3.toInt := Int.le_trans zq5 (Int.le_of_eq gc47.symm)
          refine lv_lload_n hx hb dX7_inLowestTerms_54 rfl (lv_at hl 0 rfl) ?_
          exact (hK0 _ _ _).mp (J55 a1 _ _ _   hP hD hS (lv_sub hl [3] rfl))
        · have gc47 := ai_ne c47
          refine lv_lload_n hx hb dX7_inLowestTerms_50 rfl (lv_at hl 1 rfl) ?_
          refine lv_goto (tgt := 55) hx hb dX7_inLowestTerms_51 (by decide) ?_
          exact (hK0 _ _ _).mp (J55 a2 _ _ _   hP hD hS (lv_sub hl [3] rfl))
      refine lv_icmp_ge (tgt := 45) hx hb dX7_inLowestTerms_14 (by decide) (fun c14 => ?_) (fun c14 => ?_)
      · have gc14 := ai_le c14
        have l14t_j9l9 : (200 : Int) ≤ j9l9.toInt := Int.le_trans zq64 gc14
        exact (hK0 _ _ _).mp (J45  _ _ _   hP hD hS (lv_sub hl [0, 1, 2, 3] rfl))
      · have gc14 := ai_nle c14
        have u14f_j9l9 : j9l9.toInt ≤ (199 : Int) := ai_lthi gc14 zq65
        refine lv_lload hx hb dX7_inLowestTerms_17 (lv_at hl 4 rfl) ?_
        refine lv_lconst (v := 0) hx hb dX7_inLowestTerms_19 (by decide) ?_
        refine W.lcmp hx hb dX7_inLowestTerms_20 ?_
        refine lv_topi (fun x20 ex20 => ?_)
        refine lv_if_eq (tgt := 45) hx hb dX7_inLowestTerms_21 (by decide) (fun c21 => ?_) (fun c21 => ?_)
        · have gc21 := ai_eq c21
          have u21t_x20 : x20.toInt ≤ (0 : Int) := Int.le_trans (Int.le_of_eq gc21) zq6
          have l21t_x20 : (0 : Int) ≤ x20.toInt := Int.le_trans zq5 (Int.le_of_eq gc21.symm)
          exact (hK0 _ _ _).mp (J45  _ _ _   hP hD hS (lv_sub hl [0, 1, 2, 3] rfl))
        · have gc21 := ai_ne c21
          have zc21 : ¬ j9l7 = 0 := ai_lcne ex20 c21
          refine lv_lload hx hb dX7_inLowestTerms_24 (lv_at hl 3 rfl) ?_
          refine lv_lload hx hb dX7_inLowestTerms_26 (lv_at hl 4 rfl) ?_
          refine lv_lrem hx hb dX7_inLowestTerms_28 zc21 ?_
          refine lv_topl (fun x28 ex28 => ?_)
          refine lv_lstore (lv' := [(10, .long x28), (0, .long a1), (2, .long a2), (4, .int a3), (5, .long j9l5), (7, .long j9l7), (9, .int j9l9)]) hx hb dX7_inLowestTerms_29 hl (by decide) rfl (fun ls hl => ?_)
          refine lv_lload hx hb dX7_inLowestTerms_31 (lv_at hl 5 rfl) ?_
          refine lv_lstore (lv' := [(5, .long j9l7), (10, .long x28), (0, .long a1), (2, .long a2), (4, .int a3), (7, .long j9l7), (9, .int j9l9)]) hx hb dX7_inLowestTerms_33 hl (by decide) rfl (fun ls hl => ?_)
          refine lv_lload hx hb dX7_inLowestTerms_35 (lv_at hl 1 rfl) ?_
          refine lv_lstore (lv' := [(7, .long x28), (5, .long j9l7), (10, .long x28), (0, .long a1), (2, .long a2), (4, .int a3), (9, .int j9l9)]) hx hb dX7_inLowestTerms_37 hl (by decide) rfl (fun ls hl => ?_)
          obtain ⟨x39, ex39⟩ : ∃ y : Int32, y = j9l9 + Int32.ofInt 1 := ⟨_, rfl⟩
          have qx39 : x39.toInt = j9l9.toInt + 1 := ai_inc ex39 (by decide) (by decide) u14f_j9l9 (by decide)
          have bx39 : (1 : Int) ≤ x39.toInt ∧ x39.toInt ≤ 200 := ⟨by rw [qx39]; exact Int.add_le_add bj9l9_l (Int.le_refl _), by rw [qx39]; exact Int.add_le_add u14f_j9l9 (Int.le_refl _)⟩
          refine lv_iinc (v := x39) (lv' := [(9, .int x39), (7, .long x28), (5, .long j9l7), (10, .long x28), (0, .long a1), (2, .long a2), (4, .int a3)]) hx hb dX7_inLowestTerms_39 hl (k := 6) rfl ex39.symm (by decide) rfl (fun ls hl => ?_)
          refine lv_goto (tgt := 9) hx hb dX7_inLowestTerms_42 (by decide) ?_
          exact (hK0 _ _ _).mp (ih9 x39 x28 j9l7 _ _ _ (by first | exact zg_s hm9 qx39 | (have h0 := qx39; omega)) (Int.le_trans zq4 bx39.1) bx39.2 hP hD hS (lv_sub hl [4, 5, 6, 2, 1, 0] rfl))
  exact (hK0 _ _ _).mp (J9 201 0 a1 a2 _ _ _ (by first | decide +kernel | (have h1 : (0 : Int) ≤ (0 : Int32).toInt := zq5; have h2 : (0 : Int32).toInt ≤ (0 : Int) := zq6; omega)) zq5 (Int.le_trans zq6 zq66) hP hD hS (lv_sub hl [3, 4, 5, 2, 1, 0] rfl))
end P107_safe
