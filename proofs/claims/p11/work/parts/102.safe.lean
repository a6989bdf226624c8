set_option maxHeartbeats 4000000 in
set_option maxRecDepth 100000 in
theorem c_X0_isHeardAt (l : Launch) (dC : Nat → ClassId) (dI : Nat → Nat → Nat) (sz : Nat) (a1 : Int32) (a2 : Int32)  : Met l yX0_isHeardAt wsX0_isHeardAt ({ frames := 0, cells := 0, slots := 0, locals := 0 }) (va_Pc [.int a1, .int a2] (ax_C dC dI sz [] [] (fun _ => True))) (va_Qi (fun (r : Int32) (_ : Unit) => (r = 1) ∨ (r = 0)) (fun (_ : Unit) (t : State) => ax_B dC dI (va_A [] sz) [] [] t) (va_A [] sz)) 0 0 (va_A [] sz) := by
  refine Met.ofW (cc := cX0_isHeardAt) (maxL := 2) (ret := (some .boolean)) (by decide) rfl ?_
  intro p e s m args below meth c s₁ B hml hv
  obtain ⟨rfl, hsz, hP, hK, hD0, hE⟩ := hv
  have hx := B.exec
  have hb := B.bytes
  have hr := B.returns
  have hts := atoms_spec (ws := wsX0_isHeardAt) B.pre
  have hown : s.vm.findClass RX0 = some m.cls := findClass_of_methodNamed B.named
  have hlocks := B.notSynchronized
  subst hsz
  have hD := hD0.self (sz := s.heap.size)
  generalize hAe : va_A [] s.heap.size = A at hD ⊢
  have hA : ∀ q : Nat, s.heap.size ≤ q → A q := fun q h => by rw [← hAe]; exact Or.inr h
  have hS : va_S A s.heap s.heap [] := va_S.rf
  have hP : va_P (dC, dI) vwCl [] s.heap := hP
  have hl := lv_entry ([.int a1, .int a2]) (n := 2) (Nat.le_of_ble_eq_true rfl)
  rw [lg_entry_eq]
  generalize (lg_sl ([.int a1, .int a2]) ++ List.replicate (2 - (lg_sl ([.int a1, .int a2])).length) Slot.unset).toArray = ls at hl ⊢
  have hl : lv_has ls 2 [(0, .int a1), (1, .int a2)] := hl
  refine lv_iload_n hx hb dX0_isHeardAt_0 rfl (lv_at hl 1 rfl) ?_
  refine lv_bipush (v := 7) hx hb dX0_isHeardAt_1 zk_bipush_7 ?_
  refine lv_iload_n hx hb dX0_isHeardAt_3 rfl (lv_at hl 0 rfl) ?_
  refine lv_ishl hx hb dX0_isHeardAt_4 ?_
  refine lv_topi (fun x4 ex4 => ?_)
  refine lv_iconst (v := 1) hx hb dX0_isHeardAt_5 zk_iconst_1 ?_
  refine lv_ishr hx hb dX0_isHeardAt_6 ?_
  refine lv_topi (fun x6 ex6 => ?_)
  have qx6 : x6.toInt = x4.toInt / 2 := ai_shr1 ex6
  refine lv_iand hx hb dX0_isHeardAt_7 ?_
  refine lv_topi (fun x7 ex7 => ?_)
  refine lv_if_eq (tgt := 15) hx hb dX0_isHeardAt_8 (by decide) (fun c8 => ?_) (fun c8 => ?_)
  · have gc8 := ai_eq c8
    have u8t_x7 : x7.toInt ≤ (0 : Int) := Int.le_trans (Int.le_of_eq gc8) zq6
    have l8t_x7 : (0 : Int) ≤ x7.toInt := Int.le_trans zq5 (Int.le_of_eq gc8.symm)
    refine lv_iconst (v := 0) hx hb dX0_isHeardAt_15 zk_iconst_0 ?_
    exact W.zret (v := 0) hx hb hr rfl (fun t ht hW => ⟨⟨0, (), rfl, (Or.inr (rfl)), by rw [ht]; exact hP, va_K.moved hW.alike hK, hD⟩, hS.F ht⟩) hS.2.2 dX0_isHeardAt_16
  · have gc8 := ai_ne c8
    refine lv_iconst (v := 1) hx hb dX0_isHeardAt_11 zk_iconst_1 ?_
    refine lv_goto (tgt := 16) hx hb dX0_isHeardAt_12 (by decide) ?_
    exact W.zret (v := 1) hx hb hr rfl (fun t ht hW => ⟨⟨1, (), rfl, (Or.inl (rfl)), by rw [ht]; exact hP, va_K.moved hW.alike hK, hD⟩, hS.F ht⟩) hS.2.2 dX0_isHeardAt_16

set_option maxHeartbeats 4000000 in
set_option maxRecDepth 100000 in
theorem c_X0_partSaid (l : Launch) (dC : Nat → ClassId) (dI : Nat → Nat → Nat) (sz : Nat) (a0 : Nat) (a1 : Int32) (a2 : Int32) (a0g_0 a0g_1 a0g_2 a0g_3 a0g_4 a0g_5 a0g_6 a0g_7 a0g_8 a0g_9 a0g_12 a0g_13 a0g_14 : Value) (a0_10 : Nat) (a0_11 : Nat) (ka0_10 : ClassId) (fa0_10 : Nat → Int32) (ka0_11 : ClassId) (fa0_11 : Nat → Int32)  : Met l yX0_partSaid wsX0_partSaid ({ frames := 1, cells := 0, slots := 0, locals := 22 }) (va_Pc [.ref a0, .int a1, .int a2] (ax_C dC dI sz [(a0, .inr (0, [a0g_0, a0g_1, a0g_2, a0g_3, a0g_4, a0g_5, a0g_6, a0g_7, a0g_8, a0g_9, .ref a0_10, .ref a0_11, a0g_12, a0g_13, a0g_14])), (a0_10, .inl (ka0_10, 9, .inl (fa0_10))), (a0_11, .inl (ka0_11, 9, .inl (fa0_11)))] [(ka0_10, .int), (ka0_11, .int)] (fun U => va_Nw (.methodLinkNest RX0 118 yX7_within RX7) U))) (va_Qi (fun (r : Int32) (_ : Unit) => True) (fun (_ : Unit) (t : State) => ax_B dC dI (va_A [(a0, .inr (0, [a0g_0, a0g_1, a0g_2, a0g_3, a0g_4, a0g_5, a0g_6, a0g_7, a0g_8, a0g_9, .ref a0_10, .ref a0_11, a0g_12, a0g_13, a0g_14])), (a0_10, .inl (ka0_10, 9, .inl (fa0_10))), (a0_11, .inl (ka0_11, 9, .inl (fa0_11)))] sz) [(a0, .inr (0, [a0g_0, a0g_1, a0g_2, a0g_3, a0g_4, a0g_5, a0g_6, a0g_7, a0g_8, a0g_9, .ref a0_10, .ref a0_11, a0g_12, a0g_13, a0g_14])), (a0_10, .inl (ka0_10, 9, .inl (fa0_10))), (a0_11, .inl (ka0_11, 9, .inl (fa0_11)))] [(ka0_10, .int), (ka0_11, .int)] t) (va_A [(a0, .inr (0, [a0g_0, a0g_1, a0g_2, a0g_3, a0g_4, a0g_5, a0g_6, a0g_7, a0g_8, a0g_9, .ref a0_10, .ref a0_11, a0g_12, a0g_13, a0g_14])), (a0_10, .inl (ka0_10, 9, .inl (fa0_10))), (a0_11, .inl (ka0_11, 9, .inl (fa0_11)))] sz)) 0 0 (va_A [(a0, .inr (0, [a0g_0, a0g_1, a0g_2, a0g_3, a0g_4, a0g_5, a0g_6, a0g_7, a0g_8, a0g_9, .ref a0_10, .ref a0_11, a0g_12, a0g_13, a0g_14])), (a0_10, .inl (ka0_10, 9, .inl (fa0_10))), (a0_11, .inl (ka0_11, 9, .inl (fa0_11)))] sz) := by
  refine Met.ofW (cc := cX0_partSaid) (maxL := 4) (ret := (some .int)) (by decide) rfl ?_
  intro p e s m args below meth c s₁ B hml hv
  obtain ⟨rfl, hsz, hP, hK, hD0, hE⟩ := hv
  have hx := B.exec
  have hb := B.bytes
  have hr := B.returns
  have hts := atoms_spec (ws := wsX0_partSaid) B.pre
  have hown : s.vm.findClass RX0 = some m.cls := findClass_of_methodNamed B.named
  have hlocks := B.notSynchronized
  subst hsz
  have hD := hD0.self (sz := s.heap.size)
  generalize hAe : va_A [(a0, .inr (0, [a0g_0, a0g_1, a0g_2, a0g_3, a0g_4, a0g_5, a0g_6, a0g_7, a0g_8, a0g_9, .ref a0_10, .ref a0_11, a0g_12, a0g_13, a0g_14])), (a0_10, .inl (ka0_10, 9, .inl (fa0_10))), (a0_11, .inl (ka0_11, 9, .inl (fa0_11)))] s.heap.size = A at hD ⊢
  have hA : ∀ q : Nat, s.heap.size ≤ q → A q := fun q h => by rw [← hAe]; exact Or.inr h
  have hS : va_S A s.heap s.heap [] := va_S.rf
  have hP : va_P (dC, dI) vwCl [(a0, .inr (0, [a0g_0, a0g_1, a0g_2, a0g_3, a0g_4, a0g_5, a0g_6, a0g_7, a0g_8, a0g_9, .ref a0_10, .ref a0_11, a0g_12, a0g_13, a0g_14])), (a0_10, .inl (ka0_10, 9, .inl (fa0_10))), (a0_11, .inl (ka0_11, 9, .inl (fa0_11)))] s.heap := hP
  have hE0 := hE
  have hl := lv_entry ([.ref a0, .int a1, .int a2]) (n := 4) (Nat.le_of_ble_eq_true rfl)
  rw [lg_entry_eq]
  generalize (lg_sl ([.ref a0, .int a1, .int a2]) ++ List.replicate (4 - (lg_sl ([.ref a0, .int a1, .int a2])).length) Slot.unset).toArray = ls at hl ⊢
  have hl : lv_has ls 4 [(0, .ref a0), (1, .int a1), (2, .int a2)] := hl
  refine lv_iload_n hx hb dX0_partSaid_0 rfl (lv_at hl 1 rfl) ?_
  refine lv_iconst (v := 0) hx hb dX0_partSaid_1 zk_iconst_0 ?_
  refine lv_bipush (v := 8) hx hb dX0_partSaid_2 zk_bipush_8 ?_
  obtain ⟨hPc, hDc, hFc, hCc⟩ := zc_cut (wc := []) hP hD hS hA [] (by decide +kernel) rfl
  have hKc := hK.sub (tys' := []) [] rfl
  refine va_calli (va_runSN (As := [.int a1, .int 0, .int 8]) (rest := []) ⟨hx, hb, hml, hown, hts⟩ (c_X7_within l dC dI s.heap.size a1 0 8 ) ⟨va_cnB 3 hts gX0_partSaid_X7_within_n118 rfl rfl rfl hE0 (hts (.initialized RX7) (List.mem_cons_of_mem _ (List.mem_append_left _ (List.mem_of_getElem? (i := 3) rfl)))) zd_X7_within.2 ⟨Nat.le_of_ble_eq_true rfl, Nat.le_of_ble_eq_true rfl⟩, (hts (.static yX7_within) (List.mem_cons_of_mem _ (List.mem_append_left _ (List.mem_of_getElem? (i := 2) rfl)))), trivial⟩ ⟨ax_blind (fun _ _ _ _ _ => trivial), ax_pre hPc hKc hDc (fun _ _ => trivial)⟩ rfl rfl hl.1 rfl (lv_room (Nat.le_of_ble_eq_true rfl)) dX0_partSaid_4 ⟨Nat.le_of_ble_eq_true rfl, Nat.le_of_ble_eq_true rfl⟩) hS (fun q _ h => hFc q h) hFc (fun r4 u t H locs ht hvm hw hB hz1 hk1 hS => ?_)
  obtain ⟨hP1, hK1, hD1⟩ := hB
  rw [ht] at hP1
  obtain ⟨hP, hD⟩ := zc_back (w := [(a0, .inr (0, [a0g_0, a0g_1, a0g_2, a0g_3, a0g_4, a0g_5, a0g_6, a0g_7, a0g_8, a0g_9, .ref a0_10, .ref a0_11, a0g_12, a0g_13, a0g_14])), (a0_10, .inl (ka0_10, 9, .inl (fa0_10))), (a0_11, .inl (ka0_11, 9, .inl (fa0_11)))]) hP hD hCc hk1 hFc hP1 hD1 [.inl 0, .inl 1, .inl 2] (by decide +kernel) rfl
  rcases hw with hw | hw
  · obtain ⟨hw, h4⟩ := hw
    subst hw
    have l4k0_a1 : (0 : Int) ≤ a1.toInt := Int.le_trans zq5 h4.1
    have u4k0_a1 : a1.toInt ≤ (8 : Int) := Int.le_trans h4.2 zq28
    refine lv_if_eq (tgt := 24) hx hb dX0_partSaid_7 (by decide) (fun c7 => absurd c7 (by decide +kernel)) (fun _ => ?_)
    refine lv_aload_n hx hb dX0_partSaid_10 rfl (lv_at hl 0 rfl) ?_
    refine va_get (D := (dC, dI)) (ci := 0) (v := .ref a0_10) (C := RX0) (T := TX0) (N := 15) hx hb hts zi_X0_partSaid_0 hown hK hP 0 rfl rfl 10 (by decide) (hts (.fieldLink RX0 9 "WaxTurns$Hall" "kinds" "[I") (List.mem_cons_of_mem _ (List.mem_append_left _ (List.mem_of_getElem? (i := 0) rfl)))) (fun _ h9 => h9) rfl dX0_partSaid_11 ?_
    refine lv_iload_n hx hb dX0_partSaid_14 rfl (lv_at hl 1 rfl) ?_
    refine va_iald hx hb hK hP 1 0 rfl rfl (ai_in l4k0_a1 u4k0_a1 (by decide) (by decide)) dX0_partSaid_15 ?_
    refine lv_topi (fun x15 ex15 => ?_)
    refine lv_iconst (v := 2) hx hb dX0_partSaid_16 zk_iconst_2 ?_
    refine lv_icmp_ne (tgt := 24) hx hb dX0_partSaid_17 (by decide) (fun c17 => ?_) (fun c17 => ?_)
    · have gc17 := ai_ne c17
      refine lv_iconst (v := 0) hx hb dX0_partSaid_24 zk_iconst_0 ?_
      refine lv_istore_n (lv' := [(3, .int 0), (0, .ref a0), (1, .int a1), (2, .int a2)]) hx hb dX0_partSaid_25 rfl hl (by decide) rfl (fun ls hl => ?_)
      refine lv_iload_n hx hb dX0_partSaid_26 rfl (lv_at hl 0 rfl) ?_
      refine lv_if_eq (tgt := 48) hx hb dX0_partSaid_27 (by decide) (fun _ => ?_) (fun c27 => absurd (by decide +kernel) c27)
      refine lv_iconst (v := 0) hx hb dX0_partSaid_48 zk_iconst_0 ?_
      exact W.iret (v := 0) hx hb hr (fun t ht hW => ⟨⟨0, (), rfl, trivial, by rw [ht]; exact hP, va_K.moved hW.alike hK, hD⟩, hS.F ht⟩) hS.2.2 dX0_partSaid_49
    · have gc17 := ai_eq c17
      have u17f_x15 : x15.toInt ≤ (2 : Int) := Int.le_trans (Int.le_of_eq gc17) zq13
      have l17f_x15 : (2 : Int) ≤ x15.toInt := Int.le_trans zq12 (Int.le_of_eq gc17.symm)
      refine lv_iconst (v := 1) hx hb dX0_partSaid_20 zk_iconst_1 ?_
      refine lv_goto (tgt := 25) hx hb dX0_partSaid_21 (by decide) ?_
      refine lv_istore_n (lv' := [(3, .int 1), (0, .ref a0), (1, .int a1), (2, .int a2)]) hx hb dX0_partSaid_25 rfl hl (by decide) rfl (fun ls hl => ?_)
      refine lv_iload_n hx hb dX0_partSaid_26 rfl (lv_at hl 0 rfl) ?_
      refine lv_if_eq (tgt := 48) hx hb dX0_partSaid_27 (by decide) (fun c27 => absurd c27 (by decide +kernel)) (fun _ => ?_)
      refine lv_iload_n hx hb dX0_partSaid_30 rfl (lv_at hl 3 rfl) ?_
      refine lv_aload_n hx hb dX0_partSaid_31 rfl (lv_at hl 1 rfl) ?_
      refine va_get (D := (dC, dI)) (ci := 0) (v := .ref a0_11) (C := RX0) (T := TX0) (N := 15) hx hb hts zi_X0_partSaid_0 hown hK hP 0 rfl rfl 11 (by decide) (hts (.fieldLink RX0 15 "WaxTurns$Hall" "measures" "[I") (List.mem_cons_of_mem _ (List.mem_append_left _ (List.mem_of_getElem? (i := 1) rfl)))) (fun _ h9 => h9) rfl dX0_partSaid_32 ?_
      refine lv_iload_n hx hb dX0_partSaid_35 rfl (lv_at hl 2 rfl) ?_
      refine va_iald hx hb hK hP 2 1 rfl rfl (ai_in l4k0_a1 u4k0_a1 (by decide) (by decide)) dX0_partSaid_36 ?_
      refine lv_topi (fun x36 ex36 => ?_)
      refine lv_icmp_gt (tgt := 48) hx hb dX0_partSaid_37 (by decide) (fun c37 => ?_) (fun c37 => ?_)
      · have gc37 := ai_lt c37
        have u37t_x36 : x36.toInt ≤ (2147483646 : Int) := ai_lthi gc37 (ai_max a2)
        have l37t_a2 : (-2147483647 : Int) ≤ a2.toInt := ai_ltlo gc37 (ai_min x36)
        refine lv_iconst (v := 0) hx hb dX0_partSaid_48 zk_iconst_0 ?_
        exact W.iret (v := 0) hx hb hr (fun t ht hW => ⟨⟨0, (), rfl, trivial, by rw [ht]; exact hP, va_K.moved hW.alike hK, hD⟩, hS.F ht⟩) hS.2.2 dX0_partSaid_49
      · have gc37 := ai_nlt c37
        refine lv_iconst (v := 1) hx hb dX0_partSaid_40 zk_iconst_1 ?_
        refine lv_iload_n hx hb dX0_partSaid_41 rfl (lv_at hl 3 rfl) ?_
        refine lv_iconst (v := 1) hx hb dX0_partSaid_42 zk_iconst_1 ?_
        refine lv_isub hx hb dX0_partSaid_43 ?_
        refine lv_topi (fun x43 ex43 => ?_)
        refine lv_ishl hx hb dX0_partSaid_44 ?_
        refine lv_topi (fun x44 ex44 => ?_)
        refine lv_goto (tgt := 49) hx hb dX0_partSaid_45 (by decide) ?_
        exact W.iret (v := x44) hx hb hr (fun t ht hW => ⟨⟨x44, (), rfl, trivial, by rw [ht]; exact hP, va_K.moved hW.alike hK, hD⟩, hS.F ht⟩) hS.2.2 dX0_partSaid_49
  · obtain ⟨hw, h4⟩ := hw
    subst hw
    refine lv_if_eq (tgt := 24) hx hb dX0_partSaid_7 (by decide) (fun _ => ?_) (fun c7 => absurd (by decide +kernel) c7)
    refine lv_iconst (v := 0) hx hb dX0_partSaid_24 zk_iconst_0 ?_
    refine lv_istore_n (lv' := [(3, .int 0), (0, .ref a0), (1, .int a1), (2, .int a2)]) hx hb dX0_partSaid_25 rfl hl (by decide) rfl (fun ls hl => ?_)
    refine lv_iload_n hx hb dX0_partSaid_26 rfl (lv_at hl 0 rfl) ?_
    refine lv_if_eq (tgt := 48) hx hb dX0_partSaid_27 (by decide) (fun _ => ?_) (fun c27 => absurd (by decide +kernel) c27)
    refine lv_iconst (v := 0) hx hb dX0_partSaid_48 zk_iconst_0 ?_
    exact W.iret (v := 0) hx hb hr (fun t ht hW => ⟨⟨0, (), rfl, trivial, by rw [ht]; exact hP, va_K.moved hW.alike hK, hD⟩, hS.F ht⟩) hS.2.2 dX0_partSaid_49

set_option maxHeartbeats 4000000 in
set_option maxRecDepth 100000 in
theorem c_X0_pass (l : Launch) (dC : Nat → ClassId) (dI : Nat → Nat → Nat) (sz : Nat) (a0 : Nat) (a1 : Nat) (a2 : Nat) (a0_0 : Int32) (a0_1 : Int32) (a0_2 : Int32) (a0g_3 a0g_4 a0g_7 a0g_8 a0g_9 a0g_12 a0g_13 a0g_14 : Value) (a0_5 : Int32) (a0_6 : Int32) (a0_10 : Nat) (a0_11 : Nat) (a1_0 : Int32) (a1_1 : Int32) (a1_2 : Int32) (a1_3 : Int32) (a1_4 : Int32) (a1_5 : Nat) (a1_6 : Nat) (ka0_10 : ClassId) (fa0_10 : Nat → Int32) (ka0_11 : ClassId) (fa0_11 : Nat → Int32) (ka1_5 : ClassId) (fa1_5 : Nat → Int32) (a2_0 : Int32) (a2_1 : Int32) (a2_2 : Nat) (a2_3 : Nat) (ka2_3 : ClassId) (fa2_3 : Nat → Int32) (ka2_2 : ClassId) (fa2_2 : Nat → Int32) (ka1_6 : ClassId) (fa1_6 : Nat → Int32) (ba0_0_l : (0 : Int) ≤ a0_0.toInt) (ba0_0_u : a0_0.toInt ≤ (9 : Int)) (ba0_5_l : (0 : Int) ≤ a0_5.toInt) (ba0_5_u : a0_5.toInt ≤ (8 : Int)) (ba0_6_l : (0 : Int) ≤ a0_6.toInt) (ba0_6_u : a0_6.toInt ≤ (8 : Int)) (ba1_1_l : (0 : Int) ≤ a1_1.toInt) (ba1_1_u : a1_1.toInt ≤ (8 : Int)) (ba2_0_l : (0 : Int) ≤ a2_0.toInt) (ba2_0_u : a2_0.toInt ≤ (3 : Int)) (bfa2_3 : (∀ k, (0 : Int) ≤ (fa2_3 k).toInt ∧ (fa2_3 k).toInt ≤ 80)) (bfa2_2 : (∀ k, (0 : Int) ≤ (fa2_2 k).toInt ∧ (fa2_2 k).toInt ≤ 80)) : Met l yX0_pass wsX0_pass ({ frames := 3, cells := 0, slots := 0, locals := 73 }) (va_Pc [.ref a0, .ref a1, .ref a2] (ax_C dC dI sz [(a0, .inr (0, [.int a0_0, .int a0_1, .int a0_2, a0g_3, a0g_4, .int a0_5, .int a0_6, a0g_7, a0g_8, a0g_9, .ref a0_10, .ref a0_11, a0g_12, a0g_13, a0g_14])), (a1, .inr (5, [.int a1_0, .int a1_1, .int a1_2, .int a1_3, .int a1_4, .ref a1_5, .ref a1_6])), (a0_10, .inl (ka0_10, 9, .inl (fa0_10))), (a0_11, .inl (ka0_11, 9, .inl (fa0_11))), (a1_5, .inl (ka1_5, 9, .inl (fa1_5))), (a2, .inr (6, [.int a2_0, .int a2_1, .ref a2_2, .ref a2_3])), (a2_3, .inl (ka2_3, 3, .inl (fa2_3))), (a2_2, .inl (ka2_2, 3, .inl (fa2_2))), (a1_6, .inl (ka1_6, 9, .inl (fa1_6)))] [(ka0_10, .int), (ka0_11, .int), (ka1_5, .int), (ka2_3, .int), (ka2_2, .int), (ka1_6, .int)] (fun U => va_Nw (.methodLinkNest RX0 118 yX7_within RX7) U ∧ va_Nw (.methodLinkNest RX5 38 yX7_hasBit RX7) U ∧ va_Nw (.methodLinkNest RX0 129 yX7_hasBit RX7) U))) (va_Qv (fun (_ : Unit) => True) (fun (_ : Unit) (t : State) => ∃ na1_0 : Int32, ∃ na1_1 : Int32, ∃ na1_2 : Int32, ∃ na1_3 : Int32, ∃ na1_4 : Int32, ∃ nfa1_5 : Nat → Int32, ∃ nfa1_6 : Nat → Int32, ((0 : Int) ≤ na1_1.toInt ∧ na1_1.toInt ≤ 8) ∧ ax_B dC dI (va_A [(a0, .inr (0, [.int a0_0, .int a0_1, .int a0_2, a0g_3, a0g_4, .int a0_5, .int a0_6, a0g_7, a0g_8, a0g_9, .ref a0_10, .ref a0_11, a0g_12, a0g_13, a0g_14])), (a1, .inr (5, [.int a1_0, .int a1_1, .int a1_2, .int a1_3, .int a1_4, .ref a1_5, .ref a1_6])), (a0_10, .inl (ka0_10, 9, .inl (fa0_10))), (a0_11, .inl (ka0_11, 9, .inl (fa0_11))), (a1_5, .inl (ka1_5, 9, .inl (fa1_5))), (a2, .inr (6, [.int a2_0, .int a2_1, .ref a2_2, .ref a2_3])), (a2_3, .inl (ka2_3, 3, .inl (fa2_3))), (a2_2, .inl (ka2_2, 3, .inl (fa2_2))), (a1_6, .inl (ka1_6, 9, .inl (fa1_6)))] sz) [(a0, .inr (0, [.int a0_0, .int a0_1, .int a0_2, a0g_3, a0g_4, .int a0_5, .int a0_6, a0g_7, a0g_8, a0g_9, .ref a0_10, .ref a0_11, a0g_12, a0g_13, a0g_14])), (a1, .inr (5, [.int na1_0, .int na1_1, .int na1_2, .int na1_3, .int na1_4, .ref a1_5, .ref a1_6])), (a0_10, .inl (ka0_10, 9, .inl (fa0_10))), (a0_11, .inl (ka0_11, 9, .inl (fa0_11))), (a1_5, .inl (ka1_5, 9, .inl (nfa1_5))), (a2, .inr (6, [.int a2_0, .int a2_1, .ref a2_2, .ref a2_3])), (a2_3, .inl (ka2_3, 3, .inl (fa2_3))), (a2_2, .inl (ka2_2, 3, .inl (fa2_2))), (a1_6, .inl (ka1_6, 9, .inl (nfa1_6)))] [(ka0_10, .int), (ka0_11, .int), (ka1_5, .int), (ka2_3, .int), (ka2_2, .int), (ka1_6, .int)] t) (va_A [(a0, .inr (0, [.int a0_0, .int a0_1, .int a0_2, a0g_3, a0g_4, .int a0_5, .int a0_6, a0g_7, a0g_8, a0g_9, .ref a0_10, .ref a0_11, a0g_12, a0g_13, a0g_14])), (a1, .inr (5, [.int a1_0, .int a1_1, .int a1_2, .int a1_3, .int a1_4, .ref a1_5, .ref a1_6])), (a0_10, .inl (ka0_10, 9, .inl (fa0_10))), (a0_11, .inl (ka0_11, 9, .inl (fa0_11))), (a1_5, .inl (ka1_5, 9, .inl (fa1_5))), (a2, .inr (6, [.int a2_0, .int a2_1, .ref a2_2, .ref a2_3])), (a2_3, .inl (ka2_3, 3, .inl (fa2_3))), (a2_2, .inl (ka2_2, 3, .inl (fa2_2))), (a1_6, .inl (ka1_6, 9, .inl (fa1_6)))] sz)) 0 0 (va_A [(a0, .inr (0, [.int a0_0, .int a0_1, .int a0_2, a0g_3, a0g_4, .int a0_5, .int a0_6, a0g_7, a0g_8, a0g_9, .ref a0_10, .ref a0_11, a0g_12, a0g_13, a0g_14])), (a1, .inr (5, [.int a1_0, .int a1_1, .int a1_2, .int a1_3, .int a1_4, .ref a1_5, .ref a1_6])), (a0_10, .inl (ka0_10, 9, .inl (fa0_10))), (a0_11, .inl (ka0_11, 9, .inl (fa0_11))), (a1_5, .inl (ka1_5, 9, .inl (fa1_5))), (a2, .inr (6, [.int a2_0, .int a2_1, .ref a2_2, .ref a2_3])), (a2_3, .inl (ka2_3, 3, .inl (fa2_3))), (a2_2, .inl (ka2_2, 3, .inl (fa2_2))), (a1_6, .inl (ka1_6, 9, .inl (fa1_6)))] sz) := by
  refine Met.ofW (cc := cX0_pass) (maxL := 6) (ret := none) (by decide) rfl ?_
  intro p e s m args below meth c s₁ B hml hv
  obtain ⟨rfl, hsz, hP, hK, hD0, hE⟩ := hv
  have hx := B.exec
  have hb := B.bytes
  have hr := B.returns
  have hts := atoms_spec (ws := wsX0_pass) B.pre
  have hown : s.vm.findClass RX0 = some m.cls := findClass_of_methodNamed B.named
  have hlocks := B.notSynchronized
  subst hsz
  have hD := hD0.self (sz := s.heap.size)
  generalize hAe : va_A [(a0, .inr (0, [.int a0_0, .int a0_1, .int a0_2, a0g_3, a0g_4, .int a0_5, .int a0_6, a0g_7, a0g_8, a0g_9, .ref a0_10, .ref a0_11, a0g_12, a0g_13, a0g_14])), (a1, .inr (5, [.int a1_0, .int a1_1, .int a1_2, .int a1_3, .int a1_4, .ref a1_5, .ref a1_6])), (a0_10, .inl (ka0_10, 9, .inl (fa0_10))), (a0_11, .inl (ka0_11, 9, .inl (fa0_11))), (a1_5, .inl (ka1_5, 9, .inl (fa1_5))), (a2, .inr (6, [.int a2_0, .int a2_1, .ref a2_2, .ref a2_3])), (a2_3, .inl (ka2_3, 3, .inl (fa2_3))), (a2_2, .inl (ka2_2, 3, .inl (fa2_2))), (a1_6, .inl (ka1_6, 9, .inl (fa1_6)))] s.heap.size = A at hD ⊢
  have hA : ∀ q : Nat, s.heap.size ≤ q → A q := fun q h => by rw [← hAe]; exact Or.inr h
  have hS : va_S A s.heap s.heap [] := va_S.rf
  have hP : va_P (dC, dI) vwCl [(a0, .inr (0, [.int a0_0, .int a0_1, .int a0_2, a0g_3, a0g_4, .int a0_5, .int a0_6, a0g_7, a0g_8, a0g_9, .ref a0_10, .ref a0_11, a0g_12, a0g_13, a0g_14])), (a1, .inr (5, [.int a1_0, .int a1_1, .int a1_2, .int a1_3, .int a1_4, .ref a1_5, .ref a1_6])), (a0_10, .inl (ka0_10, 9, .inl (fa0_10))), (a0_11, .inl (ka0_11, 9, .inl (fa0_11))), (a1_5, .inl (ka1_5, 9, .inl (fa1_5))), (a2, .inr (6, [.int a2_0, .int a2_1, .ref a2_2, .ref a2_3])), (a2_3, .inl (ka2_3, 3, .inl (fa2_3))), (a2_2, .inl (ka2_2, 3, .inl (fa2_2))), (a1_6, .inl (ka1_6, 9, .inl (fa1_6)))] s.heap := hP
  obtain ⟨hE0, hE1, hE2⟩ := hE
  have hl := lv_entry ([.ref a0, .ref a1, .ref a2]) (n := 6) (Nat.le_of_ble_eq_true rfl)
  rw [lg_entry_eq]
  generalize (lg_sl ([.ref a0, .ref a1, .ref a2]) ++ List.replicate (6 - (lg_sl ([.ref a0, .ref a1, .ref a2])).length) Slot.unset).toArray = ls at hl ⊢
  have hl : lv_has ls 6 [(0, .ref a0), (1, .ref a1), (2, .ref a2)] := hl
  refine lv_aload_n hx hb dX0_pass_0 rfl (lv_at hl 1 rfl) ?_
  refine va_get (D := (dC, dI)) (ci := 5) (v := .int a1_1) (C := RX5) (T := TX5) (N := 7) hx hb hts zi_X0_pass_5 hown hK hP 1 rfl rfl 1 (by decide) (hts (.fieldLink RX0 79 "WaxTurns$Scene" "turn" "I") (zm_X0_pass_r1 (List.mem_of_getElem? (i := 0) rfl))) (fun _ h9 => h9) rfl dX0_pass_1 ?_
  refine lv_istore_n (lv' := [(3, .int a1_1), (0, .ref a0), (1, .ref a1), (2, .ref a2)]) hx hb dX0_pass_4 rfl hl (by decide) rfl (fun ls hl => ?_)
  refine lv_aload_n hx hb dX0_pass_5 rfl (lv_at hl 2 rfl) ?_
  refine va_get (D := (dC, dI)) (ci := 5) (v := .int a1_2) (C := RX5) (T := TX5) (N := 7) hx hb hts zi_X0_pass_5 hown hK hP 1 rfl rfl 2 (by decide) (hts (.fieldLink RX0 84 "WaxTurns$Scene" "spent" "I") (zm_X0_pass_r1 (List.mem_of_getElem? (i := 1) rfl))) (fun _ h9 => h9) rfl dX0_pass_6 ?_
  refine lv_iconst (v := 1) hx hb dX0_pass_9 zk_iconst_1 ?_
  refine lv_iadd hx hb dX0_pass_10 ?_
  refine lv_topi (fun x10 ex10 => ?_)
  refine lv_istore (lv' := [(4, .int x10), (3, .int a1_1), (0, .ref a0), (1, .ref a1), (2, .ref a2)]) hx hb dX0_pass_11 hl (by decide) rfl (fun ls hl => ?_)
  refine lv_aload_n hx hb dX0_pass_13 rfl (lv_at hl 2 rfl) ?_
  refine lv_iload_n hx hb dX0_pass_14 rfl (lv_at hl 1 rfl) ?_
  refine lv_iload hx hb dX0_pass_15 (lv_at hl 0 rfl) ?_
  obtain ⟨hPc, hDc, hFc, hCc⟩ := zc_cut (wc := [(a0, .inr (0, [.int a0_0, .int a0_1, .int a0_2, a0g_3, a0g_4, .int a0_5, .int a0_6, a0g_7, a0g_8, a0g_9, .ref a0_10, .ref a0_11, a0g_12, a0g_13, a0g_14])), (a0_10, .inl (ka0_10, 9, .inl (fa0_10))), (a0_11, .inl (ka0_11, 9, .inl (fa0_11)))]) hP hD hS hA [0, 2, 3] (by decide +kernel) rfl
  have hKc := hK.sub (tys' := [(ka0_10, .int), (ka0_11, .int)]) [0, 1] rfl
  refine va_calli (va_runV (As := [.int a1_1, .int x10]) (rest := []) ⟨hx, hb, hml, hown, hts⟩ (c_X0_stepsIn l dC dI s.heap.size a0 a1_1 x10 (.int a0_0) (.int a0_1) (.int a0_2) a0g_3 a0g_4 (.int a0_5) (.int a0_6) a0g_7 a0g_8 a0g_9 a0g_12 a0g_13 a0g_14 a0_10 a0_11 ka0_10 fa0_10 ka0_11 fa0_11 ) (cwV 2 hts gX0_pass_X0_stepsIn rfl rfl rfl zd_X0_stepsIn ⟨Nat.le_of_ble_eq_true rfl, Nat.le_of_ble_eq_true rfl⟩) ⟨ax_blind (fun _ _ _ _ hq => va_Nw.same rfl rfl (hq)), zr_0 hKc hPc (q0 := 0) rfl, ax_pre hPc hKc hDc (fun _ hW => va_Nw.warmM hW hE0)⟩ rfl rfl hl.1 rfl (lv_room (Nat.le_of_ble_eq_true rfl)) dX0_pass_17 ⟨Nat.le_of_ble_eq_true rfl, Nat.le_of_ble_eq_true rfl⟩) hS (fun q _ h => hFc q h) hFc (fun r17 u t H locs ht hvm hw hB hz1 hk1 hS => ?_)
  obtain ⟨hP1, hK1, hD1⟩ := hB
  rw [ht] at hP1
  obtain ⟨hP, hD⟩ := zc_back (w := [(a0, .inr (0, [.int a0_0, .int a0_1, .int a0_2, a0g_3, a0g_4, .int a0_5, .int a0_6, a0g_7, a0g_8, a0g_9, .ref a0_10, .ref a0_11, a0g_12, a0g_13, a0g_14])), (a1, .inr (5, [.int a1_0, .int a1_1, .int a1_2, .int a1_3, .int a1_4, .ref a1_5, .ref a1_6])), (a0_10, .inl (ka0_10, 9, .inl (fa0_10))), (a0_11, .inl (ka0_11, 9, .inl (fa0_11))), (a1_5, .inl (ka1_5, 9, .inl (fa1_5))), (a2, .inr (6, [.int a2_0, .int a2_1, .ref a2_2, .ref a2_3])), (a2_3, .inl (ka2_3, 3, .inl (fa2_3))), (a2_2, .inl (ka2_2, 3, .inl (fa2_2))), (a1_6, .inl (ka1_6, 9, .inl (fa1_6)))]) hP hD hCc hk1 hFc hP1 hD1 [.inr 0, .inl 1, .inr 1, .inr 2, .inl 4, .inl 5, .inl 6, .inl 7, .inl 8] (by decide +kernel) rfl
  rcases hw with hw | hw
  · obtain ⟨hw, h17_0, h17_1⟩ := hw
    subst hw
    have l17k0_a1_1 : (0 : Int) ≤ a1_1.toInt := ba1_1_l
    have u17k0_a1_1 : a1_1.toInt ≤ (8 : Int) := ba1_1_u
    refine lv_if_eq (tgt := 30) hx hb dX0_pass_20 (by decide) (fun c20 => absurd c20 (by decide +kernel)) (fun _ => ?_)
    refine lv_aload_n hx hb dX0_pass_23 rfl (lv_at hl 2 rfl) ?_
    refine lv_aload_n hx hb dX0_pass_24 rfl (lv_at hl 3 rfl) ?_
    refine lv_iload_n hx hb dX0_pass_25 rfl (lv_at hl 1 rfl) ?_
    refine lv_aload_n hx hb dX0_pass_26 rfl (lv_at hl 4 rfl) ?_
    obtain ⟨hPc, hDc, hFc, hCc⟩ := zc_cut (wc := [(a0, .inr (0, [.int a0_0, .int a0_1, .int a0_2, a0g_3, a0g_4, .int a0_5, .int a0_6, a0g_7, a0g_8, a0g_9, .ref a0_10, .ref a0_11, a0g_12, a0g_13, a0g_14])), (a1, .inr (5, [.int a1_0, .int a1_1, .int a1_2, .int a1_3, .int a1_4, .ref a1_5, .ref a1_6])), (a1_5, .inl (ka1_5, 9, .inl (fa1_5))), (a2, .inr (6, [.int a2_0, .int a2_1, .ref a2_2, .ref a2_3])), (a2_3, .inl (ka2_3, 3, .inl (fa2_3))), (a2_2, .inl (ka2_2, 3, .inl (fa2_2)))]) hP hD hS hA [0, 1, 4, 5, 6, 7] (by decide +kernel) rfl
    have hKc := hK.sub (tys' := [(ka1_5, .int), (ka2_3, .int), (ka2_2, .int)]) [2, 3, 4] rfl
    refine va_callv (va_runV (As := [.ref a1, .int a1_1, .ref a2]) (rest := []) ⟨hx, hb, hml, hown, hts⟩ (c_X0_step l dC dI H.size a0 a1 a1_1 a2 (.int a0_0) (.int a0_1) a0g_3 a0g_4 (.int a0_5) (.int a0_6) a0g_7 a0g_8 a0g_9 (.ref a0_10) (.ref a0_11) a0g_12 a0g_13 a0g_14 a0_2 a1_0 (.int a1_1) (.int a1_2) (.ref a1_6) a1_3 a1_4 a1_5 ka1_5 fa1_5 a2_0 a2_1 a2_2 a2_3 ka2_3 fa2_3 ka2_2 fa2_2 l17k0_a1_1 u17k0_a1_1 ba2_0_l ba2_0_u bfa2_3 bfa2_2) (cwV 3 hts gX0_pass_X0_step rfl rfl rfl zd_X0_step ⟨Nat.le_of_ble_eq_true rfl, Nat.le_of_ble_eq_true rfl⟩) ⟨ax_blind (fun _ _ _ _ hq => ⟨va_Nw.same rfl rfl (hq.1), va_Nw.same rfl rfl (hq.2)⟩), zr_0 hKc hPc (q0 := 0) rfl, ax_pre hPc hKc hDc (fun _ hW => ⟨va_Nw.warmM hW hE1, va_Nw.warmM hW hE2⟩)⟩ rfl rfl hl.1 rfl (lv_room (Nat.le_of_ble_eq_true rfl)) dX0_pass_27 ⟨Nat.le_of_ble_eq_true rfl, Nat.le_of_ble_eq_true rfl⟩) hS (fun q _ h => hFc q h) hFc (fun u t H locs ht hvm hw hB hz1 hk1 hS => ?_)
    obtain ⟨v27na1_3, v27na1_4, v27nfa1_5, hP1, hK1, hD1⟩ := hB
    rw [ht] at hP1
    obtain ⟨hP, hD⟩ := zc_back (w := [(a0, .inr (0, [.int a0_0, .int a0_1, .int a0_2, a0g_3, a0g_4, .int a0_5, .int a0_6, a0g_7, a0g_8, a0g_9, .ref a0_10, .ref a0_11, a0g_12, a0g_13, a0g_14])), (a1, .inr (5, [.int a1_0, .int a1_1, .int a1_2, .int v27na1_3, .int v27na1_4, .ref a1_5, .ref a1_6])), (a0_10, .inl (ka0_10, 9, .inl (fa0_10))), (a0_11, .inl (ka0_11, 9, .inl (fa0_11))), (a1_5, .inl (ka1_5, 9, .inl (v27nfa1_5))), (a2, .inr (6, [.int a2_0, .int a2_1, .ref a2_2, .ref a2_3])), (a2_3, .inl (ka2_3, 3, .inl (fa2_3))), (a2_2, .inl (ka2_2, 3, .inl (fa2_2))), (a1_6, .inl (ka1_6, 9, .inl (fa1_6)))]) hP hD hCc hk1 hFc hP1 hD1 [.inr 0, .inr 1, .inl 2, .inl 3, .inr 2, .inr 3, .inr 4, .inr 5, .inl 8] (by decide +kernel) rfl
    refine lv_aload_n hx hb dX0_pass_30 rfl (lv_at hl 2 rfl) ?_
    refine lv_iload_n hx hb dX0_pass_31 rfl (lv_at hl 1 rfl) ?_
    refine lv_iload hx hb dX0_pass_32 (lv_at hl 0 rfl) ?_
    obtain ⟨hPc, hDc, hFc, hCc⟩ := zc_cut (wc := [(a0, .inr (0, [.int a0_0, .int a0_1, .int a0_2, a0g_3, a0g_4, .int a0_5, .int a0_6, a0g_7, a0g_8, a0g_9, .ref a0_10, .ref a0_11, a0g_12, a0g_13, a0g_14])), (a0_10, .inl (ka0_10, 9, .inl (fa0_10))), (a0_11, .inl (ka0_11, 9, .inl (fa0_11)))]) hP hD hS hA [0, 2, 3] (by decide +kernel) rfl
    have hKc := hK.sub (tys' := [(ka0_10, .int), (ka0_11, .int)]) [0, 1] rfl
    refine va_calli (va_runV (As := [.int a1_1, .int x10]) (rest := []) ⟨hx, hb, hml, hown, hts⟩ (c_X0_partSaid l dC dI H.size a0 a1_1 x10 (.int a0_0) (.int a0_1) (.int a0_2) a0g_3 a0g_4 (.int a0_5) (.int a0_6) a0g_7 a0g_8 a0g_9 a0g_12 a0g_13 a0g_14 a0_10 a0_11 ka0_10 fa0_10 ka0_11 fa0_11 ) (cwV 2 hts gX0_pass_X0_partSaid rfl rfl rfl zd_X0_partSaid ⟨Nat.le_of_ble_eq_true rfl, Nat.le_of_ble_eq_true rfl⟩) ⟨ax_blind (fun _ _ _ _ hq => va_Nw.same rfl rfl (hq)), zr_0 hKc hPc (q0 := 0) rfl, ax_pre hPc hKc hDc (fun _ hW => va_Nw.warmM hW hE0)⟩ rfl rfl hl.1 rfl (lv_room (Nat.le_of_ble_eq_true rfl)) dX0_pass_34 ⟨Nat.le_of_ble_eq_true rfl, Nat.le_of_ble_eq_true rfl⟩) hS (fun q _ h => hFc q h) hFc (fun r34 u t H locs ht hvm hw hB hz1 hk1 hS => ?_)
    obtain ⟨hP1, hK1, hD1⟩ := hB
    rw [ht] at hP1
    obtain ⟨hP, hD⟩ := zc_back (w := [(a0, .inr (0, [.int a0_0, .int a0_1, .int a0_2, a0g_3, a0g_4, .int a0_5, .int a0_6, a0g_7, a0g_8, a0g_9, .ref a0_10, .ref a0_11, a0g_12, a0g_13, a0g_14])), (a1, .inr (5, [.int a1_0, .int a1_1, .int a1_2, .int v27na1_3, .int v27na1_4, .ref a1_5, .ref a1_6])), (a0_10, .inl (ka0_10, 9, .inl (fa0_10))), (a0_11, .inl (ka0_11, 9, .inl (fa0_11))), (a1_5, .inl (ka1_5, 9, .inl (v27nfa1_5))), (a2, .inr (6, [.int a2_0, .int a2_1, .ref a2_2, .ref a2_3])), (a2_3, .inl (ka2_3, 3, .inl (fa2_3))), (a2_2, .inl (ka2_2, 3, .inl (fa2_2))), (a1_6, .inl (ka1_6, 9, .inl (fa1_6)))]) hP hD hCc hk1 hFc hP1 hD1 [.inr 0, .inl 1, .inr 1, .inr 2, .inl 4, .inl 5, .inl 6, .inl 7, .inl 8] (by decide +kernel) rfl
    refine lv_istore (lv' := [(5, .int r34), (4, .int x10), (3, .int a1_1), (0, .ref a0), (1, .ref a1), (2, .ref a2)]) hx hb dX0_pass_37 hl (by decide) rfl (fun ls hl => ?_)
    refine lv_iload hx hb dX0_pass_39 (lv_at hl 0 rfl) ?_
    refine lv_if_eq (tgt := 75) hx hb dX0_pass_41 (by decide) (fun c41 => ?_) (fun c41 => ?_)
    · have gc41 := ai_eq c41
      have u41t_r34 : r34.toInt ≤ (0 : Int) := Int.le_trans (Int.le_of_eq gc41) zq6
      have l41t_r34 : (0 : Int) ≤ r34.toInt := Int.le_trans zq5 (Int.le_of_eq gc41.symm)
      refine lv_aload_n hx hb dX0_pass_75 rfl (lv_at hl 4 rfl) ?_
      refine lv_dup hx hb dX0_pass_76 rfl ?_
      refine va_get (D := (dC, dI)) (ci := 5) (v := .int a1_0) (C := RX5) (T := TX5) (N := 7) hx hb hts zi_X0_pass_5 hown hK hP 1 rfl rfl 0 (by decide) (hts (.fieldLink RX0 102 "WaxTurns$Scene" "minute" "I") (zm_X0_pass_r1 (List.mem_of_getElem? (i := 3) rfl))) (fun _ h9 => h9) rfl dX0_pass_77 ?_
      refine lv_iconst (v := 1) hx hb dX0_pass_80 zk_iconst_1 ?_
      refine lv_iadd hx hb dX0_pass_81 ?_
      refine lv_topi (fun x81 ex81 => ?_)
      refine va_put (D := (dC, dI)) (ci := 5) (v := .int x81) (ty := .int) (C := RX5) (T := TX5) (N := 7) hx hb hts zi_X0_pass_5 tyX5 tyX5_ok nmX5 hown hK hP hD hS 1 rfl rfl 0 (by decide) (hts (.fieldLink RX0 102 "WaxTurns$Scene" "minute" "I") (zm_X0_pass_r1 (List.mem_of_getElem? (i := 3) rfl))) (fun _ h9 => h9) rfl (tyX5_ok 0 (by decide)) rfl rfl (Nat.le_of_ble_eq_true rfl) dX0_pass_82 (fun H locs hP hD hS => ?_)
      obtain ⟨hP, hD⟩ := zc_re (w := [(a0, .inr (0, [.int a0_0, .int a0_1, .int a0_2, a0g_3, a0g_4, .int a0_5, .int a0_6, a0g_7, a0g_8, a0g_9, .ref a0_10, .ref a0_11, a0g_12, a0g_13, a0g_14])), (a1, .inr (5, [.int x81, .int a1_1, .int a1_2, .int v27na1_3, .int v27na1_4, .ref a1_5, .ref a1_6])), (a0_10, .inl (ka0_10, 9, .inl (fa0_10))), (a0_11, .inl (ka0_11, 9, .inl (fa0_11))), (a1_5, .inl (ka1_5, 9, .inl (v27nfa1_5))), (a2, .inr (6, [.int a2_0, .int a2_1, .ref a2_2, .ref a2_3])), (a2_3, .inl (ka2_3, 3, .inl (fa2_3))), (a2_2, .inl (ka2_2, 3, .inl (fa2_2))), (a1_6, .inl (ka1_6, 9, .inl (fa1_6)))]) hP hD rfl
      refine lv_aload_n hx hb dX0_pass_85 rfl (lv_at hl 4 rfl) ?_
      refine lv_iload hx hb dX0_pass_86 (lv_at hl 1 rfl) ?_
      refine va_put (D := (dC, dI)) (ci := 5) (v := .int x10) (ty := .int) (C := RX5) (T := TX5) (N := 7) hx hb hts zi_X0_pass_5 tyX5 tyX5_ok nmX5 hown hK hP hD hS 1 rfl rfl 2 (by decide) (hts (.fieldLink RX0 84 "WaxTurns$Scene" "spent" "I") (zm_X0_pass_r1 (List.mem_of_getElem? (i := 1) rfl))) (fun _ h9 => h9) rfl (tyX5_ok 2 (by decide)) rfl rfl (Nat.le_of_ble_eq_true rfl) dX0_pass_88 (fun H locs hP hD hS => ?_)
      obtain ⟨hP, hD⟩ := zc_re (w := [(a0, .inr (0, [.int a0_0, .int a0_1, .int a0_2, a0g_3, a0g_4, .int a0_5, .int a0_6, a0g_7, a0g_8, a0g_9, .ref a0_10, .ref a0_11, a0g_12, a0g_13, a0g_14])), (a1, .inr (5, [.int x81, .int a1_1, .int x10, .int v27na1_3, .int v27na1_4, .ref a1_5, .ref a1_6])), (a0_10, .inl (ka0_10, 9, .inl (fa0_10))), (a0_11, .inl (ka0_11, 9, .inl (fa0_11))), (a1_5, .inl (ka1_5, 9, .inl (v27nfa1_5))), (a2, .inr (6, [.int a2_0, .int a2_1, .ref a2_2, .ref a2_3])), (a2_3, .inl (ka2_3, 3, .inl (fa2_3))), (a2_2, .inl (ka2_2, 3, .inl (fa2_2))), (a1_6, .inl (ka1_6, 9, .inl (fa1_6)))]) hP hD rfl
      refine lv_iload hx hb dX0_pass_91 (lv_at hl 1 rfl) ?_
      refine lv_aload_n hx hb dX0_pass_93 rfl (lv_at hl 3 rfl) ?_
      refine va_get (D := (dC, dI)) (ci := 0) (v := .int a0_1) (C := RX0) (T := TX0) (N := 15) hx hb hts zi_X0_pass_0 hown hK hP 0 rfl rfl 1 (by decide) (hts (.fieldLink RX0 48 "WaxTurns$Hall" "span" "I") (zm_X0_pass_r1 (List.mem_of_getElem? (i := 5) rfl))) (fun _ h9 => h9) rfl dX0_pass_94 ?_
      refine lv_icmp_lt (tgt := 109) hx hb dX0_pass_97 (by decide) (fun c97 => ?_) (fun c97 => ?_)
      · have gc97 := ai_lt c97
        have u97t_x10 : x10.toInt ≤ (2147483646 : Int) := ai_lthi gc97 (ai_max a0_1)
        have l97t_a0_1 : (-2147483647 : Int) ≤ a0_1.toInt := ai_ltlo gc97 (ai_min x10)
        exact W.vret hx hb hr (fun t ht hW => ⟨⟨(), rfl, trivial, x81, a1_1, x10, v27na1_3, v27na1_4, v27nfa1_5, fa1_6, ⟨l17k0_a1_1, u17k0_a1_1⟩, by rw [ht]; exact hP, va_K.moved hW.alike hK, hD⟩, hS.F ht⟩) hS.2.2 dX0_pass_109
      · have gc97 := ai_nlt c97
        refine lv_aload_n hx hb dX0_pass_100 rfl (lv_at hl 4 rfl) ?_
        refine lv_aload_n hx hb dX0_pass_101 rfl (lv_at hl 3 rfl) ?_
        refine lv_iload_n hx hb dX0_pass_102 rfl (lv_at hl 2 rfl) ?_
        obtain ⟨hPc, hDc, hFc, hCc⟩ := zc_cut (wc := [(a0, .inr (0, [.int a0_0, .int a0_1, .int a0_2, a0g_3, a0g_4, .int a0_5, .int a0_6, a0g_7, a0g_8, a0g_9, .ref a0_10, .ref a0_11, a0g_12, a0g_13, a0g_14]))]) hP hD hS hA [0] (by decide +kernel) rfl
        have hKc := hK.sub (tys' := []) [] rfl
        refine va_calli (va_runV (As := [.int a1_1]) (rest := [.ref a1]) ⟨hx, hb, hml, hown, hts⟩ (c_X0_next l dC dI H.size a0 a1_1 a0_0 (.int a0_1) (.int a0_2) a0g_3 a0g_4 a0g_7 a0g_8 a0g_9 (.ref a0_10) (.ref a0_11) a0g_12 a0g_13 a0g_14 a0_5 a0_6 l17k0_a1_1 u17k0_a1_1 ba0_0_l ba0_0_u ba0_5_l ba0_5_u ba0_6_l ba0_6_u) (cwV 1 hts gX0_pass_X0_next rfl rfl rfl zd_X0_next ⟨Nat.le_of_ble_eq_true rfl, Nat.le_of_ble_eq_true rfl⟩) ⟨ax_blind (fun _ _ _ _ _ => trivial), zr_0 hKc hPc (q0 := 0) rfl, ax_pre hPc hKc hDc (fun _ _ => trivial)⟩ rfl rfl hl.1 rfl (lv_room (Nat.le_of_ble_eq_true rfl)) dX0_pass_103 ⟨Nat.le_of_ble_eq_true rfl, Nat.le_of_ble_eq_true rfl⟩) hS (fun q _ h => hFc q h) hFc (fun r103 u t H locs ht hvm hw hB hz1 hk1 hS => ?_)
        obtain ⟨hP1, hK1, hD1⟩ := hB
        rw [ht] at hP1
        obtain ⟨hP, hD⟩ := zc_back (w := [(a0, .inr (0, [.int a0_0, .int a0_1, .int a0_2, a0g_3, a0g_4, .int a0_5, .int a0_6, a0g_7, a0g_8, a0g_9, .ref a0_10, .ref a0_11, a0g_12, a0g_13, a0g_14])), (a1, .inr (5, [.int x81, .int a1_1, .int x10, .int v27na1_3, .int v27na1_4, .ref a1_5, .ref a1_6])), (a0_10, .inl (ka0_10, 9, .inl (fa0_10))), (a0_11, .inl (ka0_11, 9, .inl (fa0_11))), (a1_5, .inl (ka1_5, 9, .inl (v27nfa1_5))), (a2, .inr (6, [.int a2_0, .int a2_1, .ref a2_2, .ref a2_3])), (a2_3, .inl (ka2_3, 3, .inl (fa2_3))), (a2_2, .inl (ka2_2, 3, .inl (fa2_2))), (a1_6, .inl (ka1_6, 9, .inl (fa1_6)))]) hP hD hCc hk1 hFc hP1 hD1 [.inr 0, .inl 1, .inl 2, .inl 3, .inl 4, .inl 5, .inl 6, .inl 7, .inl 8] (by decide +kernel) rfl
        have hw : (0 : Int) ≤ r103.toInt ∧ r103.toInt ≤ (8 : Int) := hw
        obtain ⟨h103_0, h103_1⟩ := hw
        obtain ⟨hPc, hDc, hFc, hCc⟩ := zc_cut (wc := [(a1, .inr (5, [.int x81, .int a1_1, .int x10, .int v27na1_3, .int v27na1_4, .ref a1_5, .ref a1_6]))]) hP hD hS hA [1] (by decide +kernel) rfl
        have hKc := hK.sub (tys' := []) [] rfl
        refine va_callv (va_runV (As := [.int r103]) (rest := []) ⟨hx, hb, hml, hown, hts⟩ (c_X5_startTurn l dC dI H.size a1 r103 (.int x81) (.int v27na1_3) (.int v27na1_4) (.ref a1_5) (.ref a1_6) a1_1 x10 h103_0 h103_1 l17k0_a1_1 u17k0_a1_1) (cwV 1 hts gX0_pass_X5_startTurn rfl rfl rfl zd_X5_startTurn ⟨Nat.le_of_ble_eq_true rfl, Nat.le_of_ble_eq_true rfl⟩) ⟨ax_blind (fun _ _ _ _ _ => trivial), zr_5 hKc hPc (q0 := 0) rfl, ax_pre hPc hKc hDc (fun _ _ => trivial)⟩ rfl rfl hl.1 rfl (lv_room (Nat.le_of_ble_eq_true rfl)) dX0_pass_106 ⟨Nat.le_of_ble_eq_true rfl, Nat.le_of_ble_eq_true rfl⟩) hS (fun q _ h => hFc q h) hFc (fun u t H locs ht hvm hw hB hz1 hk1 hS => ?_)
        obtain ⟨v106na0_1, v106na0_2, bv106na0_1, hP1, hK1, hD1⟩ := hB
        rw [ht] at hP1
        obtain ⟨hP, hD⟩ := zc_back (w := [(a0, .inr (0, [.int a0_0, .int a0_1, .int a0_2, a0g_3, a0g_4, .int a0_5, .int a0_6, a0g_7, a0g_8, a0g_9, .ref a0_10, .ref a0_11, a0g_12, a0g_13, a0g_14])), (a1, .inr (5, [.int x81, .int v106na0_1, .int v106na0_2, .int v27na1_3, .int v27na1_4, .ref a1_5, .ref a1_6])), (a0_10, .inl (ka0_10, 9, .inl (fa0_10))), (a0_11, .inl (ka0_11, 9, .inl (fa0_11))), (a1_5, .inl (ka1_5, 9, .inl (v27nfa1_5))), (a2, .inr (6, [.int a2_0, .int a2_1, .ref a2_2, .ref a2_3])), (a2_3, .inl (ka2_3, 3, .inl (fa2_3))), (a2_2, .inl (ka2_2, 3, .inl (fa2_2))), (a1_6, .inl (ka1_6, 9, .inl (fa1_6)))]) hP hD hCc hk1 hFc hP1 hD1 [.inl 0, .inr 0, .inl 2, .inl 3, .inl 4, .inl 5, .inl 6, .inl 7, .inl 8] (by decide +kernel) rfl
        exact W.vret hx hb hr (fun t ht hW => ⟨⟨(), rfl, trivial, x81, v106na0_1, v106na0_2, v27na1_3, v27na1_4, v27nfa1_5, fa1_6, ⟨bv106na0_1.1, bv106na0_1.2⟩, by rw [ht]; exact hP, va_K.moved hW.alike hK, hD⟩, hS.F ht⟩) hS.2.2 dX0_pass_109
    · have gc41 := ai_ne c41
      refine lv_aload_n hx hb dX0_pass_44 rfl (lv_at hl 4 rfl) ?_
      refine va_get (D := (dC, dI)) (ci := 5) (v := .ref a1_5) (C := RX5) (T := TX5) (N := 7) hx hb hts zi_X0_pass_5 hown hK hP 1 rfl rfl 5 (by decide) (hts (.fieldLink RX0 99 "WaxTurns$Scene" "places" "[I") (zm_X0_pass_r1 (List.mem_of_getElem? (i := 2) rfl))) (fun _ h9 => h9) rfl dX0_pass_45 ?_
      refine lv_iload_n hx hb dX0_pass_48 rfl (lv_at hl 2 rfl) ?_
      refine va_iald hx hb hK hP 4 2 rfl rfl (ai_in l17k0_a1_1 u17k0_a1_1 (by decide) (by decide)) dX0_pass_49 ?_
      refine lv_topi (fun x49 ex49 => ?_)
      refine lv_aload_n hx hb dX0_pass_50 rfl (lv_at hl 5 rfl) ?_
      refine lv_aload_n hx hb dX0_pass_51 rfl (lv_at hl 4 rfl) ?_
      refine va_get (D := (dC, dI)) (ci := 5) (v := .int a1_0) (C := RX5) (T := TX5) (N := 7) hx hb hts zi_X0_pass_5 hown hK hP 1 rfl rfl 0 (by decide) (hts (.fieldLink RX0 102 "WaxTurns$Scene" "minute" "I") (zm_X0_pass_r1 (List.mem_of_getElem? (i := 3) rfl))) (fun _ h9 => h9) rfl dX0_pass_52 ?_
      obtain ⟨hPc, hDc, hFc, hCc⟩ := zc_cut (wc := [(a2, .inr (6, [.int a2_0, .int a2_1, .ref a2_2, .ref a2_3])), (a2_3, .inl (ka2_3, 3, .inl (fa2_3))), (a2_2, .inl (ka2_2, 3, .inl (fa2_2)))]) hP hD hS hA [5, 6, 7] (by decide +kernel) rfl
      have hKc := hK.sub (tys' := [(ka2_3, .int), (ka2_2, .int)]) [3, 4] rfl
      refine va_calli (va_runV (As := [.int a1_0]) (rest := [.int x49]) ⟨hx, hb, hml, hown, hts⟩ (c_X6_placesIn l dC dI H.size a2 a1_0 a2_0 a2_1 a2_2 a2_3 ka2_3 fa2_3 ka2_2 fa2_2 ba2_0_l ba2_0_u bfa2_3 bfa2_2) (cwV 1 hts gX0_pass_X6_placesIn rfl rfl rfl zd_X6_placesIn ⟨Nat.le_of_ble_eq_true rfl, Nat.le_of_ble_eq_true rfl⟩) ⟨ax_blind (fun _ _ _ _ _ => trivial), zr_6 hKc hPc (q0 := 0) rfl, ax_pre hPc hKc hDc (fun _ _ => trivial)⟩ rfl rfl hl.1 rfl (lv_room (Nat.le_of_ble_eq_true rfl)) dX0_pass_55 ⟨Nat.le_of_ble_eq_true rfl, Nat.le_of_ble_eq_true rfl⟩) hS (fun q _ h => hFc q h) hFc (fun r55 u t H locs ht hvm hw hB hz1 hk1 hS => ?_)
      obtain ⟨hP1, hK1, hD1⟩ := hB
      rw [ht] at hP1
      obtain ⟨hP, hD⟩ := zc_back (w := [(a0, .inr (0, [.int a0_0, .int a0_1, .int a0_2, a0g_3, a0g_4, .int a0_5, .int a0_6, a0g_7, a0g_8, a0g_9, .ref a0_10, .ref a0_11, a0g_12, a0g_13, a0g_14])), (a1, .inr (5, [.int a1_0, .int a1_1, .int a1_2, .int v27na1_3, .int v27na1_4, .ref a1_5, .ref a1_6])), (a0_10, .inl (ka0_10, 9, .inl (fa0_10))), (a0_11, .inl (ka0_11, 9, .inl (fa0_11))), (a1_5, .inl (ka1_5, 9, .inl (v27nfa1_5))), (a2, .inr (6, [.int a2_0, .int a2_1, .ref a2_2, .ref a2_3])), (a2_3, .inl (ka2_3, 3, .inl (fa2_3))), (a2_2, .inl (ka2_2, 3, .inl (fa2_2))), (a1_6, .inl (ka1_6, 9, .inl (fa1_6)))]) hP hD hCc hk1 hFc hP1 hD1 [.inl 0, .inl 1, .inl 2, .inl 3, .inl 4, .inr 0, .inr 1, .inr 2, .inl 8] (by decide +kernel) rfl
      obtain ⟨hPc, hDc, hFc, hCc⟩ := zc_cut (wc := []) hP hD hS hA [] (by decide +kernel) rfl
      have hKc := hK.sub (tys' := []) [] rfl
      refine va_calli (va_runS (As := [.int x49, .int r55]) (rest := []) ⟨hx, hb, hml, hown, hts⟩ (c_X0_isHeardAt l dC dI H.size x49 r55 ) (va_cwS 2 hts gX0_pass_X0_isHeardAt rfl rfl rfl zd_X0_isHeardAt.2 ⟨Nat.le_of_ble_eq_true rfl, Nat.le_of_ble_eq_true rfl⟩) ⟨ax_blind (fun _ _ _ _ _ => trivial), ax_pre hPc hKc hDc (fun _ _ => trivial)⟩ rfl rfl hl.1 rfl (lv_room (Nat.le_of_ble_eq_true rfl)) dX0_pass_58 ⟨Nat.le_of_ble_eq_true rfl, Nat.le_of_ble_eq_true rfl⟩) hS (fun q _ h => hFc q h) hFc (fun r58 u t H locs ht hvm hw hB hz1 hk1 hS => ?_)
      obtain ⟨hP1, hK1, hD1⟩ := hB
      rw [ht] at hP1
      obtain ⟨hP, hD⟩ := zc_back (w := [(a0, .inr (0, [.int a0_0, .int a0_1, .int a0_2, a0g_3, a0g_4, .int a0_5, .int a0_6, a0g_7, a0g_8, a0g_9, .ref a0_10, .ref a0_11, a0g_12, a0g_13, a0g_14])), (a1, .inr (5, [.int a1_0, .int a1_1, .int a1_2, .int v27na1_3, .int v27na1_4, .ref a1_5, .ref a1_6])), (a0_10, .inl (ka0_10, 9, .inl (fa0_10))), (a0_11, .inl (ka0_11, 9, .inl (fa0_11))), (a1_5, .inl (ka1_5, 9, .inl (v27nfa1_5))), (a2, .inr (6, [.int a2_0, .int a2_1, .ref a2_2, .ref a2_3])), (a2_3, .inl (ka2_3, 3, .inl (fa2_3))), (a2_2, .inl (ka2_2, 3, .inl (fa2_2))), (a1_6, .inl (ka1_6, 9, .inl (fa1_6)))]) hP hD hCc hk1 hFc hP1 hD1 [.inl 0, .inl 1, .inl 2, .inl 3, .inl 4, .inl 5, .inl 6, .inl 7, .inl 8] (by decide +kernel) rfl
      rcases hw with hw | hw
      · subst hw
        refine lv_if_eq (tgt := 75) hx hb dX0_pass_61 (by decide) (fun c61 => absurd c61 (by decide +kernel)) (fun _ => ?_)
        refine lv_aload_n hx hb dX0_pass_64 rfl (lv_at hl 4 rfl) ?_
        refine va_get (D := (dC, dI)) (ci := 5) (v := .ref a1_6) (C := RX5) (T := TX5) (N := 7) hx hb hts zi_X0_pass_5 hown hK hP 1 rfl rfl 6 (by decide) (hts (.fieldLink RX0 111 "WaxTurns$Scene" "heardBits" "[I") (zm_X0_pass_r1 (List.mem_of_getElem? (i := 4) rfl))) (fun _ h9 => h9) rfl dX0_pass_65 ?_
        refine lv_iload_n hx hb dX0_pass_68 rfl (lv_at hl 2 rfl) ?_
        refine lv_dup2_11 hx hb dX0_pass_69 rfl rfl ?_
        refine va_iald hx hb hK hP 8 5 rfl rfl (ai_in l17k0_a1_1 u17k0_a1_1 (by decide) (by decide)) dX0_pass_70 ?_
        refine lv_topi (fun x70 ex70 => ?_)
        refine lv_iload hx hb dX0_pass_71 (lv_at hl 0 rfl) ?_
        refine lv_ior hx hb dX0_pass_73 ?_
        refine lv_topi (fun x73 ex73 => ?_)
        refine va_iast hx hb hK hP hD hS 8 5 rfl rfl (ai_in l17k0_a1_1 u17k0_a1_1 (by decide) (by decide)) dX0_pass_74 (fun H locs hP hD hS => ?_)
        obtain ⟨f74, hP, hD⟩ : ∃ f74 : Nat → Int32, va_P (dC, dI) vwCl [(a0, .inr (0, [.int a0_0, .int a0_1, .int a0_2, a0g_3, a0g_4, .int a0_5, .int a0_6, a0g_7, a0g_8, a0g_9, .ref a0_10, .ref a0_11, a0g_12, a0g_13, a0g_14])), (a1, .inr (5, [.int a1_0, .int a1_1, .int a1_2, .int v27na1_3, .int v27na1_4, .ref a1_5, .ref a1_6])), (a0_10, .inl (ka0_10, 9, .inl (fa0_10))), (a0_11, .inl (ka0_11, 9, .inl (fa0_11))), (a1_5, .inl (ka1_5, 9, .inl (v27nfa1_5))), (a2, .inr (6, [.int a2_0, .int a2_1, .ref a2_2, .ref a2_3])), (a2_3, .inl (ka2_3, 3, .inl (fa2_3))), (a2_2, .inl (ka2_2, 3, .inl (fa2_2))), (a1_6, .inl (ka1_6, 9, .inl (f74)))] H ∧ va_D A [(a0, .inr (0, [.int a0_0, .int a0_1, .int a0_2, a0g_3, a0g_4, .int a0_5, .int a0_6, a0g_7, a0g_8, a0g_9, .ref a0_10, .ref a0_11, a0g_12, a0g_13, a0g_14])), (a1, .inr (5, [.int a1_0, .int a1_1, .int a1_2, .int v27na1_3, .int v27na1_4, .ref a1_5, .ref a1_6])), (a0_10, .inl (ka0_10, 9, .inl (fa0_10))), (a0_11, .inl (ka0_11, 9, .inl (fa0_11))), (a1_5, .inl (ka1_5, 9, .inl (v27nfa1_5))), (a2, .inr (6, [.int a2_0, .int a2_1, .ref a2_2, .ref a2_3])), (a2_3, .inl (ka2_3, 3, .inl (fa2_3))), (a2_2, .inl (ka2_2, 3, .inl (fa2_2))), (a1_6, .inl (ka1_6, 9, .inl (f74)))] := ⟨_, hP, hD⟩
        refine lv_aload_n hx hb dX0_pass_75 rfl (lv_at hl 4 rfl) ?_
        refine lv_dup hx hb dX0_pass_76 rfl ?_
        refine va_get (D := (dC, dI)) (ci := 5) (v := .int a1_0) (C := RX5) (T := TX5) (N := 7) hx hb hts zi_X0_pass_5 hown hK hP 1 rfl rfl 0 (by decide) (hts (.fieldLink RX0 102 "WaxTurns$Scene" "minute" "I") (zm_X0_pass_r1 (List.mem_of_getElem? (i := 3) rfl))) (fun _ h9 => h9) rfl dX0_pass_77 ?_
        refine lv_iconst (v := 1) hx hb dX0_pass_80 zk_iconst_1 ?_
        refine lv_iadd hx hb dX0_pass_81 ?_
        refine lv_topi (fun x81 ex81 => ?_)
        refine va_put (D := (dC, dI)) (ci := 5) (v := .int x81) (ty := .int) (C := RX5) (T := TX5) (N := 7) hx hb hts zi_X0_pass_5 tyX5 tyX5_ok nmX5 hown hK hP hD hS 1 rfl rfl 0 (by decide) (hts (.fieldLink RX0 102 "WaxTurns$Scene" "minute" "I") (zm_X0_pass_r1 (List.mem_of_getElem? (i := 3) rfl))) (fun _ h9 => h9) rfl (tyX5_ok 0 (by decide)) rfl rfl (Nat.le_of_ble_eq_true rfl) dX0_pass_82 (fun H locs hP hD hS => ?_)
        obtain ⟨hP, hD⟩ := zc_re (w := [(a0, .inr (0, [.int a0_0, .int a0_1, .int a0_2, a0g_3, a0g_4, .int a0_5, .int a0_6, a0g_7, a0g_8, a0g_9, .ref a0_10, .ref a0_11, a0g_12, a0g_13, a0g_14])), (a1, .inr (5, [.int x81, .int a1_1, .int a1_2, .int v27na1_3, .int v27na1_4, .ref a1_5, .ref a1_6])), (a0_10, .inl (ka0_10, 9, .inl (fa0_10))), (a0_11, .inl (ka0_11, 9, .inl (fa0_11))), (a1_5, .inl (ka1_5, 9, .inl (v27nfa1_5))), (a2, .inr (6, [.int a2_0, .int a2_1, .ref a2_2, .ref a2_3])), (a2_3, .inl (ka2_3, 3, .inl (fa2_3))), (a2_2, .inl (ka2_2, 3, .inl (fa2_2))), (a1_6, .inl (ka1_6, 9, .inl (f74)))]) hP hD rfl
        refine lv_aload_n hx hb dX0_pass_85 rfl (lv_at hl 4 rfl) ?_
        refine lv_iload hx hb dX0_pass_86 (lv_at hl 1 rfl) ?_
        refine va_put (D := (dC, dI)) (ci := 5) (v := .int x10) (ty := .int) (C := RX5) (T := TX5) (N := 7) hx hb hts zi_X0_pass_5 tyX5 tyX5_ok nmX5 hown hK hP hD hS 1 rfl rfl 2 (by decide) (hts (.fieldLink RX0 84 "WaxTurns$Scene" "spent" "I") (zm_X0_pass_r1 (List.mem_of_getElem? (i := 1) rfl))) (fun _ h9 => h9) rfl (tyX5_ok 2 (by decide)) rfl rfl (Nat.le_of_ble_eq_true rfl) dX0_pass_88 (fun H locs hP hD hS => ?_)
        obtain ⟨hP, hD⟩ := zc_re (w := [(a0, .inr (0, [.int a0_0, .int a0_1, .int a0_2, a0g_3, a0g_4, .int a0_5, .int a0_6, a0g_7, a0g_8, a0g_9, .ref a0_10, .ref a0_11, a0g_12, a0g_13, a0g_14])), (a1, .inr (5, [.int x81, .int a1_1, .int x10, .int v27na1_3, .int v27na1_4, .ref a1_5, .ref a1_6])), (a0_10, .inl (ka0_10, 9, .inl (fa0_10))), (a0_11, .inl (ka0_11, 9, .inl (fa0_11))), (a1_5, .inl (ka1_5, 9, .inl (v27nfa1_5))), (a2, .inr (6, [.int a2_0, .int a2_1, .ref a2_2, .ref a2_3])), (a2_3, .inl (ka2_3, 3, .inl (fa2_3))), (a2_2, .inl (ka2_2, 3, .inl (fa2_2))), (a1_6, .inl (ka1_6, 9, .inl (f74)))]) hP hD rfl
        refine lv_iload hx hb dX0_pass_91 (lv_at hl 1 rfl) ?_
        refine lv_aload_n hx hb dX0_pass_93 rfl (lv_at hl 3 rfl) ?_
        refine va_get (D := (dC, dI)) (ci := 0) (v := .int a0_1) (C := RX0) (T := TX0) (N := 15) hx hb hts zi_X0_pass_0 hown hK hP 0 rfl rfl 1 (by decide) (hts (.fieldLink RX0 48 "WaxTurns$Hall" "span" "I") (zm_X0_pass_r1 (List.mem_of_getElem? (i := 5) rfl))) (fun _ h9 => h9) rfl dX0_pass_94 ?_
        refine lv_icmp_lt (tgt := 109) hx hb dX0_pass_97 (by decide) (fun c97 => ?_) (fun c97 => ?_)
        · have gc97 := ai_lt c97
          have u97t_x10 : x10.toInt ≤ (2147483646 : Int) := ai_lthi gc97 (ai_max a0_1)
          have l97t_a0_1 : (-2147483647 : Int) ≤ a0_1.toInt := ai_ltlo gc97 (ai_min x10)
          exact W.vret hx hb hr (fun t ht hW => ⟨⟨(), rfl, trivial, x81, a1_1, x10, v27na1_3, v27na1_4, v27nfa1_5, f74, ⟨l17k0_a1_1, u17k0_a1_1⟩, by rw [ht]; exact hP, va_K.moved hW.alike hK, hD⟩, hS.F ht⟩) hS.2.2 dX0_pass_109
        · have gc97 := ai_nlt c97
          refine lv_aload_n hx hb dX0_pass_100 rfl (lv_at hl 4 rfl) ?_
          refine lv_aload_n hx hb dX0_pass_101 rfl (lv_at hl 3 rfl) ?_
          refine lv_iload_n hx hb dX0_pass_102 rfl (lv_at hl 2 rfl) ?_
          obtain ⟨hPc, hDc, hFc, hCc⟩ := zc_cut (wc := [(a0, .inr (0, [.int a0_0, .int a0_1, .int a0_2, a0g_3, a0g_4, .int a0_5, .int a0_6, a0g_7, a0g_8, a0g_9, .ref a0_10, .ref a0_11, a0g_12, a0g_13, a0g_14]))]) hP hD hS hA [0] (by decide +kernel) rfl
          have hKc := hK.sub (tys' := []) [] rfl
          refine va_calli (va_runV (As := [.int a1_1]) (rest := [.ref a1]) ⟨hx, hb, hml, hown, hts⟩ (c_X0_next l dC dI H.size a0 a1_1 a0_0 (.int a0_1) (.int a0_2) a0g_3 a0g_4 a0g_7 a0g_8 a0g_9 (.ref a0_10) (.ref a0_11) a0g_12 a0g_13 a0g_14 a0_5 a0_6 l17k0_a1_1 u17k0_a1_1 ba0_0_l ba0_0_u ba0_5_l ba0_5_u ba0_6_l ba0_6_u) (cwV 1 hts gX0_pass_X0_next rfl rfl rfl zd_X0_next ⟨Nat.le_of_ble_eq_true rfl, Nat.le_of_ble_eq_true rfl⟩) ⟨ax_blind (fun _ _ _ _ _ => trivial), zr_0 hKc hPc (q0 := 0) rfl, ax_pre hPc hKc hDc (fun _ _ => trivial)⟩ rfl rfl hl.1 rfl (lv_room (Nat.le_of_ble_eq_true rfl)) dX0_pass_103 ⟨Nat.le_of_ble_eq_true rfl, Nat.le_of_ble_eq_true rfl⟩) hS (fun q _ h => hFc q h) hFc (fun r103 u t H locs ht hvm hw hB hz1 hk1 hS => ?_)
          obtain ⟨hP1, hK1, hD1⟩ := hB
          rw [ht] at hP1
          obtain ⟨hP, hD⟩ := zc_back (w := [(a0, .inr (0, [.int a0_0, .int a0_1, .int a0_2, a0g_3, a0g_4, .int a0_5, .int a0_6, a0g_7, a0g_8, a0g_9, .ref a0_10, .ref a0_11, a0g_12, a0g_13, a0g_14])), (a1, .inr (5, [.int x81, .int a1_1, .int x10, .int v27na1_3, .int v27na1_4, .ref a1_5, .ref a1_6])), (a0_10, .inl (ka0_10, 9, .inl (fa0_10))), (a0_11, .inl (ka0_11, 9, .inl (fa0_11))), (a1_5, .inl (ka1_5, 9, .inl (v27nfa1_5))), (a2, .inr (6, [.int a2_0, .int a2_1, .ref a2_2, .ref a2_3])), (a2_3, .inl (ka2_3, 3, .inl (fa2_3))), (a2_2, .inl (ka2_2, 3, .inl (fa2_2))), (a1_6, .inl (ka1_6, 9, .inl (f74)))]) hP hD hCc hk1 hFc hP1 hD1 [.inr 0, .inl 1, .inl 2, .inl 3, .inl 4, .inl 5, .inl 6, .inl 7, .inl 8] (by decide +kernel) rfl
          have hw : (0 : Int) ≤ r103.toInt ∧ r103.toInt ≤ (8 : Int) := hw
          obtain ⟨h103_0, h103_1⟩ := hw
          obtain ⟨hPc, hDc, hFc, hCc⟩ := zc_cut (wc := [(a1, .inr (5, [.int x81, .int a1_1, .int x10, .int v27na1_3, .int v27na1_4, .ref a1_5, .ref a1_6]))]) hP hD hS hA [1] (by decide +kernel) rfl
          have hKc := hK.sub (tys' := []) [] rfl
          refine va_callv (va_runV (As := [.int r103]) (rest := []) ⟨hx, hb, hml, hown, hts⟩ (c_X5_startTurn l dC dI H.size a1 r103 (.int x81) (.int v27na1_3) (.int v27na1_4) (.ref a1_5) (.ref a1_6) a1_1 x10 h103_0 h103_1 l17k0_a1_1 u17k0_a1_1) (cwV 1 hts gX0_pass_X5_startTurn rfl rfl rfl zd_X5_startTurn ⟨Nat.le_of_ble_eq_true rfl, Nat.le_of_ble_eq_true rfl⟩) ⟨ax_blind (fun _ _ _ _ _ => trivial), zr_5 hKc hPc (q0 := 0) rfl, ax_pre hPc hKc hDc (fun _ _ => trivial)⟩ rfl rfl hl.1 rfl (lv_room (Nat.le_of_ble_eq_true rfl)) dX0_pass_106 ⟨Nat.le_of_ble_eq_true rfl, Nat.le_of_ble_eq_true rfl⟩) hS (fun q _ h => hFc q h) hFc (fun u t H locs ht hvm hw hB hz1 hk1 hS => ?_)
          obtain ⟨v106na0_1, v106na0_2, bv106na0_1, hP1, hK1, hD1⟩ := hB
          rw [ht] at hP1
          obtain ⟨hP, hD⟩ := zc_back (w := [(a0, .inr (0, [.int a0_0, .int a0_1, .int a0_2, a0g_3, a0g_4, .int a0_5, .int a0_6, a0g_7, a0g_8, a0g_9, .ref a0_10, .ref a0_11, a0g_12, a0g_13, a0g_14])), (a1, .inr (5, [.int x81, .int v106na0_1, .int v106na0_2, .int v27na1_3, .int v27na1_4, .ref a1_5, .ref a1_6])), (a0_10, .inl (ka0_10, 9, .inl (fa0_10))), (a0_11, .inl (ka0_11, 9, .inl (fa0_11))), (a1_5, .inl (ka1_5, 9, .inl (v27nfa1_5))), (a2, .inr (6, [.int a2_0, .int a2_1, .ref a2_2, .ref a2_3])), (a2_3, .inl (ka2_3, 3, .inl (fa2_3))), (a2_2, .inl (ka2_2, 3, .inl (fa2_2))), (a1_6, .inl (ka1_6, 9, .inl (f74)))]) hP hD hCc hk1 hFc hP1 hD1 [.inl 0, .inr 0, .inl 2, .inl 3, .inl 4, .inl 5, .inl 6, .inl 7, .inl 8] (by decide +kernel) rfl
          exact W.vret hx hb hr (fun t ht hW => ⟨⟨(), rfl, trivial, x81, v106na0_1, v106na0_2, v27na1_3, v27na1_4, v27nfa1_5, f74, ⟨bv106na0_1.1, bv106na0_1.2⟩, by rw [ht]; exact hP, va_K.moved hW.alike hK, hD⟩, hS.F ht⟩) hS.2.2 dX0_pass_109
      · subst hw
        refine lv_if_eq (tgt := 75) hx hb dX0_pass_61 (by decide) (fun _ => ?_) (fun c61 => absurd (by decide +kernel) c61)
        refine lv_aload_n hx hb dX0_pass_75 rfl (lv_at hl 4 rfl) ?_
        refine lv_dup hx hb dX0_pass_76 rfl ?_
        refine va_get (D := (dC, dI)) (ci := 5) (v := .int a1_0) (C := RX5) (T := TX5) (N := 7) hx hb hts zi_X0_pass_5 hown hK hP 1 rfl rfl 0 (by decide) (hts (.fieldLink RX0 102 "WaxTurns$Scene" "minute" "I") (zm_X0_pass_r1 (List.mem_of_getElem? (i := 3) rfl))) (fun _ h9 => h9) rfl dX0_pass_77 ?_
        refine lv_iconst (v := 1) hx hb dX0_pass_80 zk_iconst_1 ?_
        refine lv_iadd hx hb dX0_pass_81 ?_
        refine lv_topi (fun x81 ex81 => ?_)
        refine va_put (D := (dC, dI)) (ci := 5) (v := .int x81) (ty := .int) (C := RX5) (T := TX5) (N := 7) hx hb hts zi_X0_pass_5 tyX5 tyX5_ok nmX5 hown hK hP hD hS 1 rfl rfl 0 (by decide) (hts (.fieldLink RX0 102 "WaxTurns$Scene" "minute" "I") (zm_X0_pass_r1 (List.mem_of_getElem? (i := 3) rfl))) (fun _ h9 => h9) rfl (tyX5_ok 0 (by decide)) rfl rfl (Nat.le_of_ble_eq_true rfl) dX0_pass_82 (fun H locs hP hD hS => ?_)
        obtain ⟨hP, hD⟩ := zc_re (w := [(a0, .inr (0, [.int a0_0, .int a0_1, .int a0_2, a0g_3, a0g_4, .int a0_5, .int a0_6, a0g_7, a0g_8, a0g_9, .ref a0_10, .ref a0_11, a0g_12, a0g_13, a0g_14])), (a1, .inr (5, [.int x81, .int a1_1, .int a1_2, .int v27na1_3, .int v27na1_4, .ref a1_5, .ref a1_6])), (a0_10, .inl (ka0_10, 9, .inl (fa0_10))), (a0_11, .inl (ka0_11, 9, .inl (fa0_11))), (a1_5, .inl (ka1_5, 9, .inl (v27nfa1_5))), (a2, .inr (6, [.int a2_0, .int a2_1, .ref a2_2, .ref a2_3])), (a2_3, .inl (ka2_3, 3, .inl (fa2_3))), (a2_2, .inl (ka2_2, 3, .inl (fa2_2))), (a1_6, .inl (ka1_6, 9, .inl (fa1_6)))]) hP hD rfl
        refine lv_aload_n hx hb dX0_pass_85 rfl (lv_at hl 4 rfl) ?_
        refine lv_iload hx hb dX0_pass_86 (lv_at hl 1 rfl) ?_
        refine va_put (D := (dC, dI)) (ci := 5) (v := .int x10) (ty := .int) (C := RX5) (T := TX5) (N := 7) hx hb hts zi_X0_pass_5 tyX5 tyX5_ok nmX5 hown hK hP hD hS 1 rfl rfl 2 (by decide) (hts (.fieldLink RX0 84 "WaxTurns$Scene" "spent" "I") (zm_X0_pass_r1 (List.mem_of_getElem? (i := 1) rfl))) (fun _ h9 => h9) rfl (tyX5_ok 2 (by decide)) rfl rfl (Nat.le_of_ble_eq_true rfl) dX0_pass_88 (fun H locs hP hD hS => ?_)
        obtain ⟨hP, hD⟩ := zc_re (w := [(a0, .inr (0, [.int a0_0, .int a0_1, .int a0_2, a0g_3, a0g_4, .int a0_5, .int a0_6, a0g_7, a0g_8, a0g_9, .ref a0_10, .ref a0_11, a0g_12, a0g_13, a0g_14])), (a1, .inr (5, [.int x81, .int a1_1, .int x10, .int v27na1_3, .int v27na1_4, .ref a1_5, .ref a1_6])), (a0_10, .inl (ka0_10, 9, .inl (fa0_10))), (a0_11, .inl (ka0_11, 9, .inl (fa0_11))), (a1_5, .inl (ka1_5, 9, .inl (v27nfa1_5))), (a2, .inr (6, [.int a2_0, .int a2_1, .ref a2_2, .ref a2_3])), (a2_3, .inl (ka2_3, 3, .inl (fa2_3))), (a2_2, .inl (ka2_2, 3, .inl (fa2_2))), (a1_6, .inl (ka1_6, 9, .inl (fa1_6)))]) hP hD rfl
        refine lv_iload hx hb dX0_pass_91 (lv_at hl 1 rfl) ?_
        refine lv_aload_n hx hb dX0_pass_93 rfl (lv_at hl 3 rfl) ?_
        refine va_get (D := (dC, dI)) (ci := 0) (v := .int a0_1) (C := RX0) (T := TX0) (N := 15) hx hb hts zi_X0_pass_0 hown hK hP 0 rfl rfl 1 (by decide) (hts (.fieldLink RX0 48 "WaxTurns$Hall" "span" "I") (zm_X0_pass_r1 (List.mem_of_getElem? (i := 5) rfl))) (fun _ h9 => h9) rfl dX0_pass_94 ?_
        refine lv_icmp_lt (tgt := 109) hx hb dX0_pass_97 (by decide) (fun c97 => ?_) (fun c97 => ?_)
        · have gc97 := ai_lt c97
          have u97t_x10 : x10.toInt ≤ (2147483646 : Int) := ai_lthi gc97 (ai_max a0_1)
          have l97t_a0_1 : (-2147483647 : Int) ≤ a0_1.toInt := ai_ltlo gc97 (ai_min x10)
          exact W.vret hx hb hr (fun t ht hW => ⟨⟨(), rfl, trivial, x81, a1_1, x10, v27na1_3, v27na1_4, v27nfa1_5, fa1_6, ⟨l17k0_a1_1, u17k0_a1_1⟩, by rw [ht]; exact hP, va_K.moved hW.alike hK, hD⟩, hS.F ht⟩) hS.2.2 dX0_pass_109
        · have gc97 := ai_nlt c97
          refine lv_aload_n hx hb dX0_pass_100 rfl (lv_at hl 4 rfl) ?_
          refine lv_aload_n hx hb dX0_pass_101 rfl (lv_at hl 3 rfl) ?_
          refine lv_iload_n hx hb dX0_pass_102 rfl (lv_at hl 2 rfl) ?_
          obtain ⟨hPc, hDc, hFc, hCc⟩ := zc_cut (wc := [(a0, .inr (0, [.int a0_0, .int a0_1, .int a0_2, a0g_3, a0g_4, .int a0_5, .int a0_6, a0g_7, a0g_8, a0g_9, .ref a0_10, .ref a0_11, a0g_12, a0g_13, a0g_14]))]) hP hD hS hA [0] (by decide +kernel) rfl
          have hKc := hK.sub (tys' := []) [] rfl
          refine va_calli (va_runV (As := [.int a1_1]) (rest := [.ref a1]) ⟨hx, hb, hml, hown, hts⟩ (c_X0_next l dC dI H.size a0 a1_1 a0_0 (.int a0_1) (.int a0_2) a0g_3 a0g_4 a0g_7 a0g_8 a0g_9 (.ref a0_10) (.ref a0_11) a0g_12 a0g_13 a0g_14 a0_5 a0_6 l17k0_a1_1 u17k0_a1_1 ba0_0_l ba0_0_u ba0_5_l ba0_5_u ba0_6_l ba0_6_u) (cwV 1 hts gX0_pass_X0_next rfl rfl rfl zd_X0_next ⟨Nat.le_of_ble_eq_true rfl, Nat.le_of_ble_eq_true rfl⟩) ⟨ax_blind (fun _ _ _ _ _ => trivial), zr_0 hKc hPc (q0 := 0) rfl, ax_pre hPc hKc hDc (fun _ _ => trivial)⟩ rfl rfl hl.1 rfl (lv_room (Nat.le_of_ble_eq_true rfl)) dX0_pass_103 ⟨Nat.le_of_ble_eq_true rfl, Nat.le_of_ble_eq_true rfl⟩) hS (fun q _ h => hFc q h) hFc (fun r103 u t H locs ht hvm hw hB hz1 hk1 hS => ?_)
          obtain ⟨hP1, hK1, hD1⟩ := hB
          rw [ht] at hP1
          obtain ⟨hP, hD⟩ := zc_back (w := [(a0, .inr (0, [.int a0_0, .int a0_1, .int a0_2, a0g_3, a0g_4, .int a0_5, .int a0_6, a0g_7, a0g_8, a0g_9, .ref a0_10, .ref a0_11, a0g_12, a0g_13, a0g_14])), (a1, .inr (5, [.int x81, .int a1_1, .int x10, .int v27na1_3, .int v27na1_4, .ref a1_5, .ref a1_6])), (a0_10, .inl (ka0_10, 9, .inl (fa0_10))), (a0_11, .inl (ka0_11, 9, .inl (fa0_11))), (a1_5, .inl (ka1_5, 9, .inl (v27nfa1_5))), (a2, .inr (6, [.int a2_0, .int a2_1, .ref a2_2, .ref a2_3])), (a2_3, .inl (ka2_3, 3, .inl (fa2_3))), (a2_2, .inl (ka2_2, 3, .inl (fa2_2))), (a1_6, .inl (ka1_6, 9, .inl (fa1_6)))]) hP hD hCc hk1 hFc hP1 hD1 [.inr 0, .inl 1, .inl 2, .inl 3, .inl 4, .inl 5, .inl 6, .inl 7, .inl 8] (by decide +kernel) rfl
          have hw : (0 : Int) ≤ r103.toInt ∧ r103.toInt ≤ (8 : Int) := hw
          obtain ⟨h103_0, h103_1⟩ := hw
          obtain ⟨hPc, hDc, hFc, hCc⟩ := zc_cut (wc := [(a1, .inr (5, [.int x81, .int a1_1, .int x10, .int v27na1_3, .int v27na1_4, .ref a1_5, .ref a1_6]))]) hP hD hS hA [1] (by decide +kernel) rfl
          have hKc := hK.sub (tys' := []) [] rfl
          refine va_callv (va_runV (As := [.int r103]) (rest := []) ⟨hx, hb, hml, hown, hts⟩ (c_X5_startTurn l dC dI H.size a1 r103 (.int x81) (.int v27na1_3) (.int v27na1_4) (.ref a1_5) (.ref a1_6) a1_1 x10 h103_0 h103_1 l17k0_a1_1 u17k0_a1_1) (cwV 1 hts gX0_pass_X5_startTurn rfl rfl rfl zd_X5_startTurn ⟨Nat.le_of_ble_eq_true rfl, Nat.le_of_ble_eq_true rfl⟩) ⟨ax_blind (fun _ _ _ _ _ => trivial), zr_5 hKc hPc (q0 := 0) rfl, ax_pre hPc hKc hDc (fun _ _ => trivial)⟩ rfl rfl hl.1 rfl (lv_room (Nat.le_of_ble_eq_true rfl)) dX0_pass_106 ⟨Nat.le_of_ble_eq_true rfl, Nat.le_of_ble_eq_true rfl⟩) hS (fun q _ h => hFc q h) hFc (fun u t H locs ht hvm hw hB hz1 hk1 hS => ?_)
          obtain ⟨v106na0_1, v106na0_2, bv106na0_1, hP1, hK1, hD1⟩ := hB
          rw [ht] at hP1
          obtain ⟨hP, hD⟩ := zc_back (w := [(a0, .inr (0, [.int a0_0, .int a0_1, .int a0_2, a0g_3, a0g_4, .int a0_5, .int a0_6, a0g_7, a0g_8, a0g_9, .ref a0_10, .ref a0_11, a0g_12, a0g_13, a0g_14])), (a1, .inr (5, [.int x81, .int v106na0_1, .int v106na0_2, .int v27na1_3, .int v27na1_4, .ref a1_5, .ref a1_6])), (a0_10, .inl (ka0_10, 9, .inl (fa0_10))), (a0_11, .inl (ka0_11, 9, .inl (fa0_11))), (a1_5, .inl (ka1_5, 9, .inl (v27nfa1_5))), (a2, .inr (6, [.int a2_0, .int a2_1, .ref a2_2, .ref a2_3])), (a2_3, .inl (ka2_3, 3, .inl (fa2_3))), (a2_2, .inl (ka2_2, 3, .inl (fa2_2))), (a1_6, .inl (ka1_6, 9, .inl (fa1_6)))]) hP hD hCc hk1 hFc hP1 hD1 [.inl 0, .inr 0, .inl 2, .inl 3, .inl 4, .inl 5, .inl 6, .inl 7, .inl 8] (by decide +kernel) rfl
          exact W.vret hx hb hr (fun t ht hW => ⟨⟨(), rfl, trivial, x81, v106na0_1, v106na0_2, v27na1_3, v27na1_4, v27nfa1_5, fa1_6, ⟨bv106na0_1.1, bv106na0_1.2⟩, by rw [ht]; exact hP, va_K.moved hW.alike hK, hD⟩, hS.F ht⟩) hS.2.2 dX0_pass_109
  · subst hw
    refine lv_if_eq (tgt := 30) hx hb dX0_pass_20 (by decide) (fun _ => ?_) (fun c20 => absurd (by decide +kernel) c20)
    refine lv_aload_n hx hb dX0_pass_30 rfl (lv_at hl 2 rfl) ?_
    refine lv_iload_n hx hb dX0_pass_31 rfl (lv_at hl 1 rfl) ?_
    refine lv_iload hx hb dX0_pass_32 (lv_at hl 0 rfl) ?_
    obtain ⟨hPc, hDc, hFc, hCc⟩ := zc_cut (wc := [(a0, .inr (0, [.int a0_0, .int a0_1, .int a0_2, a0g_3, a0g_4, .int a0_5, .int a0_6, a0g_7, a0g_8, a0g_9, .ref a0_10, .ref a0_11, a0g_12, a0g_13, a0g_14])), (a0_10, .inl (ka0_10, 9, .inl (fa0_10))), (a0_11, .inl (ka0_11, 9, .inl (fa0_11)))]) hP hD hS hA [0, 2, 3] (by decide +kernel) rfl
    have hKc := hK.sub (tys' := [(ka0_10, .int), (ka0_11, .int)]) [0, 1] rfl
    refine va_calli (va_runV (As := [.int a1_1, .int x10]) (rest := []) ⟨hx, hb, hml, hown, hts⟩ (c_X0_partSaid l dC dI H.size a0 a1_1 x10 (.int a0_0) (.int a0_1) (.int a0_2) a0g_3 a0g_4 (.int a0_5) (.int a0_6) a0g_7 a0g_8 a0g_9 a0g_12 a0g_13 a0g_14 a0_10 a0_11 ka0_10 fa0_10 ka0_11 fa0_11 ) (cwV 2 hts gX0_pass_X0_partSaid rfl rfl rfl zd_X0_partSaid ⟨Nat.le_of_ble_eq_true rfl, Nat.le_of_ble_eq_true rfl⟩) ⟨ax_blind (fun _ _ _ _ hq => va_Nw.same rfl rfl (hq)), zr_0 hKc hPc (q0 := 0) rfl, ax_pre hPc hKc hDc (fun _ hW => va_Nw.warmM hW hE0)⟩ rfl rfl hl.1 rfl (lv_room (Nat.le_of_ble_eq_true rfl)) dX0_pass_34 ⟨Nat.le_of_ble_eq_true rfl, Nat.le_of_ble_eq_true rfl⟩) hS (fun q _ h => hFc q h) hFc (fun r34 u t H locs ht hvm hw hB hz1 hk1 hS => ?_)
    obtain ⟨hP1, hK1, hD1⟩ := hB
    rw [ht] at hP1
    obtain ⟨hP, hD⟩ := zc_back (w := [(a0, .inr (0, [.int a0_0, .int a0_1, .int a0_2, a0g_3, a0g_4, .int a0_5, .int a0_6, a0g_7, a0g_8, a0g_9, .ref a0_10, .ref a0_11, a0g_12, a0g_13, a0g_14])), (a1, .inr (5, [.int a1_0, .int a1_1, .int a1_2, .int a1_3, .int a1_4, .ref a1_5, .ref a1_6])), (a0_10, .inl (ka0_10, 9, .inl (fa0_10))), (a0_11, .inl (ka0_11, 9, .inl (fa0_11))), (a1_5, .inl (ka1_5, 9, .inl (fa1_5))), (a2, .inr (6, [.int a2_0, .int a2_1, .ref a2_2, .ref a2_3])), (a2_3, .inl (ka2_3, 3, .inl (fa2_3))), (a2_2, .inl (ka2_2, 3, .inl (fa2_2))), (a1_6, .inl (ka1_6, 9, .inl (fa1_6)))]) hP hD hCc hk1 hFc hP1 hD1 [.inr 0, .inl 1, .inr 1, .inr 2, .inl 4, .inl 5, .inl 6, .inl 7, .inl 8] (by decide +kernel) rfl
    refine lv_istore (lv' := [(5, .int r34), (4, .int x10), (3, .int a1_1), (0, .ref a0), (1, .ref a1), (2, .ref a2)]) hx hb dX0_pass_37 hl (by decide) rfl (fun ls hl => ?_)
    refine lv_iload hx hb dX0_pass_39 (lv_at hl 0 rfl) ?_
    refine lv_if_eq (tgt := 75) hx hb dX0_pass_41 (by decide) (fun c41 => ?_) (fun c41 => ?_)
    · have gc41 := ai_eq c41
      have u41t_r34 : r34.toInt ≤ (0 : Int) := Int.le_trans (Int.le_of_eq gc41) zq6
      have l41t_r34 : (0 : Int) ≤ r34.toInt := Int.le_trans zq5 (Int.le_of_eq gc41.symm)
      refine lv_aload_n hx hb dX0_pass_75 rfl (lv_at hl 4 rfl) ?_
      refine lv_dup hx hb dX0_pass_76 rfl ?_
      refine va_get (D := (dC, dI)) (ci := 5) (v := .int a1_0) (C := RX5) (T := TX5) (N := 7) hx hb hts zi_X0_pass_5 hown hK hP 1 rfl rfl 0 (by decide) (hts (.fieldLink RX0 102 "WaxTurns$Scene" "minute" "I") (zm_X0_pass_r1 (List.mem_of_getElem? (i := 3) rfl))) (fun _ h9 => h9) rfl dX0_pass_77 ?_
      refine lv_iconst (v := 1) hx hb dX0_pass_80 zk_iconst_1 ?_
      refine lv_iadd hx hb dX0_pass_81 ?_
      refine lv_topi (fun x81 ex81 => ?_)
      refine va_put (D := (dC, dI)) (ci := 5) (v := .int x81) (ty := .int) (C := RX5) (T := TX5) (N := 7) hx hb hts zi_X0_pass_5 tyX5 tyX5_ok nmX5 hown hK hP hD hS 1 rfl rfl 0 (by decide) (hts (.fieldLink RX0 102 "WaxTurns$Scene" "minute" "I") (zm_X0_pass_r1 (List.mem_of_getElem? (i := 3) rfl))) (fun _ h9 => h9) rfl (tyX5_ok 0 (by decide)) rfl rfl (Nat.le_of_ble_eq_true rfl) dX0_pass_82 (fun H locs hP hD hS => ?_)
      obtain ⟨hP, hD⟩ := zc_re (w := [(a0, .inr (0, [.int a0_0, .int a0_1, .int a0_2, a0g_3, a0g_4, .int a0_5, .int a0_6, a0g_7, a0g_8, a0g_9, .ref a0_10, .ref a0_11, a0g_12, a0g_13, a0g_14])), (a1, .inr (5, [.int x81, .int a1_1, .int a1_2, .int a1_3, .int a1_4, .ref a1_5, .ref a1_6])), (a0_10, .inl (ka0_10, 9, .inl (fa0_10))), (a0_11, .inl (ka0_11, 9, .inl (fa0_11))), (a1_5, .inl (ka1_5, 9, .inl (fa1_5))), (a2, .inr (6, [.int a2_0, .int a2_1, .ref a2_2, .ref a2_3])), (a2_3, .inl (ka2_3, 3, .inl (fa2_3))), (a2_2, .inl (ka2_2, 3, .inl (fa2_2))), (a1_6, .inl (ka1_6, 9, .inl (fa1_6)))]) hP hD rfl
      refine lv_aload_n hx hb dX0_pass_85 rfl (lv_at hl 4 rfl) ?_
      refine lv_iload hx hb dX0_pass_86 (lv_at hl 1 rfl) ?_
      refine va_put (D := (dC, dI)) (ci := 5) (v := .int x10) (ty := .int) (C := RX5) (T := TX5) (N := 7) hx hb hts zi_X0_pass_5 tyX5 tyX5_ok nmX5 hown hK hP hD hS 1 rfl rfl 2 (by decide) (hts (.fieldLink RX0 84 "WaxTurns$Scene" "spent" "I") (zm_X0_pass_r1 (List.mem_of_getElem? (i := 1) rfl))) (fun _ h9 => h9) rfl (tyX5_ok 2 (by decide)) rfl rfl (Nat.le_of_ble_eq_true rfl) dX0_pass_88 (fun H locs hP hD hS => ?_)
      obtain ⟨hP, hD⟩ := zc_re (w := [(a0, .inr (0, [.int a0_0, .int a0_1, .int a0_2, a0g_3, a0g_4, .int a0_5, .int a0_6, a0g_7, a0g_8, a0g_9, .ref a0_10, .ref a0_11, a0g_12, a0g_13, a0g_14])), (a1, .inr (5, [.int x81, .int a1_1, .int x10, .int a1_3, .int a1_4, .ref a1_5, .ref a1_6])), (a0_10, .inl (ka0_10, 9, .inl (fa0_10))), (a0_11, .inl (ka0_11, 9, .inl (fa0_11))), (a1_5, .inl (ka1_5, 9, .inl (fa1_5))), (a2, .inr (6, [.int a2_0, .int a2_1, .ref a2_2, .ref a2_3])), (a2_3, .inl (ka2_3, 3, .inl (fa2_3))), (a2_2, .inl (ka2_2, 3, .inl (fa2_2))), (a1_6, .inl (ka1_6, 9, .inl (fa1_6)))]) hP hD rfl
      refine lv_iload hx hb dX0_pass_91 (lv_at hl 1 rfl) ?_
      refine lv_aload_n hx hb dX0_pass_93 rfl (lv_at hl 3 rfl) ?_
      refine va_get (D := (dC, dI)) (ci := 0) (v := .int a0_1) (C := RX0) (T := TX0) (N := 15) hx hb hts zi_X0_pass_0 hown hK hP 0 rfl rfl 1 (by decide) (hts (.fieldLink RX0 48 "WaxTurns$Hall" "span" "I") (zm_X0_pass_r1 (List.mem_of_getElem? (i := 5) rfl))) (fun _ h9 => h9) rfl dX0_pass_94 ?_
      refine lv_icmp_lt (tgt := 109) hx hb dX0_pass_97 (by decide) (fun c97 => ?_) (fun c97 => ?_)
      · have gc97 := ai_lt c97
        have u97t_x10 : x10.toInt ≤ (2147483646 : Int) := ai_lthi gc97 (ai_max a0_1)
        have l97t_a0_1 : (-2147483647 : Int) ≤ a0_1.toInt := ai_ltlo gc97 (ai_min x10)
        exact W.vret hx hb hr (fun t ht hW => ⟨⟨(), rfl, trivial, x81, a1_1, x10, a1_3, a1_4, fa1_5, fa1_6, ⟨ba1_1_l, ba1_1_u⟩, by rw [ht]; exact hP, va_K.moved hW.alike hK, hD⟩, hS.F ht⟩) hS.2.2 dX0_pass_109
      · have gc97 := ai_nlt c97
        refine lv_aload_n hx hb dX0_pass_100 rfl (lv_at hl 4 rfl) ?_
        refine lv_aload_n hx hb dX0_pass_101 rfl (lv_at hl 3 rfl) ?_
        refine lv_iload_n hx hb dX0_pass_102 rfl (lv_at hl 2 rfl) ?_
        obtain ⟨hPc, hDc, hFc, hCc⟩ := zc_cut (wc := [(a0, .inr (0, [.int a0_0, .int a0_1, .int a0_2, a0g_3, a0g_4, .int a0_5, .int a0_6, a0g_7, a0g_8, a0g_9, .ref a0_10, .ref a0_11, a0g_12, a0g_13, a0g_14]))]) hP hD hS hA [0] (by decide +kernel) rfl
        have hKc := hK.sub (tys' := []) [] rfl
        refine va_calli (va_runV (As := [.int a1_1]) (rest := [.ref a1]) ⟨hx, hb, hml, hown, hts⟩ (c_X0_next l dC dI H.size a0 a1_1 a0_0 (.int a0_1) (.int a0_2) a0g_3 a0g_4 a0g_7 a0g_8 a0g_9 (.ref a0_10) (.ref a0_11) a0g_12 a0g_13 a0g_14 a0_5 a0_6 ba1_1_l ba1_1_u ba0_0_l ba0_0_u ba0_5_l ba0_5_u ba0_6_l ba0_6_u) (cwV 1 hts gX0_pass_X0_next rfl rfl rfl zd_X0_next ⟨Nat.le_of_ble_eq_true rfl, Nat.le_of_ble_eq_true rfl⟩) ⟨ax_blind (fun _ _ _ _ _ => trivial), zr_0 hKc hPc (q0 := 0) rfl, ax_pre hPc hKc hDc (fun _ _ => trivial)⟩ rfl rfl hl.1 rfl (lv_room (Nat.le_of_ble_eq_true rfl)) dX0_pass_103 ⟨Nat.le_of_ble_eq_true rfl, Nat.le_of_ble_eq_true rfl⟩) hS (fun q _ h => hFc q h) hFc (fun r103 u t H locs ht hvm hw hB hz1 hk1 hS => ?_)
        obtain ⟨hP1, hK1, hD1⟩ := hB
        rw [ht] at hP1
        obtain ⟨hP, hD⟩ := zc_back (w := [(a0, .inr (0, [.int a0_0, .int a0_1, .int a0_2, a0g_3, a0g_4, .int a0_5, .int a0_6, a0g_7, a0g_8, a0g_9, .ref a0_10, .ref a0_11, a0g_12, a0g_13, a0g_14])), (a1, .inr (5, [.int x81, .int a1_1, .int x10, .int a1_3, .int a1_4, .ref a1_5, .ref a1_6])), (a0_10, .inl (ka0_10, 9, .inl (fa0_10))), (a0_11, .inl (ka0_11, 9, .inl (fa0_11))), (a1_5, .inl (ka1_5, 9, .inl (fa1_5))), (a2, .inr (6, [.int a2_0, .int a2_1, .ref a2_2, .ref a2_3])), (a2_3, .inl (ka2_3, 3, .inl (fa2_3))), (a2_2, .inl (ka2_2, 3, .inl (fa2_2))), (a1_6, .inl (ka1_6, 9, .inl (fa1_6)))]) hP hD hCc hk1 hFc hP1 hD1 [.inr 0, .inl 1, .inl 2, .inl 3, .inl 4, .inl 5, .inl 6, .inl 7, .inl 8] (by decide +kernel) rfl
        have hw : (0 : Int) ≤ r103.toInt ∧ r103.toInt ≤ (8 : Int) := hw
        obtain ⟨h103_0, h103_1⟩ := hw
        obtain ⟨hPc, hDc, hFc, hCc⟩ := zc_cut (wc := [(a1, .inr (5, [.int x81, .int a1_1, .int x10, .int a1_3, .int a1_4, .ref a1_5, .ref a1_6]))]) hP hD hS hA [1] (by decide +kernel) rfl
        have hKc := hK.sub (tys' := []) [] rfl
        refine va_callv (va_runV (As := [.int r103]) (rest := []) ⟨hx, hb, hml, hown, hts⟩ (c_X5_startTurn l dC dI H.size a1 r103 (.int x81) (.int a1_3) (.int a1_4) (.ref a1_5) (.ref a1_6) a1_1 x10 h103_0 h103_1 ba1_1_l ba1_1_u) (cwV 1 hts gX0_pass_X5_startTurn rfl rfl rfl zd_X5_startTurn ⟨Nat.le_of_ble_eq_true rfl, Nat.le_of_ble_eq_true rfl⟩) ⟨ax_blind (fun _ _ _ _ _ => trivial), zr_5 hKc hPc (q0 := 0) rfl, ax_pre hPc hKc hDc (fun _ _ => trivial)⟩ rfl rfl hl.1 rfl (lv_room (Nat.le_of_ble_eq_true rfl)) dX0_pass_106 ⟨Nat.le_of_ble_eq_true rfl, Nat.le_of_ble_eq_true rfl⟩) hS (fun q _ h => hFc q h) hFc (fun u t H locs ht hvm hw hB hz1 hk1 hS => ?_)
        obtain ⟨v106na0_1, v106na0_2, bv106na0_1, hP1, hK1, hD1⟩ := hB
        rw [ht] at hP1
        obtain ⟨hP, hD⟩ := zc_back (w := [(a0, .inr (0, [.int a0_0, .int a0_1, .int a0_2, a0g_3, a0g_4, .int a0_5, .int a0_6, a0g_7, a0g_8, a0g_9, .ref a0_10, .ref a0_11, a0g_12, a0g_13, a0g_14])), (a1, .inr (5, [.int x81, .int v106na0_1, .int v106na0_2, .int a1_3, .int a1_4, .ref a1_5, .ref a1_6])), (a0_10, .inl (ka0_10, 9, .inl (fa0_10))), (a0_11, .inl (ka0_11, 9, .inl (fa0_11))), (a1_5, .inl (ka1_5, 9, .inl (fa1_5))), (a2, .inr (6, [.int a2_0, .int a2_1, .ref a2_2, .ref a2_3])), (a2_3, .inl (ka2_3, 3, .inl (fa2_3))), (a2_2, .inl (ka2_2, 3, .inl (fa2_2))), (a1_6, .inl (ka1_6, 9, .inl (fa1_6)))]) hP hD hCc hk1 hFc hP1 hD1 [.inl 0, .inr 0, .inl 2, .inl 3, .inl 4, .inl 5, .inl 6, .inl 7, .inl 8] (by decide +kernel) rfl
        exact W.vret hx hb hr (fun t ht hW => ⟨⟨(), rfl, trivial, x81, v106na0_1, v106na0_2, a1_3, a1_4, fa1_5, fa1_6, ⟨bv106na0_1.1, bv106na0_1.2⟩, by rw [ht]; exact hP, va_K.moved hW.alike hK, hD⟩, hS.F ht⟩) hS.2.2 dX0_pass_109
    · have gc41 := ai_ne c41
      refine lv_aload_n hx hb dX0_pass_44 rfl (lv_at hl 4 rfl) ?_
      refine va_get (D := (dC, dI)) (ci := 5) (v := .ref a1_5) (C := RX5) (T := TX5) (N := 7) hx hb hts zi_X0_pass_5 hown hK hP 1 rfl rfl 5 (by decide) (hts (.fieldLink RX0 99 "WaxTurns$Scene" "places" "[I") (zm_X0_pass_r1 (List.mem_of_getElem? (i := 2) rfl))) (fun _ h9 => h9) rfl dX0_pass_45 ?_
      refine lv_iload_n hx hb dX0_pass_48 rfl (lv_at hl 2 rfl) ?_
      refine va_iald hx hb hK hP 4 2 rfl rfl (ai_in ba1_1_l ba1_1_u (by decide) (by decide)) dX0_pass_49 ?_
      refine lv_topi (fun x49 ex49 => ?_)
      refine lv_aload_n hx hb dX0_pass_50 rfl (lv_at hl 5 rfl) ?_
      refine lv_aload_n hx hb dX0_pass_51 rfl (lv_at hl 4 rfl) ?_
      refine va_get (D := (dC, dI)) (ci := 5) (v := .int a1_0) (C := RX5) (T := TX5) (N := 7) hx hb hts zi_X0_pass_5 hown hK hP 1 rfl rfl 0 (by decide) (hts (.fieldLink RX0 102 "WaxTurns$Scene" "minute" "I") (zm_X0_pass_r1 (List.mem_of_getElem? (i := 3) rfl))) (fun _ h9 => h9) rfl dX0_pass_52 ?_
      obtain ⟨hPc, hDc, hFc, hCc⟩ := zc_cut (wc := [(a2, .inr (6, [.int a2_0, .int a2_1, .ref a2_2, .ref a2_3])), (a2_3, .inl (ka2_3, 3, .inl (fa2_3))), (a2_2, .inl (ka2_2, 3, .inl (fa2_2)))]) hP hD hS hA [5, 6, 7] (by decide +kernel) rfl
      have hKc := hK.sub (tys' := [(ka2_3, .int), (ka2_2, .int)]) [3, 4] rfl
      refine va_calli (va_runV (As := [.int a1_0]) (rest := [.int x49]) ⟨hx, hb, hml, hown, hts⟩ (c_X6_placesIn l dC dI H.size a2 a1_0 a2_0 a2_1 a2_2 a2_3 ka2_3 fa2_3 ka2_2 fa2_2 ba2_0_l ba2_0_u bfa2_3 bfa2_2) (cwV 1 hts gX0_pass_X6_placesIn rfl rfl rfl zd_X6_placesIn ⟨Nat.le_of_ble_eq_true rfl, Nat.le_of_ble_eq_true rfl⟩) ⟨ax_blind (fun _ _ _ _ _ => trivial), zr_6 hKc hPc (q0 := 0) rfl, ax_pre hPc hKc hDc (fun _ _ => trivial)⟩ rfl rfl hl.1 rfl (lv_room (Nat.le_of_ble_eq_true rfl)) dX0_pass_55 ⟨Nat.le_of_ble_eq_true rfl, Nat.le_of_ble_eq_true rfl⟩) hS (fun q _ h => hFc q h) hFc (fun r55 u t H locs ht hvm hw hB hz1 hk1 hS => ?_)
      obtain ⟨hP1, hK1, hD1⟩ := hB
      rw [ht] at hP1
      obtain ⟨hP, hD⟩ := zc_back (w := [(a0, .inr (0, [.int a0_0, .int a0_1, .int a0_2, a0g_3, a0g_4, .int a0_5, .int a0_6, a0g_7, a0g_8, a0g_9, .ref a0_10, .ref a0_11, a0g_12, a0g_13, a0g_14])), (a1, .inr (5, [.int a1_0, .int a1_1, .int a1_2, .int a1_3, .int a1_4, .ref a1_5, .ref a1_6])), (a0_10, .inl (ka0_10, 9, .inl (fa0_10))), (a0_11, .inl (ka0_11, 9, .inl (fa0_11))), (a1_5, .inl (ka1_5, 9, .inl (fa1_5))), (a2, .inr (6, [.int a2_0, .int a2_1, .ref a2_2, .ref a2_3])), (a2_3, .inl (ka2_3, 3, .inl (fa2_3))), (a2_2, .inl (ka2_2, 3, .inl (fa2_2))), (a1_6, .inl (ka1_6, 9, .inl (fa1_6)))]) hP hD hCc hk1 hFc hP1 hD1 [.inl 0, .inl 1, .inl 2, .inl 3, .inl 4, .inr 0, .inr 1, .inr 2, .inl 8] (by decide +kernel) rfl
      obtain ⟨hPc, hDc, hFc, hCc⟩ := zc_cut (wc := []) hP hD hS hA [] (by decide +kernel) rfl
      have hKc := hK.sub (tys' := []) [] rfl
      refine va_calli (va_runS (As := [.int x49, .int r55]) (rest := []) ⟨hx, hb, hml, hown, hts⟩ (c_X0_isHeardAt l dC dI H.size x49 r55 ) (va_cwS 2 hts gX0_pass_X0_isHeardAt rfl rfl rfl zd_X0_isHeardAt.2 ⟨Nat.le_of_ble_eq_true rfl, Nat.le_of_ble_eq_true rfl⟩) ⟨ax_blind (fun _ _ _ _ _ => trivial), ax_pre hPc hKc hDc (fun _ _ => trivial)⟩ rfl rfl hl.1 rfl (lv_room (Nat.le_of_ble_eq_true rfl)) dX0_pass_58 ⟨Nat.le_of_ble_eq_true rfl, Nat.le_of_ble_eq_true rfl⟩) hS (fun q _ h => hFc q h) hFc (fun r58 u t H locs ht hvm hw hB hz1 hk1 hS => ?_)
      obtain ⟨hP1, hK1, hD1⟩ := hB
      rw [ht] at hP1
      obtain ⟨hP, hD⟩ := zc_back (w := [(a0, .inr (0, [.int a0_0, .int a0_1, .int a0_2, a0g_3, a0g_4, .int a0_5, .int a0_6, a0g_7, a0g_8, a0g_9, .ref a0_10, .ref a0_11, a0g_12, a0g_13, a0g_14])), (a1, .inr (5, [.int a1_0, .int a1_1, .int a1_2, .int a1_3, .int a1_4, .ref a1_5, .ref a1_6])), (a0_10, .inl (ka0_10, 9, .inl (fa0_10))), (a0_11, .inl (ka0_11, 9, .inl (fa0_11))), (a1_5, .inl (ka1_5, 9, .inl (fa1_5))), (a2, .inr (6, [.int a2_0, .int a2_1, .ref a2_2, .ref a2_3])), (a2_3, .inl (ka2_3, 3, .inl (fa2_3))), (a2_2, .inl (ka2_2, 3, .inl (fa2_2))), (a1_6, .inl (ka1_6, 9, .inl (fa1_6)))]) hP hD hCc hk1 hFc hP1 hD1 [.inl 0, .inl 1, .inl 2, .inl 3, .inl 4, .inl 5, .inl 6, .inl 7, .inl 8] (by decide +kernel) rfl
      rcases hw with hw | hw
      · subst hw
        refine lv_if_eq (tgt := 75) hx hb dX0_pass_61 (by decide) (fun c61 => absurd c61 (by decide +kernel)) (fun _ => ?_)
        refine lv_aload_n hx hb dX0_pass_64 rfl (lv_at hl 4 rfl) ?_
        refine va_get (D := (dC, dI)) (ci := 5) (v := .ref a1_6) (C := RX5) (T := TX5) (N := 7) hx hb hts zi_X0_pass_5 hown hK hP 1 rfl rfl 6 (by decide) (hts (.fieldLink RX0 111 "WaxTurns$Scene" "heardBits" "[I") (zm_X0_pass_r1 (List.mem_of_getElem? (i := 4) rfl))) (fun _ h9 => h9) rfl dX0_pass_65 ?_
        refine lv_iload_n hx hb dX0_pass_68 rfl (lv_at hl 2 rfl) ?_
        refine lv_dup2_11 hx hb dX0_pass_69 rfl rfl ?_
        refine va_iald hx hb hK hP 8 5 rfl rfl (ai_in ba1_1_l ba1_1_u (by decide) (by decide)) dX0_pass_70 ?_
        refine lv_topi (fun x70 ex70 => ?_)
        refine lv_iload hx hb dX0_pass_71 (lv_at hl 0 rfl) ?_
        refine lv_ior hx hb dX0_pass_73 ?_
        refine lv_topi (fun x73 ex73 => ?_)
        refine va_iast hx hb hK hP hD hS 8 5 rfl rfl (ai_in ba1_1_l ba1_1_u (by decide) (by decide)) dX0_pass_74 (fun H locs hP hD hS => ?_)
        obtain ⟨f74, hP, hD⟩ : ∃ f74 : Nat → Int32, va_P (dC, dI) vwCl [(a0, .inr (0, [.int a0_0, .int a0_1, .int a0_2, a0g_3, a0g_4, .int a0_5, .int a0_6, a0g_7, a0g_8, a0g_9, .ref a0_10, .ref a0_11, a0g_12, a0g_13, a0g_14])), (a1, .inr (5, [.int a1_0, .int a1_1, .int a1_2, .int a1_3, .int a1_4, .ref a1_5, .ref a1_6])), (a0_10, .inl (ka0_10, 9, .inl (fa0_10))), (a0_11, .inl (ka0_11, 9, .inl (fa0_11))), (a1_5, .inl (ka1_5, 9, .inl (fa1_5))), (a2, .inr (6, [.int a2_0, .int a2_1, .ref a2_2, .ref a2_3])), (a2_3, .inl (ka2_3, 3, .inl (fa2_3))), (a2_2, .inl (ka2_2, 3, .inl (fa2_2))), (a1_6, .inl (ka1_6, 9, .inl (f74)))] H ∧ va_D A [(a0, .inr (0, [.int a0_0, .int a0_1, .int a0_2, a0g_3, a0g_4, .int a0_5, .int a0_6, a0g_7, a0g_8, a0g_9, .ref a0_10, .ref a0_11, a0g_12, a0g_13, a0g_14])), (a1, .inr (5, [.int a1_0, .int a1_1, .int a1_2, .int a1_3, .int a1_4, .ref a1_5, .ref a1_6])), (a0_10, .inl (ka0_10, 9, .inl (fa0_10))), (a0_11, .inl (ka0_11, 9, .inl (fa0_11))), (a1_5, .inl (ka1_5, 9, .inl (fa1_5))), (a2, .inr (6, [.int a2_0, .int a2_1, .ref a2_2, .ref a2_3])), (a2_3, .inl (ka2_3, 3, .inl (fa2_3))), (a2_2, .inl (ka2_2, 3, .inl (fa2_2))), (a1_6, .inl (ka1_6, 9, .inl (f74)))] := ⟨_, hP, hD⟩
        refine lv_aload_n hx hb dX0_pass_75 rfl (lv_at hl 4 rfl) ?_
        refine lv_dup hx hb dX0_pass_76 rfl ?_
        refine va_get (D := (dC, dI)) (ci := 5) (v := .int a1_0) (C := RX5) (T := TX5) (N := 7) hx hb hts zi_X0_pass_5 hown hK hP 1 rfl rfl 0 (by decide) (hts (.fieldLink RX0 102 "WaxTurns$Scene" "minute" "I") (zm_X0_pass_r1 (List.mem_of_getElem? (i := 3) rfl))) (fun _ h9 => h9) rfl dX0_pass_77 ?_
        refine lv_iconst (v := 1) hx hb dX0_pass_80 zk_iconst_1 ?_
        refine lv_iadd hx hb dX0_pass_81 ?_
        refine lv_topi (fun x81 ex81 => ?_)
        refine va_put (D := (dC, dI)) (ci := 5) (v := .int x81) (ty := .int) (C := RX5) (T := TX5) (N := 7) hx hb hts zi_X0_pass_5 tyX5 tyX5_ok nmX5 hown hK hP hD hS 1 rfl rfl 0 (by decide) (hts (.fieldLink RX0 102 "WaxTurns$Scene" "minute" "I") (zm_X0_pass_r1 (List.mem_of_getElem? (i := 3) rfl))) (fun _ h9 => h9) rfl (tyX5_ok 0 (by decide)) rfl rfl (Nat.le_of_ble_eq_true rfl) dX0_pass_82 (fun H locs hP hD hS => ?_)
        obtain ⟨hP, hD⟩ := zc_re (w := [(a0, .inr (0, [.int a0_0, .int a0_1, .int a0_2, a0g_3, a0g_4, .int a0_5, .int a0_6, a0g_7, a0g_8, a0g_9, .ref a0_10, .ref a0_11, a0g_12, a0g_13, a0g_14])), (a1, .inr (5, [.int x81, .int a1_1, .int a1_2, .int a1_3, .int a1_4, .ref a1_5, .ref a1_6])), (a0_10, .inl (ka0_10, 9, .inl (fa0_10))), (a0_11, .inl (ka0_11, 9, .inl (fa0_11))), (a1_5, .inl (ka1_5, 9, .inl (fa1_5))), (a2, .inr (6, [.int a2_0, .int a2_1, .ref a2_2, .ref a2_3])), (a2_3, .inl (ka2_3, 3, .inl (fa2_3))), (a2_2, .inl (ka2_2, 3, .inl (fa2_2))), (a1_6, .inl (ka1_6, 9, .inl (f74)))]) hP hD rfl
        refine lv_aload_n hx hb dX0_pass_85 rfl (lv_at hl 4 rfl) ?_
        refine lv_iload hx hb dX0_pass_86 (lv_at hl 1 rfl) ?_
        refine va_put (D := (dC, dI)) (ci := 5) (v := .int x10) (ty := .int) (C := RX5) (T := TX5) (N := 7) hx hb hts zi_X0_pass_5 tyX5 tyX5_ok nmX5 hown hK hP hD hS 1 rfl rfl 2 (by decide) (hts (.fieldLink RX0 84 "WaxTurns$Scene" "spent" "I") (zm_X0_pass_r1 (List.mem_of_getElem? (i := 1) rfl))) (fun _ h9 => h9) rfl (tyX5_ok 2 (by decide)) rfl rfl (Nat.le_of_ble_eq_true rfl) dX0_pass_88 (fun H locs hP hD hS => ?_)
        obtain ⟨hP, hD⟩ := zc_re (w := [(a0, .inr (0, [.int a0_0, .int a0_1, .int a0_2, a0g_3, a0g_4, .int a0_5, .int a0_6, a0g_7, a0g_8, a0g_9, .ref a0_10, .ref a0_11, a0g_12, a0g_13, a0g_14])), (a1, .inr (5, [.int x81, .int a1_1, .int x10, .int a1_3, .int a1_4, .ref a1_5, .ref a1_6])), (a0_10, .inl (ka0_10, 9, .inl (fa0_10))), (a0_11, .inl (ka0_11, 9, .inl (fa0_11))), (a1_5, .inl (ka1_5, 9, .inl (fa1_5))), (a2, .inr (6, [.int a2_0, .int a2_1, .ref a2_2, .ref a2_3])), (a2_3, .inl (ka2_3, 3, .inl (fa2_3))), (a2_2, .inl (ka2_2, 3, .inl (fa2_2))), (a1_6, .inl (ka1_6, 9, .inl (f74)))]) hP hD rfl
        refine lv_iload hx hb dX0_pass_91 (lv_at hl 1 rfl) ?_
        refine lv_aload_n hx hb dX0_pass_93 rfl (lv_at hl 3 rfl) ?_
        refine va_get (D := (dC, dI)) (ci := 0) (v := .int a0_1) (C := RX0) (T := TX0) (N := 15) hx hb hts zi_X0_pass_0 hown hK hP 0 rfl rfl 1 (by decide) (hts (.fieldLink RX0 48 "WaxTurns$Hall" "span" "I") (zm_X0_pass_r1 (List.mem_of_getElem? (i := 5) rfl))) (fun _ h9 => h9) rfl dX0_pass_94 ?_
        refine lv_icmp_lt (tgt := 109) hx hb dX0_pass_97 (by decide) (fun c97 => ?_) (fun c97 => ?_)
        · have gc97 := ai_lt c97
          have u97t_x10 : x10.toInt ≤ (2147483646 : Int) := ai_lthi gc97 (ai_max a0_1)
          have l97t_a0_1 : (-2147483647 : Int) ≤ a0_1.toInt := ai_ltlo gc97 (ai_min x10)
          exact W.vret hx hb hr (fun t ht hW => ⟨⟨(), rfl, trivial, x81, a1_1, x10, a1_3, a1_4, fa1_5, f74, ⟨ba1_1_l, ba1_1_u⟩, by rw [ht]; exact hP, va_K.moved hW.alike hK, hD⟩, hS.F ht⟩) hS.2.2 dX0_pass_109
        · have gc97 := ai_nlt c97
          refine lv_aload_n hx hb dX0_pass_100 rfl (lv_at hl 4 rfl) ?_
          refine lv_aload_n hx hb dX0_pass_101 rfl (lv_at hl 3 rfl) ?_
          refine lv_iload_n hx hb dX0_pass_102 rfl (lv_at hl 2 rfl) ?_
          obtain ⟨hPc, hDc, hFc, hCc⟩ := zc_cut (wc := [(a0, .inr (0, [.int a0_0, .int a0_1, .int a0_2, a0g_3, a0g_4, .int a0_5, .int a0_6, a0g_7, a0g_8, a0g_9, .ref a0_10, .ref a0_11, a0g_12, a0g_13, a0g_14]))]) hP hD hS hA [0] (by decide +kernel) rfl
          have hKc := hK.sub (tys' := []) [] rfl
          refine va_calli (va_runV (As := [.int a1_1]) (rest := [.ref a1]) ⟨hx, hb, hml, hown, hts⟩ (c_X0_next l dC dI H.size a0 a1_1 a0_0 (.int a0_1) (.int a0_2) a0g_3 a0g_4 a0g_7 a0g_8 a0g_9 (.ref a0_10) (.ref a0_11) a0g_12 a0g_13 a0g_14 a0_5 a0_6 ba1_1_l ba1_1_u ba0_0_l ba0_0_u ba0_5_l ba0_5_u ba0_6_l ba0_6_u) (cwV 1 hts gX0_pass_X0_next rfl rfl rfl zd_X0_next ⟨Nat.le_of_ble_eq_true rfl, Nat.le_of_ble_eq_true rfl⟩) ⟨ax_blind (fun _ _ _ _ _ => trivial), zr_0 hKc hPc (q0 := 0) rfl, ax_pre hPc hKc hDc (fun _ _ => trivial)⟩ rfl rfl hl.1 rfl (lv_room (Nat.le_of_ble_eq_true rfl)) dX0_pass_103 ⟨Nat.le_of_ble_eq_true rfl, Nat.le_of_ble_eq_true rfl⟩) hS (fun q _ h => hFc q h) hFc (fun r103 u t H locs ht hvm hw hB hz1 hk1 hS => ?_)
          obtain ⟨hP1, hK1, hD1⟩ := hB
          rw [ht] at hP1
          obtain ⟨hP, hD⟩ := zc_back (w := [(a0, .inr (0, [.int a0_0, .int a0_1, .int a0_2, a0g_3, a0g_4, .int a0_5, .int a0_6, a0g_7, a0g_8, a0g_9, .ref a0_10, .ref a0_11, a0g_12, a0g_13, a0g_14])), (a1, .inr (5, [.int x81, .int a1_1, .int x10, .int a1_3, .int a1_4, .ref a1_5, .ref a1_6])), (a0_10, .inl (ka0_10, 9, .inl (fa0_10))), (a0_11, .inl (ka0_11, 9, .inl (fa0_11))), (a1_5, .inl (ka1_5, 9, .inl (fa1_5))), (a2, .inr (6, [.int a2_0, .int a2_1, .ref a2_2, .ref a2_3])), (a2_3, .inl (ka2_3, 3, .inl (fa2_3))), (a2_2, .inl (ka2_2, 3, .inl (fa2_2))), (a1_6, .inl (ka1_6, 9, .inl (f74)))]) hP hD hCc hk1 hFc hP1 hD1 [.inr 0, .inl 1, .inl 2, .inl 3, .inl 4, .inl 5, .inl 6, .inl 7, .inl 8] (by decide +kernel) rfl
          have hw : (0 : Int) ≤ r103.toInt ∧ r103.toInt ≤ (8 : Int) := hw
          obtain ⟨h103_0, h103_1⟩ := hw
          obtain ⟨hPc, hDc, hFc, hCc⟩ := zc_cut (wc := [(a1, .inr (5, [.int x81, .int a1_1, .int x10, .int a1_3, .int a1_4, .ref a1_5, .ref a1_6]))]) hP hD hS hA [1] (by decide +kernel) rfl
          have hKc := hK.sub (tys' := []) [] rfl
          refine va_callv (va_runV (As := [.int r103]) (rest := []) ⟨hx, hb, hml, hown, hts⟩ (c_X5_startTurn l dC dI H.size a1 r103 (.int x81) (.int a1_3) (.int a1_4) (.ref a1_5) (.ref a1_6) a1_1 x10 h103_0 h103_1 ba1_1_l ba1_1_u) (cwV 1 hts gX0_pass_X5_startTurn rfl rfl rfl zd_X5_startTurn ⟨Nat.le_of_ble_eq_true rfl, Nat.le_of_ble_eq_true rfl⟩) ⟨ax_blind (fun _ _ _ _ _ => trivial), zr_5 hKc hPc (q0 := 0) rfl, ax_pre hPc hKc hDc (fun _ _ => trivial)⟩ rfl rfl hl.1 rfl (lv_room (Nat.le_of_ble_eq_true rfl)) dX0_pass_106 ⟨Nat.le_of_ble_eq_true rfl, Nat.le_of_ble_eq_true rfl⟩) hS (fun q _ h => hFc q h) hFc (fun u t H locs ht hvm hw hB hz1 hk1 hS => ?_)
          obtain ⟨v106na0_1, v106na0_2, bv106na0_1, hP1, hK1, hD1⟩ := hB
          rw [ht] at hP1
          obtain ⟨hP, hD⟩ := zc_back (w := [(a0, .inr (0, [.int a0_0, .int a0_1, .int a0_2, a0g_3, a0g_4, .int a0_5, .int a0_6, a0g_7, a0g_8, a0g_9, .ref a0_10, .ref a0_11, a0g_12, a0g_13, a0g_14])), (a1, .inr (5, [.int x81, .int v106na0_1, .int v106na0_2, .int a1_3, .int a1_4, .ref a1_5, .ref a1_6])), (a0_10, .inl (ka0_10, 9, .inl (fa0_10))), (a0_11, .inl (ka0_11, 9, .inl (fa0_11))), (a1_5, .inl (ka1_5, 9, .inl (fa1_5))), (a2, .inr (6, [.int a2_0, .int a2_1, .ref a2_2, .ref a2_3])), (a2_3, .inl (ka2_3, 3, .inl (fa2_3))), (a2_2, .inl (ka2_2, 3, .inl (fa2_2))), (a1_6, .inl (ka1_6, 9, .inl (f74)))]) hP hD hCc hk1 hFc hP1 hD1 [.inl 0, .inr 0, .inl 2, .inl 3, .inl 4, .inl 5, .inl 6, .inl 7, .inl 8] (by decide +kernel) rfl
          exact W.vret hx hb hr (fun t ht hW => ⟨⟨(), rfl, trivial, x81, v106na0_1, v106na0_2, a1_3, a1_4, fa1_5, f74, ⟨bv106na0_1.1, bv106na0_1.2⟩, by rw [ht]; exact hP, va_K.moved hW.alike hK, hD⟩, hS.F ht⟩) hS.2.2 dX0_pass_109
      · subst hw
        refine lv_if_eq (tgt := 75) hx hb dX0_pass_61 (by decide) (fun _ => ?_) (fun c61 => absurd (by decide +kernel) c61)
        refine lv_aload_n hx hb dX0_pass_75 rfl (lv_at hl 4 rfl) ?_
        refine lv_dup hx hb dX0_pass_76 rfl ?_
        refine va_get (D := (dC, dI)) (ci := 5) (v := .int a1_0) (C := RX5) (T := TX5) (N := 7) hx hb hts zi_X0_pass_5 hown hK hP 1 rfl rfl 0 (by decide) (hts (.fieldLink RX0 102 "WaxTurns$Scene" "minute" "I") (zm_X0_pass_r1 (List.mem_of_getElem? (i := 3) rfl))) (fun _ h9 => h9) rfl dX0_pass_77 ?_
        refine lv_iconst (v := 1) hx hb dX0_pass_80 zk_iconst_1 ?_
        refine lv_iadd hx hb dX0_pass_81 ?_
        refine lv_topi (fun x81 ex81 => ?_)
        refine va_put (D := (dC, dI)) (ci := 5) (v := .int x81) (ty := .int) (C := RX5) (T := TX5) (N := 7) hx hb hts zi_X0_pass_5 tyX5 tyX5_ok nmX5 hown hK hP hD hS 1 rfl rfl 0 (by decide) (hts (.fieldLink RX0 102 "WaxTurns$Scene" "minute" "I") (zm_X0_pass_r1 (List.mem_of_getElem? (i := 3) rfl))) (fun _ h9 => h9) rfl (tyX5_ok 0 (by decide)) rfl rfl (Nat.le_of_ble_eq_true rfl) dX0_pass_82 (fun H locs hP hD hS => ?_)
        obtain ⟨hP, hD⟩ := zc_re (w := [(a0, .inr (0, [.int a0_0, .int a0_1, .int a0_2, a0g_3, a0g_4, .int a0_5, .int a0_6, a0g_7, a0g_8, a0g_9, .ref a0_10, .ref a0_11, a0g_12, a0g_13, a0g_14])), (a1, .inr (5, [.int x81, .int a1_1, .int a1_2, .int a1_3, .int a1_4, .ref a1_5, .ref a1_6])), (a0_10, .inl (ka0_10, 9, .inl (fa0_10))), (a0_11, .inl (ka0_11, 9, .inl (fa0_11))), (a1_5, .inl (ka1_5, 9, .inl (fa1_5))), (a2, .inr (6, [.int a2_0, .int a2_1, .ref a2_2, .ref a2_3])), (a2_3, .inl (ka2_3, 3, .inl (fa2_3))), (a2_2, .inl (ka2_2, 3, .inl (fa2_2))), (a1_6, .inl (ka1_6, 9, .inl (fa1_6)))]) hP hD rfl
        refine lv_aload_n hx hb dX0_pass_85 rfl (lv_at hl 4 rfl) ?_
        refine lv_iload hx hb dX0_pass_86 (lv_at hl 1 rfl) ?_
        refine va_put (D := (dC, dI)) (ci := 5) (v := .int x10) (ty := .int) (C := RX5) (T := TX5) (N := 7) hx hb hts zi_X0_pass_5 tyX5 tyX5_ok nmX5 hown hK hP hD hS 1 rfl rfl 2 (by decide) (hts (.fieldLink RX0 84 "WaxTurns$Scene" "spent" "I") (zm_X0_pass_r1 (List.mem_of_getElem? (i := 1) rfl))) (fun _ h9 => h9) rfl (tyX5_ok 2 (by decide)) rfl rfl (Nat.le_of_ble_eq_true rfl) dX0_pass_88 (fun H locs hP hD hS => ?_)
        obtain ⟨hP, hD⟩ := zc_re (w := [(a0, .inr (0, [.int a0_0, .int a0_1, .int a0_2, a0g_3, a0g_4, .int a0_5, .int a0_6, a0g_7, a0g_8, a0g_9, .ref a0_10, .ref a0_11, a0g_12, a0g_13, a0g_14])), (a1, .inr (5, [.int x81, .int a1_1, .int x10, .int a1_3, .int a1_4, .ref a1_5, .ref a1_6])), (a0_10, .inl (ka0_10, 9, .inl (fa0_10))), (a0_11, .inl (ka0_11, 9, .inl (fa0_11))), (a1_5, .inl (ka1_5, 9, .inl (fa1_5))), (a2, .inr (6, [.int a2_0, .int a2_1, .ref a2_2, .ref a2_3])), (a2_3, .inl (ka2_3, 3, .inl (fa2_3))), (a2_2, .inl (ka2_2, 3, .inl (fa2_2))), (a1_6, .inl (ka1_6, 9, .inl (fa1_6)))]) hP hD rfl
        refine lv_iload hx hb dX0_pass_91 (lv_at hl 1 rfl) ?_
        refine lv_aload_n hx hb dX0_pass_93 rfl (lv_at hl 3 rfl) ?_
        refine va_get (D := (dC, dI)) (ci := 0) (v := .int a0_1) (C := RX0) (T := TX0) (N := 15) hx hb hts zi_X0_pass_0 hown hK hP 0 rfl rfl 1 (by decide) (hts (.fieldLink RX0 48 "WaxTurns$Hall" "span" "I") (zm_X0_pass_r1 (List.mem_of_getElem? (i := 5) rfl))) (fun _ h9 => h9) rfl dX0_pass_94 ?_
        refine lv_icmp_lt (tgt := 109) hx hb dX0_pass_97 (by decide) (fun c97 => ?_) (fun c97 => ?_)
        · have gc97 := ai_lt c97
          have u97t_x10 : x10.toInt ≤ (2147483646 : Int) := ai_lthi gc97 (ai_max a0_1)
          have l97t_a0_1 : (-2147483647 : Int) ≤ a0_1.toInt := ai_ltlo gc97 (ai_min x10)
          exact W.vret hx hb hr (fun t ht hW => ⟨⟨(), rfl, trivial, x81, a1_1, x10, a1_3, a1_4, fa1_5, fa1_6, ⟨ba1_1_l, ba1_1_u⟩, by rw [ht]; exact hP, va_K.moved hW.alike hK, hD⟩, hS.F ht⟩) hS.2.2 dX0_pass_109
        · have gc97 := ai_nlt c97
          refine lv_aload_n hx hb dX0_pass_100 rfl (lv_at hl 4 rfl) ?_
          refine lv_aload_n hx hb dX0_pass_101 rfl (lv_at hl 3 rfl) ?_
          refine lv_iload_n hx hb dX0_pass_102 rfl (lv_at hl 2 rfl) ?_
          obtain ⟨hPc, hDc, hFc, hCc⟩ := zc_cut (wc := [(a0, .inr (0, [.int a0_0, .int a0_1, .int a0_2, a0g_3, a0g_4, .int a0_5, .int a0_6, a0g_7, a0g_8, a0g_9, .ref a0_10, .ref a0_11, a0g_12, a0g_13, a0g_14]))]) hP hD hS hA [0] (by decide +kernel) rfl
          have hKc := hK.sub (tys' := []) [] rfl
          refine va_calli (va_runV (As := [.int a1_1]) (rest := [.ref a1]) ⟨hx, hb, hml, hown, hts⟩ (c_X0_next l dC dI H.size a0 a1_1 a0_0 (.int a0_1) (.int a0_2) a0g_3 a0g_4 a0g_7 a0g_8 a0g_9 (.ref a0_10) (.ref a0_11) a0g_12 a0g_13 a0g_14 a0_5 a0_6 ba1_1_l ba1_1_u ba0_0_l ba0_0_u ba0_5_l ba0_5_u ba0_6_l ba0_6_u) (cwV 1 hts gX0_pass_X0_next rfl rfl rfl zd_X0_next ⟨Nat.le_of_ble_eq_true rfl, Nat.le_of_ble_eq_true rfl⟩) ⟨ax_blind (fun _ _ _ _ _ => trivial), zr_0 hKc hPc (q0 := 0) rfl, ax_pre hPc hKc hDc (fun _ _ => trivial)⟩ rfl rfl hl.1 rfl (lv_room (Nat.le_of_ble_eq_true rfl)) dX0_pass_103 ⟨Nat.le_of_ble_eq_true rfl, Nat.le_of_ble_eq_true rfl⟩) hS (fun q _ h => hFc q h) hFc (fun r103 u t H locs ht hvm hw hB hz1 hk1 hS => ?_)
          obtain ⟨hP1, hK1, hD1⟩ := hB
          rw [ht] at hP1
          obtain ⟨hP, hD⟩ := zc_back (w := [(a0, .inr (0, [.int a0_0, .int a0_1, .int a0_2, a0g_3, a0g_4, .int a0_5, .int a0_6, a0g_7, a0g_8, a0g_9, .ref a0_10, .ref a0_11, a0g_12, a0g_13, a0g_14])), (a1, .inr (5, [.int x81, .int a1_1, .int x10, .int a1_3, .int a1_4, .ref a1_5, .ref a1_6])), (a0_10, .inl (ka0_10, 9, .inl (fa0_10))), (a0_11, .inl (ka0_11, 9, .inl (fa0_11))), (a1_5, .inl (ka1_5, 9, .inl (fa1_5))), (a2, .inr (6, [.int a2_0, .int a2_1, .ref a2_2, .ref a2_3])), (a2_3, .inl (ka2_3, 3, .inl (fa2_3))), (a2_2, .inl (ka2_2, 3, .inl (fa2_2))), (a1_6, .inl (ka1_6, 9, .inl (fa1_6)))]) hP hD hCc hk1 hFc hP1 hD1 [.inr 0, .inl 1, .inl 2, .inl 3, .inl 4, .inl 5, .inl 6, .inl 7, .inl 8] (by decide +kernel) rfl
          have hw : (0 : Int) ≤ r103.toInt ∧ r103.toInt ≤ (8 : Int) := hw
          obtain ⟨h103_0, h103_1⟩ := hw
          obtain ⟨hPc, hDc, hFc, hCc⟩ := zc_cut (wc := [(a1, .inr (5, [.int x81, .int a1_1, .int x10, .int a1_3, .int a1_4, .ref a1_5, .ref a1_6]))]) hP hD hS hA [1] (by decide +kernel) rfl
          have hKc := hK.sub (tys' := []) [] rfl
          refine va_callv (va_runV (As := [.int r103]) (rest := []) ⟨hx, hb, hml, hown, hts⟩ (c_X5_startTurn l dC dI H.size a1 r103 (.int x81) (.int a1_3) (.int a1_4) (.ref a1_5) (.ref a1_6) a1_1 x10 h103_0 h103_1 ba1_1_l ba1_1_u) (cwV 1 hts gX0_pass_X5_startTurn rfl rfl rfl zd_X5_startTurn ⟨Nat.le_of_ble_eq_true rfl, Nat.le_of_ble_eq_true rfl⟩) ⟨ax_blind (fun _ _ _ _ _ => trivial), zr_5 hKc hPc (q0 := 0) rfl, ax_pre hPc hKc hDc (fun _ _ => trivial)⟩ rfl rfl hl.1 rfl (lv_room (Nat.le_of_ble_eq_true rfl)) dX0_pass_106 ⟨Nat.le_of_ble_eq_true rfl, Nat.le_of_ble_eq_true rfl⟩) hS (fun q _ h => hFc q h) hFc (fun u t H locs ht hvm hw hB hz1 hk1 hS => ?_)
          obtain ⟨v106na0_1, v106na0_2, bv106na0_1, hP1, hK1, hD1⟩ := hB
          rw [ht] at hP1
          obtain ⟨hP, hD⟩ := zc_back (w := [(a0, .inr (0, [.int a0_0, .int a0_1, .int a0_2, a0g_3, a0g_4, .int a0_5, .int a0_6, a0g_7, a0g_8, a0g_9, .ref a0_10, .ref a0_11, a0g_12, a0g_13, a0g_14])), (a1, .inr (5, [.int x81, .int v106na0_1, .int v106na0_2, .int a1_3, .int a1_4, .ref a1_5, .ref a1_6])), (a0_10, .inl (ka0_10, 9, .inl (fa0_10))), (a0_11, .inl (ka0_11, 9, .inl (fa0_11))), (a1_5, .inl (ka1_5, 9, .inl (fa1_5))), (a2, .inr (6, [.int a2_0, .int a2_1, .ref a2_2, .ref a2_3])), (a2_3, .inl (ka2_3, 3, .inl (fa2_3))), (a2_2, .inl (ka2_2, 3, .inl (fa2_2))), (a1_6, .inl (ka1_6, 9, .inl (fa1_6)))]) hP hD hCc hk1 hFc hP1 hD1 [.inl 0, .inr 0, .inl 2, .inl 3, .inl 4, .inl 5, .inl 6, .inl 7, .inl 8] (by decide +kernel) rfl
          exact W.vret hx hb hr (fun t ht hW => ⟨⟨(), rfl, trivial, x81, v106na0_1, v106na0_2, a1_3, a1_4, fa1_5, fa1_6, ⟨bv106na0_1.1, bv106na0_1.2⟩, by rw [ht]; exact hP, va_K.moved hW.alike hK, hD⟩, hS.F ht⟩) hS.2.2 dX0_pass_109
