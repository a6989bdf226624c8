set_option maxHeartbeats 4000000 in
set_option maxRecDepth 100000 in
theorem c_X0_addFigure (l : Launch) (dC : Nat → ClassId) (dI : Nat → Nat → Nat) (sz : Nat) (a0 : Nat) (a1 : Int32) (a2 : Int32) (a3 : Int32) (a0g_0 a0g_1 a0g_2 a0g_3 a0g_4 a0g_5 a0g_6 a0g_7 a0g_9 a0g_12 a0g_13 a0g_14 : Value) (a0_8 : Int32) (a0_10 : Nat) (a0_11 : Nat) (ka0_10 : ClassId) (fa0_10 : Nat → Int32) (ka0_11 : ClassId) (fa0_11 : Nat → Int32)  : Met l yX0_addFigure wsX0_addFigure ({ frames := 0, cells := 0, slots := 0, locals := 0 }) (va_Pc [.ref a0, .int a1, .int a2, .int a3] (ax_C dC dI sz [(a0, .inr (0, [a0g_0, a0g_1, a0g_2, a0g_3, a0g_4, a0g_5, a0g_6, a0g_7, .int a0_8, a0g_9, .ref a0_10, .ref a0_11, a0g_12, a0g_13, a0g_14])), (a0_10, .inl (ka0_10, 9, .inl (fa0_10))), (a0_11, .inl (ka0_11, 9, .inl (fa0_11)))] [(ka0_10, .int), (ka0_11, .int)] (fun _ => True))) (va_Qv (fun (_ : Unit) => True) (fun (_ : Unit) (t : State) => ∃ na0_8 : Int32, ∃ nfa0_10 : Nat → Int32, ∃ nfa0_11 : Nat → Int32, ax_B dC dI (va_A [(a0, .inr (0, [a0g_0, a0g_1, a0g_2, a0g_3, a0g_4, a0g_5, a0g_6, a0g_7, .int a0_8, a0g_9, .ref a0_10, .ref a0_11, a0g_12, a0g_13, a0g_14])), (a0_10, .inl (ka0_10, 9, .inl (fa0_10))), (a0_11, .inl (ka0_11, 9, .inl (fa0_11)))] sz) [(a0, .inr (0, [a0g_0, a0g_1, a0g_2, a0g_3, a0g_4, a0g_5, a0g_6, a0g_7, .int na0_8, a0g_9, .ref a0_10, .ref a0_11, a0g_12, a0g_13, a0g_14])), (a0_10, .inl (ka0_10, 9, .inl (nfa0_10))), (a0_11, .inl (ka0_11, 9, .inl (nfa0_11)))] [(ka0_10, .int), (ka0_11, .int)] t) (va_A [(a0, .inr (0, [a0g_0, a0g_1, a0g_2, a0g_3, a0g_4, a0g_5, a0g_6, a0g_7, .int a0_8, a0g_9, .ref a0_10, .ref a0_11, a0g_12, a0g_13, a0g_14])), (a0_10, .inl (ka0_10, 9, .inl (fa0_10))), (a0_11, .inl (ka0_11, 9, .inl (fa0_11)))] sz)) 0 0 (va_A [(a0, .inr (0, [a0g_0, a0g_1, a0g_2, a0g_3, a0g_4, a0g_5, a0g_6, a0g_7, .int a0_8, a0g_9, .ref a0_10, .ref a0_11, a0g_12, a0g_13, a0g_14])), (a0_10, .inl (ka0_10, 9, .inl (fa0_10))), (a0_11, .inl (ka0_11, 9, .inl (fa0_11)))] sz) := by
  refine Met.ofW (cc := cX0_addFigure) (maxL := 4) (ret := none) (by decide) rfl ?_
  intro p e s m args below meth c s₁ B hml hv
  obtain ⟨rfl, hsz, hP, hK, hD0, hE⟩ := hv
  have hx := B.exec
  have hb := B.bytes
  have hr := B.returns
  have hts := atoms_spec (ws := wsX0_addFigure) B.pre
  have hown : s.vm.findClass RX0 = some m.cls := findClass_of_methodNamed B.named
  have hlocks := B.notSynchronized
  subst hsz
  have hD := hD0.self (sz := s.heap.size)
  generalize hAe : va_A [(a0, .inr (0, [a0g_0, a0g_1, a0g_2, a0g_3, a0g_4, a0g_5, a0g_6, a0g_7, .int a0_8, a0g_9, .ref a0_10, .ref a0_11, a0g_12, a0g_13, a0g_14])), (a0_10, .inl (ka0_10, 9, .inl (fa0_10))), (a0_11, .inl (ka0_11, 9, .inl (fa0_11)))] s.heap.size = A at hD ⊢
  have hA : ∀ q : Nat, s.heap.size ≤ q → A q := fun q h => by rw [← hAe]; exact Or.inr h
  have hS : va_S A s.heap s.heap [] := va_S.rf
  have hP : va_P (dC, dI) vwCl [(a0, .inr (0, [a0g_0, a0g_1, a0g_2, a0g_3, a0g_4, a0g_5, a0g_6, a0g_7, .int a0_8, a0g_9, .ref a0_10, .ref a0_11, a0g_12, a0g_13, a0g_14])), (a0_10, .inl (ka0_10, 9, .inl (fa0_10))), (a0_11, .inl (ka0_11, 9, .inl (fa0_11)))] s.heap := hP
  have hl := lv_entry ([.ref a0, .int a1, .int a2, .int a3]) (n := 4) (Nat.le_of_ble_eq_true rfl)
  rw [lg_entry_eq]
  generalize (lg_sl ([.ref a0, .int a1, .int a2, .int a3]) ++ List.replicate (4 - (lg_sl ([.ref a0, .int a1, .int a2, .int a3])).length) Slot.unset).toArray = ls at hl ⊢
  have hl : lv_has ls 4 [(0, .ref a0), (1, .int a1), (2, .int a2), (3, .int a3)] := hl
  refine lv_iload_n hx hb dX0_addFigure_0 rfl (lv_at hl 1 rfl) ?_
  refine lv_if_lt (tgt := 36) hx hb dX0_addFigure_1 (by decide) (fun c1 => ?_) (fun c1 => ?_)
  · have gc1 := ai_lt c1
    have u1t_a1 : a1.toInt ≤ (-1 : Int) := ai_lthi gc1 zq6
    exact W.vret hx hb hr (fun t ht hW => ⟨⟨(), rfl, trivial, a0_8, fa0_10, fa0_11, by rw [ht]; exact hP, va_K.moved hW.alike hK, hD⟩, hS.F ht⟩) hS.2.2 dX0_addFigure_36
  · have gc1 := ai_nlt c1
    have l1f_a1 : (0 : Int) ≤ a1.toInt := Int.le_trans zq5 gc1
    refine lv_iload_n hx hb dX0_addFigure_4 rfl (lv_at hl 1 rfl) ?_
    refine lv_bipush (v := 9) hx hb dX0_addFigure_5 zk_bipush_9 ?_
    refine lv_icmp_ge (tgt := 36) hx hb dX0_addFigure_7 (by decide) (fun c7 => ?_) (fun c7 => ?_)
    · have gc7 := ai_le c7
      have l7t_a1 : (9 : Int) ≤ a1.toInt := Int.le_trans zq2 gc7
      exact W.vret hx hb hr (fun t ht hW => ⟨⟨(), rfl, trivial, a0_8, fa0_10, fa0_11, by rw [ht]; exact hP, va_K.moved hW.alike hK, hD⟩, hS.F ht⟩) hS.2.2 dX0_addFigure_36
    · have gc7 := ai_nle c7
      have u7f_a1 : a1.toInt ≤ (8 : Int) := ai_lthi gc7 zq3
      refine lv_aload_n hx hb dX0_addFigure_10 rfl (lv_at hl 0 rfl) ?_
      refine lv_dup hx hb dX0_addFigure_11 rfl ?_
      refine va_get (D := (dC, dI)) (ci := 0) (v := .int a0_8) (C := RX0) (T := TX0) (N := 15) hx hb hts zi_X0_addFigure_0 hown hK hP 0 rfl rfl 8 (by decide) (hts (.fieldLink RX0 39 "WaxTurns$Hall" "toldBits" "I") (List.mem_cons_of_mem _ (List.mem_append_left _ (List.mem_of_getElem? (i := 0) rfl)))) (fun _ h9 => h9) rfl dX0_addFigure_12 ?_
      refine lv_iconst (v := 1) hx hb dX0_addFigure_15 zk_iconst_1 ?_
      refine lv_iload_n hx hb dX0_addFigure_16 rfl (lv_at hl 1 rfl) ?_
      refine lv_ishl hx hb dX0_addFigure_17 ?_
      refine lv_topi (fun x17 ex17 => ?_)
      refine lv_ior hx hb dX0_addFigure_18 ?_
      refine lv_topi (fun x18 ex18 => ?_)
      refine va_put (D := (dC, dI)) (ci := 0) (v := .int x18) (ty := .int) (C := RX0) (T := TX0) (N := 15) hx hb hts zi_X0_addFigure_0 tyX0 tyX0_ok nmX0 hown hK hP hD hS 0 rfl rfl 8 (by decide) (hts (.fieldLink RX0 39 "WaxTurns$Hall" "toldBits" "I") (List.mem_cons_of_mem _ (List.mem_append_left _ (List.mem_of_getElem? (i := 0) rfl)))) (fun _ h9 => h9) rfl (tyX0_ok 8 (by decide)) rfl rfl (Nat.le_of_ble_eq_true rfl) dX0_addFigure_19 (fun H locs hP hD hS => ?_)
      obtain ⟨hP, hD⟩ := zc_re (w := [(a0, .inr (0, [a0g_0, a0g_1, a0g_2, a0g_3, a0g_4, a0g_5, a0g_6, a0g_7, .int x18, a0g_9, .ref a0_10, .ref a0_11, a0g_12, a0g_13, a0g_14])), (a0_10, .inl (ka0_10, 9, .inl (fa0_10))), (a0_11, .inl (ka0_11, 9, .inl (fa0_11)))]) hP hD rfl
      refine lv_aload_n hx hb dX0_addFigure_22 rfl (lv_at hl 0 rfl) ?_
      refine va_get (D := (dC, dI)) (ci := 0) (v := .ref a0_10) (C := RX0) (T := TX0) (N := 15) hx hb hts zi_X0_addFigure_0 hown hK hP 0 rfl rfl 10 (by decide) (hts (.fieldLink RX0 9 "WaxTurns$Hall" "kinds" "[I") (List.mem_cons_of_mem _ (List.mem_append_left _ (List.mem_of_getElem? (i := 1) rfl)))) (fun _ h9 => h9) rfl dX0_addFigure_23 ?_
      refine lv_iload_n hx hb dX0_addFigure_26 rfl (lv_at hl 1 rfl) ?_
      refine lv_iload_n hx hb dX0_addFigure_27 rfl (lv_at hl 2 rfl) ?_
      refine va_iast hx hb hK hP hD hS 1 0 rfl rfl (ai_in l1f_a1 u7f_a1 (by decide) (by decide)) dX0_addFigure_28 (fun H locs hP hD hS => ?_)
      obtain ⟨f28, hP, hD⟩ : ∃ f28 : Nat → Int32, va_P (dC, dI) vwCl [(a0, .inr (0, [a0g_0, a0g_1, a0g_2, a0g_3, a0g_4, a0g_5, a0g_6, a0g_7, .int x18, a0g_9, .ref a0_10, .ref a0_11, a0g_12, a0g_13, a0g_14])), (a0_10, .inl (ka0_10, 9, .inl (f28))), (a0_11, .inl (ka0_11, 9, .inl (fa0_11)))] H ∧ va_D A [(a0, .inr (0, [a0g_0, a0g_1, a0g_2, a0g_3, a0g_4, a0g_5, a0g_6, a0g_7, .int x18, a0g_9, .ref a0_10, .ref a0_11, a0g_12, a0g_13, a0g_14])), (a0_10, .inl (ka0_10, 9, .inl (f28))), (a0_11, .inl (ka0_11, 9, .inl (fa0_11)))] := ⟨_, hP, hD⟩
      refine lv_aload_n hx hb dX0_addFigure_29 rfl (lv_at hl 0 rfl) ?_
      refine va_get (D := (dC, dI)) (ci := 0) (v := .ref a0_11) (C := RX0) (T := TX0) (N := 15) hx hb hts zi_X0_addFigure_0 hown hK hP 0 rfl rfl 11 (by decide) (hts (.fieldLink RX0 15 "WaxTurns$Hall" "measures" "[I") (List.mem_cons_of_mem _ (List.mem_append_left _ (List.mem_of_getElem? (i := 2) rfl)))) (fun _ h9 => h9) rfl dX0_addFigure_30 ?_
      refine lv_iload_n hx hb dX0_addFigure_33 rfl (lv_at hl 1 rfl) ?_
      refine lv_iload_n hx hb dX0_addFigure_34 rfl (lv_at hl 3 rfl) ?_
      refine va_iast hx hb hK hP hD hS 2 1 rfl rfl (ai_in l1f_a1 u7f_a1 (by decide) (by decide)) dX0_addFigure_35 (fun H locs hP hD hS => ?_)
      obtain ⟨f35, hP, hD⟩ : ∃ f35 : Nat → Int32, va_P (dC, dI) vwCl [(a0, .inr (0, [a0g_0, a0g_1, a0g_2, a0g_3, a0g_4, a0g_5, a0g_6, a0g_7, .int x18, a0g_9, .ref a0_10, .ref a0_11, a0g_12, a0g_13, a0g_14])), (a0_10, .inl (ka0_10, 9, .inl (f28))), (a0_11, .inl (ka0_11, 9, .inl (f35)))] H ∧ va_D A [(a0, .inr (0, [a0g_0, a0g_1, a0g_2, a0g_3, a0g_4, a0g_5, a0g_6, a0g_7, .int x18, a0g_9, .ref a0_10, .ref a0_11, a0g_12, a0g_13, a0g_14])), (a0_10, .inl (ka0_10, 9, .inl (f28))), (a0_11, .inl (ka0_11, 9, .inl (f35)))] := ⟨_, hP, hD⟩
      exact W.vret hx hb hr (fun t ht hW => ⟨⟨(), rfl, trivial, x18, f28, f35, by rw [ht]; exact hP, va_K.moved hW.alike hK, hD⟩, hS.F ht⟩) hS.2.2 dX0_addFigure_36

set_option maxHeartbeats 4000000 in
set_option maxRecDepth 100000 in
theorem c_X0_addSeen (l : Launch) (dC : Nat → ClassId) (dI : Nat → Nat → Nat) (sz : Nat) (a0 : Nat) (a1 : Int32) (a2 : Int32) (a0g_0 a0g_1 a0g_2 a0g_3 a0g_4 a0g_5 a0g_6 a0g_7 a0g_8 a0g_10 a0g_11 a0g_14 : Value) (a0_9 : Int32) (a0_12 : Nat) (a0_13 : Nat) (ka0_12 : ClassId) (fa0_12 : Nat → Int32) (ka0_13 : ClassId) (fa0_13 : Nat → Int32) (ba2_l : (0 : Int) ≤ a2.toInt) (ba2_u : a2.toInt ≤ (999 : Int)) (ba0_9_l : (0 : Int) ≤ a0_9.toInt) (ba0_9_u : a0_9.toInt ≤ (6 : Int)) (bfa0_13 : (∀ k, (0 : Int) ≤ (fa0_13 k).toInt ∧ (fa0_13 k).toInt ≤ 999)) : Met l yX0_addSeen wsX0_addSeen ({ frames := 0, cells := 0, slots := 0, locals := 0 }) (va_Pc [.ref a0, .int a1, .int a2] (ax_C dC dI sz [(a0, .inr (0, [a0g_0, a0g_1, a0g_2, a0g_3, a0g_4, a0g_5, a0g_6, a0g_7, a0g_8, .int a0_9, a0g_10, a0g_11, .ref a0_12, .ref a0_13, a0g_14])), (a0_12, .inl (ka0_12, 6, .inl (fa0_12))), (a0_13, .inl (ka0_13, 6, .inl (fa0_13)))] [(ka0_12, .int), (ka0_13, .int)] (fun _ => True))) (va_Qv (fun (_ : Unit) => True) (fun (_ : Unit) (t : State) => ∃ na0_9 : Int32, ∃ nfa0_12 : Nat → Int32, ∃ nfa0_13 : Nat → Int32, ((0 : Int) ≤ na0_9.toInt ∧ na0_9.toInt ≤ 6) ∧ (∀ k, (0 : Int) ≤ (nfa0_13 k).toInt ∧ (nfa0_13 k).toInt ≤ 999) ∧ ax_B dC dI (va_A [(a0, .inr (0, [a0g_0, a0g_1, a0g_2, a0g_3, a0g_4, a0g_5, a0g_6, a0g_7, a0g_8, .int a0_9, a0g_10, a0g_11, .ref a0_12, .ref a0_13, a0g_14])), (a0_12, .inl (ka0_12, 6, .inl (fa0_12))), (a0_13, .inl (ka0_13, 6, .inl (fa0_13)))] sz) [(a0, .inr (0, [a0g_0, a0g_1, a0g_2, a0g_3, a0g_4, a0g_5, a0g_6, a0g_7, a0g_8, .int na0_9, a0g_10, a0g_11, .ref a0_12, .ref a0_13, a0g_14])), (a0_12, .inl (ka0_12, 6, .inl (nfa0_12))), (a0_13, .inl (ka0_13, 6, .inl (nfa0_13)))] [(ka0_12, .int), (ka0_13, .int)] t) (va_A [(a0, .inr (0, [a0g_0, a0g_1, a0g_2, a0g_3, a0g_4, a0g_5, a0g_6, a0g_7, a0g_8, .int a0_9, a0g_10, a0g_11, .ref a0_12, .ref a0_13, a0g_14])), (a0_12, .inl (ka0_12, 6, .inl (fa0_12))), (a0_13, .inl (ka0_13, 6, .inl (fa0_13)))] sz)) 0 0 (va_A [(a0, .inr (0, [a0g_0, a0g_1, a0g_2, a0g_3, a0g_4, a0g_5, a0g_6, a0g_7, a0g_8, .int a0_9, a0g_10, a0g_11, .ref a0_12, .ref a0_13, a0g_14])), (a0_12, .inl (ka0_12, 6, .inl (fa0_12))), (a0_13, .inl (ka0_13, 6, .inl (fa0_13)))] sz) := by
  refine Met.ofW (cc := cX0_addSeen) (maxL := 3) (ret := none) (by decide) rfl ?_
  intro p e s m args below meth c s₁ B hml hv
  obtain ⟨rfl, hsz, hP, hK, hD0, hE⟩ := hv
  have hx := B.exec
  have hb := B.bytes
  have hr := B.returns
  have hts := atoms_spec (ws := wsX0_addSeen) B.pre
  have hown : s.vm.findClass RX0 = some m.cls := findClass_of_methodNamed B.named
  have hlocks := B.notSynchronized
  subst hsz
  have hD := hD0.self (sz := s.heap.size)
  generalize hAe : va_A [(a0, .inr (0, [a0g_0, a0g_1, a0g_2, a0g_3, a0g_4, a0g_5, a0g_6, a0g_7, a0g_8, .int a0_9, a0g_10, a0g_11, .ref a0_12, .ref a0_13, a0g_14])), (a0_12, .inl (ka0_12, 6, .inl (fa0_12))), (a0_13, .inl (ka0_13, 6, .inl (fa0_13)))] s.heap.size = A at hD ⊢
  have hA : ∀ q : Nat, s.heap.size ≤ q → A q := fun q h => by rw [← hAe]; exact Or.inr h
  have hS : va_S A s.heap s.heap [] := va_S.rf
  have hP : va_P (dC, dI) vwCl [(a0, .inr (0, [a0g_0, a0g_1, a0g_2, a0g_3, a0g_4, a0g_5, a0g_6, a0g_7, a0g_8, .int a0_9, a0g_10, a0g_11, .ref a0_12, .ref a0_13, a0g_14])), (a0_12, .inl (ka0_12, 6, .inl (fa0_12))), (a0_13, .inl (ka0_13, 6, .inl (fa0_13)))] s.heap := hP
  have hl := lv_entry ([.ref a0, .int a1, .int a2]) (n := 3) (Nat.le_of_ble_eq_true rfl)
  rw [lg_entry_eq]
  generalize (lg_sl ([.ref a0, .int a1, .int a2]) ++ List.replicate (3 - (lg_sl ([.ref a0, .int a1, .int a2])).length) Slot.unset).toArray = ls at hl ⊢
  have hl : lv_has ls 3 [(0, .ref a0), (1, .int a1), (2, .int a2)] := hl
  refine lv_aload_n hx hb dX0_addSeen_0 rfl (lv_at hl 0 rfl) ?_
  refine va_get (D := (dC, dI)) (ci := 0) (v := .int a0_9) (C := RX0) (T := TX0) (N := 15) hx hb hts zi_X0_addSeen_0 hown hK hP 0 rfl rfl 9 (by decide) (hts (.fieldLink RX0 42 "WaxTurns$Hall" "seenCount" "I") (List.mem_cons_of_mem _ (List.mem_append_left _ (List.mem_of_getElem? (i := 0) rfl)))) (fun _ h9 => h9) rfl dX0_addSeen_1 ?_
  refine lv_bipush (v := 6) hx hb dX0_addSeen_4 zk_bipush_6 ?_
  refine lv_icmp_ge (tgt := 39) hx hb dX0_addSeen_6 (by decide) (fun c6 => ?_) (fun c6 => ?_)
  · have gc6 := ai_le c6
    have l6t_a0_9 : (6 : Int) ≤ a0_9.toInt := Int.le_trans zq15 gc6
    exact W.vret hx hb hr (fun t ht hW => ⟨⟨(), rfl, trivial, a0_9, fa0_12, fa0_13, ⟨Int.le_trans (by decide) l6t_a0_9, ba0_9_u⟩, bfa0_13, by rw [ht]; exact hP, va_K.moved hW.alike hK, hD⟩, hS.F ht⟩) hS.2.2 dX0_addSeen_39
  · have gc6 := ai_nle c6
    have u6f_a0_9 : a0_9.toInt ≤ (5 : Int) := ai_lthi gc6 zq16
    refine lv_aload_n hx hb dX0_addSeen_9 rfl (lv_at hl 0 rfl) ?_
    refine va_get (D := (dC, dI)) (ci := 0) (v := .ref a0_12) (C := RX0) (T := TX0) (N := 15) hx hb hts zi_X0_addSeen_0 hown hK hP 0 rfl rfl 12 (by decide) (hts (.fieldLink RX0 18 "WaxTurns$Hall" "seenFigures" "[I") (List.mem_cons_of_mem _ (List.mem_append_left _ (List.mem_of_getElem? (i := 1) rfl)))) (fun _ h9 => h9) rfl dX0_addSeen_10 ?_
    refine lv_aload_n hx hb dX0_addSeen_13 rfl (lv_at hl 0 rfl) ?_
    refine va_get (D := (dC, dI)) (ci := 0) (v := .int a0_9) (C := RX0) (T := TX0) (N := 15) hx hb hts zi_X0_addSeen_0 hown hK hP 0 rfl rfl 9 (by decide) (hts (.fieldLink RX0 42 "WaxTurns$Hall" "seenCount" "I") (List.mem_cons_of_mem _ (List.mem_append_left _ (List.mem_of_getElem? (i := 0) rfl)))) (fun _ h9 => h9) rfl dX0_addSeen_14 ?_
    refine lv_iload_n hx hb dX0_addSeen_17 rfl (lv_at hl 1 rfl) ?_
    refine va_iast hx hb hK hP hD hS 1 0 rfl rfl (ai_in ba0_9_l u6f_a0_9 (by decide) (by decide)) dX0_addSeen_18 (fun H locs hP hD hS => ?_)
    obtain ⟨f18, hP, hD⟩ : ∃ f18 : Nat → Int32, va_P (dC, dI) vwCl [(a0, .inr (0, [a0g_0, a0g_1, a0g_2, a0g_3, a0g_4, a0g_5, a0g_6, a0g_7, a0g_8, .int a0_9, a0g_10, a0g_11, .ref a0_12, .ref a0_13, a0g_14])), (a0_12, .inl (ka0_12, 6, .inl (f18))), (a0_13, .inl (ka0_13, 6, .inl (fa0_13)))] H ∧ va_D A [(a0, .inr (0, [a0g_0, a0g_1, a0g_2, a0g_3, a0g_4, a0g_5, a0g_6, a0g_7, a0g_8, .int a0_9, a0g_10, a0g_11, .ref a0_12, .ref a0_13, a0g_14])), (a0_12, .inl (ka0_12, 6, .inl (f18))), (a0_13, .inl (ka0_13, 6, .inl (fa0_13)))] := ⟨_, hP, hD⟩
    refine lv_aload_n hx hb dX0_addSeen_19 rfl (lv_at hl 0 rfl) ?_
    refine va_get (D := (dC, dI)) (ci := 0) (v := .ref a0_13) (C := RX0) (T := TX0) (N := 15) hx hb hts zi_X0_addSeen_0 hown hK hP 0 rfl rfl 13 (by decide) (hts (.fieldLink RX0 21 "WaxTurns$Hall" "seenMinutes" "[I") (List.mem_cons_of_mem _ (List.mem_append_left _ (List.mem_of_getElem? (i := 2) rfl)))) (fun _ h9 => h9) rfl dX0_addSeen_20 ?_
    refine lv_aload_n hx hb dX0_addSeen_23 rfl (lv_at hl 0 rfl) ?_
    refine va_get (D := (dC, dI)) (ci := 0) (v := .int a0_9) (C := RX0) (T := TX0) (N := 15) hx hb hts zi_X0_addSeen_0 hown hK hP 0 rfl rfl 9 (by decide) (hts (.fieldLink RX0 42 "WaxTurns$Hall" "seenCount" "I") (List.mem_cons_of_mem _ (List.mem_append_left _ (List.mem_of_getElem? (i := 0) rfl)))) (fun _ h9 => h9) rfl dX0_addSeen_24 ?_
    refine lv_iload_n hx hb dX0_addSeen_27 rfl (lv_at hl 2 rfl) ?_
    refine va_iast hx hb hK hP hD hS 2 1 rfl rfl (ai_in ba0_9_l u6f_a0_9 (by decide) (by decide)) dX0_addSeen_28 (fun H locs hP hD hS => ?_)
    obtain ⟨f28, bf28, hP, hD⟩ : ∃ f28 : Nat → Int32, (∀ k, (0 : Int) ≤ (f28 k).toInt ∧ (f28 k).toInt ≤ 999) ∧ va_P (dC, dI) vwCl [(a0, .inr (0, [a0g_0, a0g_1, a0g_2, a0g_3, a0g_4, a0g_5, a0g_6, a0g_7, a0g_8, .int a0_9, a0g_10, a0g_11, .ref a0_12, .ref a0_13, a0g_14])), (a0_12, .inl (ka0_12, 6, .inl (f18))), (a0_13, .inl (ka0_13, 6, .inl (f28)))] H ∧ va_D A [(a0, .inr (0, [a0g_0, a0g_1, a0g_2, a0g_3, a0g_4, a0g_5, a0g_6, a0g_7, a0g_8, .int a0_9, a0g_10, a0g_11, .ref a0_12, .ref a0_13, a0g_14])), (a0_12, .inl (ka0_12, 6, .inl (f18))), (a0_13, .inl (ka0_13, 6, .inl (f28)))] := ⟨_, ai_upd bfa0_13 _ ⟨ba2_l, ba2_u⟩, hP, hD⟩
    refine lv_aload_n hx hb dX0_addSeen_29 rfl (lv_at hl 0 rfl) ?_
    refine lv_dup hx hb dX0_addSeen_30 rfl ?_
    refine va_get (D := (dC, dI)) (ci := 0) (v := .int a0_9) (C := RX0) (T := TX0) (N := 15) hx hb hts zi_X0_addSeen_0 hown hK hP 0 rfl rfl 9 (by decide) (hts (.fieldLink RX0 42 "WaxTurns$Hall" "seenCount" "I") (List.mem_cons_of_mem _ (List.mem_append_left _ (List.mem_of_getElem? (i := 0) rfl)))) (fun _ h9 => h9) rfl dX0_addSeen_31 ?_
    refine lv_iconst (v := 1) hx hb dX0_addSeen_34 zk_iconst_1 ?_
    refine lv_iadd hx hb dX0_addSeen_35 ?_
    refine lv_topi (fun x35 ex35 => ?_)
    have qx35 : x35.toInt = a0_9.toInt + (1 : Int32).toInt := ai_add ex35 ⟨ba0_9_l, u6f_a0_9⟩ ⟨zq1, zq0⟩ (by decide) (by decide)
    have bx35 : (1 : Int) ≤ x35.toInt ∧ x35.toInt ≤ 6 := ⟨by rw [qx35]; exact Int.add_le_add ba0_9_l zq1, by rw [qx35]; exact Int.add_le_add u6f_a0_9 zq0⟩
    have wx35 : x35.toInt = a0_9.toInt + 1 := qx35
    refine va_put (D := (dC, dI)) (ci := 0) (v := .int x35) (ty := .int) (C := RX0) (T := TX0) (N := 15) hx hb hts zi_X0_addSeen_0 tyX0 tyX0_ok nmX0 hown hK hP hD hS 0 rfl rfl 9 (by decide) (hts (.fieldLink RX0 42 "WaxTurns$Hall" "seenCount" "I") (List.mem_cons_of_mem _ (List.mem_append_left _ (List.mem_of_getElem? (i := 0) rfl)))) (fun _ h9 => h9) rfl (tyX0_ok 9 (by decide)) rfl rfl (Nat.le_of_ble_eq_true rfl) dX0_addSeen_36 (fun H locs hP hD hS => ?_)
    obtain ⟨hP, hD⟩ := zc_re (w := [(a0, .inr (0, [a0g_0, a0g_1, a0g_2, a0g_3, a0g_4, a0g_5, a0g_6, a0g_7, a0g_8, .int x35, a0g_10, a0g_11, .ref a0_12, .ref a0_13, a0g_14])), (a0_12, .inl (ka0_12, 6, .inl (f18))), (a0_13, .inl (ka0_13, 6, .inl (f28)))]) hP hD rfl
    exact W.vret hx hb hr (fun t ht hW => ⟨⟨(), rfl, trivial, x35, f18, f28, ⟨Int.le_trans (by decide) bx35.1, bx35.2⟩, bf28, by rw [ht]; exact hP, va_K.moved hW.alike hK, hD⟩, hS.F ht⟩) hS.2.2 dX0_addSeen_39

set_option maxHeartbeats 4000000 in
set_option maxRecDepth 100000 in
theorem c_X0_isSeenMinute (l : Launch) (dC : Nat → ClassId) (dI : Nat → Nat → Nat) (sz : Nat) (a0 : Nat) (a1 : Int32) (a0g_0 a0g_1 a0g_2 a0g_3 a0g_4 a0g_5 a0g_6 a0g_7 a0g_8 a0g_10 a0g_11 a0g_12 a0g_14 : Value) (a0_9 : Int32) (a0_13 : Nat) (ka0_13 : ClassId) (fa0_13 : Nat → Int32) (ba0_9_l : (0 : Int) ≤ a0_9.toInt) (ba0_9_u : a0_9.toInt ≤ (6 : Int)) (bfa0_13 : (∀ k, (0 : Int) ≤ (fa0_13 k).toInt ∧ (fa0_13 k).toInt ≤ 999)) : Met l yX0_isSeenMinute wsX0_isSeenMinute ({ frames := 0, cells := 0, slots := 0, locals := 0 }) (va_Pc [.ref a0, .int a1] (ax_C dC dI sz [(a0, .inr (0, [a0g_0, a0g_1, a0g_2, a0g_3, a0g_4, a0g_5, a0g_6, a0g_7, a0g_8, .int a0_9, a0g_10, a0g_11, a0g_12, .ref a0_13, a0g_14])), (a0_13, .inl (ka0_13, 6, .inl (fa0_13)))] [(ka0_13, .int)] (fun _ => True))) (va_Qi (fun (r : Int32) (_ : Unit) => (r = 1 ∧ (0 : Int) ≤ a1.toInt ∧ a1.toInt ≤ (999 : Int) ∧ (1 : Int) ≤ a0_9.toInt ∧ a0_9.toInt ≤ (6 : Int)) ∨ (r = 0)) (fun (_ : Unit) (t : State) => ax_B dC dI (va_A [(a0, .inr (0, [a0g_0, a0g_1, a0g_2, a0g_3, a0g_4, a0g_5, a0g_6, a0g_7, a0g_8, .int a0_9, a0g_10, a0g_11, a0g_12, .ref a0_13, a0g_14])), (a0_13, .inl (ka0_13, 6, .inl (fa0_13)))] sz) [(a0, .inr (0, [a0g_0, a0g_1, a0g_2, a0g_3, a0g_4, a0g_5, a0g_6, a0g_7, a0g_8, .int a0_9, a0g_10, a0g_11, a0g_12, .ref a0_13, a0g_14])), (a0_13, .inl (ka0_13, 6, .inl (fa0_13)))] [(ka0_13, .int)] t) (va_A [(a0, .inr (0, [a0g_0, a0g_1, a0g_2, a0g_3, a0g_4, a0g_5, a0g_6, a0g_7, a0g_8, .int a0_9, a0g_10, a0g_11, a0g_12, .ref a0_13, a0g_14])), (a0_13, .inl (ka0_13, 6, .inl (fa0_13)))] sz)) 0 0 (va_A [(a0, .inr (0, [a0g_0, a0g_1, a0g_2, a0g_3, a0g_4, a0g_5, a0g_6, a0g_7, a0g_8, .int a0_9, a0g_10, a0g_11, a0g_12, .ref a0_13, a0g_14])), (a0_13, .inl (ka0_13, 6, .inl (fa0_13)))] sz) := by
  refine Met.ofW (cc := cX0_isSeenMinute) (maxL := 3) (ret := (some .boolean)) (by decide) rfl ?_
  intro p e s m args below meth c s₁ B hml hv
  obtain ⟨rfl, hsz, hP, hK, hD0, hE⟩ := hv
  have hx := B.exec
  have hb := B.bytes
  have hr := B.returns
  have hts := atoms_spec (ws := wsX0_isSeenMinute) B.pre
  have hown : s.vm.findClass RX0 = some m.cls := findClass_of_methodNamed B.named
  have hlocks := B.notSynchronized
  subst hsz
  have hD := hD0.self (sz := s.heap.size)
  generalize hAe : va_A [(a0, .inr (0, [a0g_0, a0g_1, a0g_2, a0g_3, a0g_4, a0g_5, a0g_6, a0g_7, a0g_8, .int a0_9, a0g_10, a0g_11, a0g_12, .ref a0_13, a0g_14])), (a0_13, .inl (ka0_13, 6, .inl (fa0_13)))] s.heap.size = A at hD ⊢
  have hA : ∀ q : Nat, s.heap.size ≤ q → A q := fun q h => by rw [← hAe]; exact Or.inr h
  have hS : va_S A s.heap s.heap [] := va_S.rf
  have hP : va_P (dC, dI) vwCl [(a0, .inr (0, [a0g_0, a0g_1, a0g_2, a0g_3, a0g_4, a0g_5, a0g_6, a0g_7, a0g_8, .int a0_9, a0g_10, a0g_11, a0g_12, .ref a0_13, a0g_14])), (a0_13, .inl (ka0_13, 6, .inl (fa0_13)))] s.heap := hP
  have hl := lv_entry ([.ref a0, .int a1]) (n := 3) (Nat.le_of_ble_eq_true rfl)
  rw [lg_entry_eq]
  generalize (lg_sl ([.ref a0, .int a1]) ++ List.replicate (3 - (lg_sl ([.ref a0, .int a1])).length) Slot.unset).toArray = ls at hl ⊢
  have hl : lv_has ls 3 [(0, .ref a0), (1, .int a1)] := hl
  refine ai_open (fun K hK0 => ?_)
  refine (hK0 _ _ _).mpr ?_
  refine lv_iconst (v := 0) hx hb dX0_isSeenMinute_0 zk_iconst_0 ?_
  refine lv_istore_n (lv' := [(2, .int 0), (0, .ref a0), (1, .int a1)]) hx hb dX0_isSeenMinute_1 rfl hl (by decide) rfl (fun ls hl => ?_)
  have J2 : ∀ (n : Nat) (j2l2 : Int32) (H : Heap) (locs : List Loc) (ls : Array Slot), (7 : Int) - j2l2.toInt ≤ (n : Int) → (0 : Int) ≤ j2l2.toInt → j2l2.toInt ≤ (6 : Int) → va_P (dC, dI) vwCl [(a0, .inr (0, [a0g_0, a0g_1, a0g_2, a0g_3, a0g_4, a0g_5, a0g_6, a0g_7, a0g_8, .int a0_9, a0g_10, a0g_11, a0g_12, .ref a0_13, a0g_14])), (a0_13, .inl (ka0_13, 6, .inl (fa0_13)))] H → va_D A [(a0, .inr (0, [a0g_0, a0g_1, a0g_2, a0g_3, a0g_4, a0g_5, a0g_6, a0g_7, a0g_8, .int a0_9, a0g_10, a0g_11, a0g_12, .ref a0_13, a0g_14])), (a0_13, .inl (ka0_13, 6, .inl (fa0_13)))] → va_S A s.heap H locs → lv_has ls 3 [(0, .ref a0), (1, .int a1), (2, .int j2l2)] → K H locs (F0 m 2 ls []) := by
    intro n
    induction n with
    | zero =>
      intro j2l2 H locs ls hm bj2l2_l bj2l2_u hP hD hS hl
      have h8 := ai_min j2l2
      have h9 := ai_max j2l2
      exact absurd hm (by omega)
    | succ n ih2 =>
      intro j2l2 H locs ls hm bj2l2_l bj2l2_u hP hD hS hl
      refine (hK0 _ _ _).mpr ?_
      have hm2 := hm
      refine lv_iload_n hx hb dX0_isSeenMinute_2 rfl (lv_at hl 2 rfl) ?_
      refine lv_aload_n hx hb dX0_isSeenMinute_3 rfl (lv_at hl 0 rfl) ?_
      refine va_get (D := (dC, dI)) (ci := 0) (v := .int a0_9) (C := RX0) (T := TX0) (N := 15) hx hb hts zi_X0_isSeenMinute_0 hown hK hP 0 rfl rfl 9 (by decide) (hts (.fieldLink RX0 42 "WaxTurns$Hall" "seenCount" "I") (List.mem_cons_of_mem _ (List.mem_append_left _ (List.mem_of_getElem? (i := 0) rfl)))) (fun _ h9 => h9) rfl dX0_isSeenMinute_4 ?_
      refine lv_icmp_ge (tgt := 28) hx hb dX0_isSeenMinute_7 (by decide) (fun c7 => ?_) (fun c7 => ?_)
      · have gc7 := ai_le c7
        have u7t_a0_9 : a0_9.toInt ≤ (6 : Int) := ba0_9_u
        have l7t_j2l2 : (0 : Int) ≤ j2l2.toInt := bj2l2_l
        refine lv_iconst (v := 0) hx hb dX0_isSeenMinute_28 zk_iconst_0 ?_
        exact W.zret (v := 0) hx hb hr rfl (fun t ht hW => ⟨⟨0, (), rfl, (Or.inr (rfl)), by rw [ht]; exact hP, va_K.moved hW.alike hK, hD⟩, hS.F ht⟩) hS.2.2 dX0_isSeenMinute_29
      · have gc7 := ai_nle c7
        have u7f_j2l2 : j2l2.toInt ≤ (5 : Int) := ai_lthi gc7 ba0_9_u
        have l7f_a0_9 : (1 : Int) ≤ a0_9.toInt := ai_ltlo gc7 bj2l2_l
        refine lv_aload_n hx hb dX0_isSeenMinute_10 rfl (lv_at hl 0 rfl) ?_
        refine va_get (D := (dC, dI)) (ci := 0) (v := .ref a0_13) (C := RX0) (T := TX0) (N := 15) hx hb hts zi_X0_isSeenMinute_0 hown hK hP 0 rfl rfl 13 (by decide) (hts (.fieldLink RX0 21 "WaxTurns$Hall" "seenMinutes" "[I") (List.mem_cons_of_mem _ (List.mem_append_left _ (List.mem_of_getElem? (i := 1) rfl)))) (fun _ h9 => h9) rfl dX0_isSeenMinute_11 ?_
        refine lv_iload_n hx hb dX0_isSeenMinute_14 rfl (lv_at hl 2 rfl) ?_
        refine va_iald hx hb hK hP 1 0 rfl rfl (ai_in bj2l2_l u7f_j2l2 (by decide) (by decide)) dX0_isSeenMinute_15 ?_
        refine lv_topi (fun x15 ex15 => ?_)
        have bx15 : (0 : Int) ≤ x15.toInt ∧ x15.toInt ≤ 999 := by rw [ex15]; exact bfa0_13 _
        refine lv_iload_n hx hb dX0_isSeenMinute_16 rfl (lv_at hl 1 rfl) ?_
        refine lv_icmp_ne (tgt := 22) hx hb dX0_isSeenMinute_17 (by decide) (fun c17 => ?_) (fun c17 => ?_)
        · have gc17 := ai_ne c17
          obtain ⟨x22, ex22⟩ : ∃ y : Int32, y = j2l2 + Int32.ofInt 1 := ⟨_, rfl⟩
          have qx22 : x22.toInt = j2l2.toInt + 1 := ai_inc ex22 (by decide) (by decide) u7f_j2l2 (by decide)
          have bx22 : (1 : Int) ≤ x22.toInt ∧ x22.toInt ≤ 6 := ⟨by rw [qx22]; exact Int.add_le_add bj2l2_l (Int.le_refl _), by rw [qx22]; exact Int.add_le_add u7f_j2l2 (Int.le_refl _)⟩
          refine lv_iinc (v := x22) (lv' := [(2, .int x22), (0, .ref a0), (1, .int a1)]) hx hb dX0_isSeenMinute_22 hl (k := 2) rfl ex22.symm (by decide) rfl (fun ls hl => ?_)
          refine lv_goto (tgt := 2) hx hb dX0_isSeenMinute_25 (by decide) ?_
          exact (hK0 _ _ _).mp (ih2 x22 _ _ _ (by have h0 := qx22; omega) (Int.le_trans zq4 bx22.1) bx22.2 hP hD hS (lv_sub hl [1, 2, 0] rfl))
        · have gc17 := ai_eq c17
          have u17f_a1 : a1.toInt ≤ (999 : Int) := Int.le_trans (Int.le_of_eq gc17.symm) bx15.2
          have l17f_a1 : (0 : Int) ≤ a1.toInt := Int.le_trans bx15.1 (Int.le_of_eq gc17)
          refine lv_iconst (v := 1) hx hb dX0_isSeenMinute_20 zk_iconst_1 ?_
          exact W.zret (v := 1) hx hb hr rfl (fun t ht hW => ⟨⟨1, (), rfl, (Or.inl ⟨rfl, l17f_a1, u17f_a1, l7f_a0_9, ba0_9_u⟩), by rw [ht]; exact hP, va_K.moved hW.alike hK, hD⟩, hS.F ht⟩) hS.2.2 dX0_isSeenMinute_21
  exact (hK0 _ _ _).mp (J2 7 0 _ _ _ (by have h1 : (0 : Int) ≤ (0 : Int32).toInt := zq5; have h2 : (0 : Int32).toInt ≤ (0 : Int) := zq6; omega) zq5 (Int.le_trans zq6 zq17) hP hD hS (lv_sub hl [1, 2, 0] rfl))

set_option maxHeartbeats 4000000 in
set_option maxRecDepth 100000 in
theorem c_X0_next (l : Launch) (dC : Nat → ClassId) (dI : Nat → Nat → Nat) (sz : Nat) (a0 : Nat) (a1 : Int32) (a0_0 : Int32) (a0g_1 a0g_2 a0g_3 a0g_4 a0g_7 a0g_8 a0g_9 a0g_10 a0g_11 a0g_12 a0g_13 a0g_14 : Value) (a0_5 : Int32) (a0_6 : Int32) (ba1_l : (0 : Int) ≤ a1.toInt) (ba1_u : a1.toInt ≤ (8 : Int)) (ba0_0_l : (0 : Int) ≤ a0_0.toInt) (ba0_0_u : a0_0.toInt ≤ (9 : Int)) (ba0_5_l : (0 : Int) ≤ a0_5.toInt) (ba0_5_u : a0_5.toInt ≤ (8 : Int)) (ba0_6_l : (0 : Int) ≤ a0_6.toInt) (ba0_6_u : a0_6.toInt ≤ (8 : Int)) : Met l yX0_next wsX0_next ({ frames := 0, cells := 0, slots := 0, locals := 0 }) (va_Pc [.ref a0, .int a1] (ax_C dC dI sz [(a0, .inr (0, [.int a0_0, a0g_1, a0g_2, a0g_3, a0g_4, .int a0_5, .int a0_6, a0g_7, a0g_8, a0g_9, a0g_10, a0g_11, a0g_12, a0g_13, a0g_14]))] [] (fun _ => True))) (va_Qi (fun (r : Int32) (_ : Unit) => (0 : Int) ≤ r.toInt ∧ r.toInt ≤ (8 : Int)) (fun (_ : Unit) (t : State) => ax_B dC dI (va_A [(a0, .inr (0, [.int a0_0, a0g_1, a0g_2, a0g_3, a0g_4, .int a0_5, .int a0_6, a0g_7, a0g_8, a0g_9, a0g_10, a0g_11, a0g_12, a0g_13, a0g_14]))] sz) [(a0, .inr (0, [.int a0_0, a0g_1, a0g_2, a0g_3, a0g_4, .int a0_5, .int a0_6, a0g_7, a0g_8, a0g_9, a0g_10, a0g_11, a0g_12, a0g_13, a0g_14]))] [] t) (va_A [(a0, .inr (0, [.int a0_0, a0g_1, a0g_2, a0g_3, a0g_4, .int a0_5, .int a0_6, a0g_7, a0g_8, a0g_9, a0g_10, a0g_11, a0g_12, a0g_13, a0g_14]))] sz)) 0 0 (va_A [(a0, .inr (0, [.int a0_0, a0g_1, a0g_2, a0g_3, a0g_4, .int a0_5, .int a0_6, a0g_7, a0g_8, a0g_9, a0g_10, a0g_11, a0g_12, a0g_13, a0g_14]))] sz) := by
  refine Met.ofW (cc := cX0_next) (maxL := 2) (ret := (some .int)) (by decide) rfl ?_
  intro p e s m args below meth c s₁ B hml hv
  obtain ⟨rfl, hsz, hP, hK, hD0, hE⟩ := hv
  have hx := B.exec
  have hb := B.bytes
  have hr := B.returns
  have hts := atoms_spec (ws := wsX0_next) B.pre
  have hown : s.vm.findClass RX0 = some m.cls := findClass_of_methodNamed B.named
  have hlocks := B.notSynchronized
  subst hsz
  have hD := hD0.self (sz := s.heap.size)
  generalize hAe : va_A [(a0, .inr (0, [.int a0_0, a0g_1, a0g_2, a0g_3, a0g_4, .int a0_5, .int a0_6, a0g_7, a0g_8, a0g_9, a0g_10, a0g_11, a0g_12, a0g_13, a0g_14]))] s.heap.size = A at hD ⊢
  have hA : ∀ q : Nat, s.heap.size ≤ q → A q := fun q h => by rw [← hAe]; exact Or.inr h
  have hS : va_S A s.heap s.heap [] := va_S.rf
  have hP : va_P (dC, dI) vwCl [(a0, .inr (0, [.int a0_0, a0g_1, a0g_2, a0g_3, a0g_4, .int a0_5, .int a0_6, a0g_7, a0g_8, a0g_9, a0g_10, a0g_11, a0g_12, a0g_13, a0g_14]))] s.heap := hP
  have hl := lv_entry ([.ref a0, .int a1]) (n := 2) (Nat.le_of_ble_eq_true rfl)
  rw [lg_entry_eq]
  generalize (lg_sl ([.ref a0, .int a1]) ++ List.replicate (2 - (lg_sl ([.ref a0, .int a1])).length) Slot.unset).toArray = ls at hl ⊢
  have hl : lv_has ls 2 [(0, .ref a0), (1, .int a1)] := hl
  refine lv_aload_n hx hb dX0_next_0 rfl (lv_at hl 0 rfl) ?_
  refine va_get (D := (dC, dI)) (ci := 0) (v := .int a0_0) (C := RX0) (T := TX0) (N := 15) hx hb hts zi_X0_next_0 hown hK hP 0 rfl rfl 0 (by decide) (hts (.fieldLink RX0 31 "WaxTurns$Hall" "figures" "I") (List.mem_cons_of_mem _ (List.mem_append_left _ (List.mem_of_getElem? (i := 0) rfl)))) (fun _ h9 => h9) rfl dX0_next_1 ?_
  refine lv_if_gt (tgt := 11) hx hb dX0_next_4 (by decide) (fun c4 => ?_) (fun c4 => ?_)
  · have gc4 := ai_lt c4
    have l4t_a0_0 : (1 : Int) ≤ a0_0.toInt := ai_ltlo gc4 zq5
    refine lv_iload_n hx hb dX0_next_11 rfl (lv_at hl 1 rfl) ?_
    refine lv_aload_n hx hb dX0_next_12 rfl (lv_at hl 0 rfl) ?_
    refine va_get (D := (dC, dI)) (ci := 0) (v := .int a0_5) (C := RX0) (T := TX0) (N := 15) hx hb hts zi_X0_next_0 hown hK hP 0 rfl rfl 5 (by decide) (hts (.fieldLink RX0 63 "WaxTurns$Hall" "times" "I") (List.mem_cons_of_mem _ (List.mem_append_left _ (List.mem_of_getElem? (i := 1) rfl)))) (fun _ h9 => h9) rfl dX0_next_13 ?_
    refine lv_imul hx hb dX0_next_16 ?_
    refine lv_topi (fun x16 ex16 => ?_)
    have qx16 : x16.toInt = a1.toInt * a0_5.toInt ∧ (0 : Int) ≤ x16.toInt ∧ x16.toInt ≤ 64 := ai_mul ex16 ⟨ba1_l, ba1_u⟩ ⟨ba0_5_l, ba0_5_u⟩ (by decide) (by decide) zq18
    refine lv_aload_n hx hb dX0_next_17 rfl (lv_at hl 0 rfl) ?_
    refine va_get (D := (dC, dI)) (ci := 0) (v := .int a0_6) (C := RX0) (T := TX0) (N := 15) hx hb hts zi_X0_next_0 hown hK hP 0 rfl rfl 6 (by decide) (hts (.fieldLink RX0 66 "WaxTurns$Hall" "plus" "I") (List.mem_cons_of_mem _ (List.mem_append_left _ (List.mem_of_getElem? (i := 2) rfl)))) (fun _ h9 => h9) rfl dX0_next_18 ?_
    refine lv_iadd hx hb dX0_next_21 ?_
    refine lv_topi (fun x21 ex21 => ?_)
    have qx21 : x21.toInt = x16.toInt + a0_6.toInt := ai_add ex21 ⟨qx16.2.1, qx16.2.2⟩ ⟨ba0_6_l, ba0_6_u⟩ (by decide) (by decide)
    have bx21 : (0 : Int) ≤ x21.toInt ∧ x21.toInt ≤ 72 := ⟨by rw [qx21]; exact Int.add_le_add qx16.2.1 ba0_6_l, by rw [qx21]; exact Int.add_le_add qx16.2.2 ba0_6_u⟩
    refine lv_aload_n hx hb dX0_next_22 rfl (lv_at hl 0 rfl) ?_
    refine va_get (D := (dC, dI)) (ci := 0) (v := .int a0_0) (C := RX0) (T := TX0) (N := 15) hx hb hts zi_X0_next_0 hown hK hP 0 rfl rfl 0 (by decide) (hts (.fieldLink RX0 31 "WaxTurns$Hall" "figures" "I") (List.mem_cons_of_mem _ (List.mem_append_left _ (List.mem_of_getElem? (i := 0) rfl)))) (fun _ h9 => h9) rfl dX0_next_23 ?_
    refine lv_irem hx hb dX0_next_26 (ai_nz l4t_a0_0 (by decide)) ?_
    refine lv_topi (fun x26 ex26 => ?_)
    have qx26 := ai_rem2 ex26 bx21.1 (Int.lt_of_lt_of_le zq19 l4t_a0_0) ba0_0_u
    exact W.iret (v := x26) hx hb hr (fun t ht hW => ⟨⟨x26, (), rfl, ⟨qx26.2.1, qx26.2.2⟩, by rw [ht]; exact hP, va_K.moved hW.alike hK, hD⟩, hS.F ht⟩) hS.2.2 dX0_next_27
  · have gc4 := ai_nlt c4
    have u4f_a0_0 : a0_0.toInt ≤ (0 : Int) := Int.le_trans gc4 zq6
    refine lv_iconst (v := 0) hx hb dX0_next_7 zk_iconst_0 ?_
    refine lv_goto (tgt := 27) hx hb dX0_next_8 (by decide) ?_
    exact W.iret (v := 0) hx hb hr (fun t ht hW => ⟨⟨0, (), rfl, ⟨zq5, (Int.le_trans zq6 zq20)⟩, by rw [ht]; exact hP, va_K.moved hW.alike hK, hD⟩, hS.F ht⟩) hS.2.2 dX0_next_27

set_option maxHeartbeats 4000000 in
set_option maxRecDepth 100000 in
theorem c_X7_laterTurn8 (l : Launch) (dC : Nat → ClassId) (dI : Nat → Nat → Nat) (sz : Nat) (a1 : Int32) (a2 : Int32) (a3 : Int32) (a4 : Int32) (a5 : Int32) (ba1_l : (0 : Int) ≤ a1.toInt) (ba1_u : a1.toInt ≤ (9 : Int)) (ba2_l : (0 : Int) ≤ a2.toInt) (ba2_u : a2.toInt ≤ (8 : Int)) (ba3_l : (0 : Int) ≤ a3.toInt) (ba3_u : a3.toInt ≤ (8 : Int)) (ba4_l : (0 : Int) ≤ a4.toInt) (ba4_u : a4.toInt ≤ (8 : Int)) : Met l yX7_laterTurn wsX7_laterTurn ({ frames := 0, cells := 0, slots := 0, locals := 0 }) (va_Pc [.int a1, .int a2, .int a3, .int a4, .int a5] (ax_C dC dI sz [] [] (fun _ => True))) (va_Qi (fun (r : Int32) (_ : Unit) => (0 : Int) ≤ r.toInt ∧ r.toInt ≤ (8 : Int)) (fun (_ : Unit) (t : State) => ax_B dC dI (va_A [] sz) [] [] t) (va_A [] sz)) 0 0 (va_A [] sz) := by
  refine Met.ofW (cc := cX7_laterTurn) (maxL := 9) (ret := (some .int)) (by decide) rfl ?_
  intro p e s m args below meth c s₁ B hml hv
  obtain ⟨rfl, hsz, hP, hK, hD0, hE⟩ := hv
  have hx := B.exec
  have hb := B.bytes
  have hr := B.returns
  have hts := atoms_spec (ws := wsX7_laterTurn) B.pre
  have hown : s.vm.findClass RX7 = some m.cls := findClass_of_methodNamed B.named
  have hlocks := B.notSynchronized
  subst hsz
  have hD := hD0.self (sz := s.heap.size)
  generalize hAe : va_A [] s.heap.size = A at hD ⊢
  have hA : ∀ q : Nat, s.heap.size ≤ q → A q := fun q h => by rw [← hAe]; exact Or.inr h
  have hS : va_S A s.heap s.heap [] := va_S.rf
  have hP : va_P (dC, dI) vwCl [] s.heap := hP
  have hl := lv_entry ([.int a1, .int a2, .int a3, .int a4, .int a5]) (n := 9) (Nat.le_of_ble_eq_true rfl)
  rw [lg_entry_eq]
  generalize (lg_sl ([.int a1, .int a2, .int a3, .int a4, .int a5]) ++ List.replicate (9 - (lg_sl ([.int a1, .int a2, .int a3, .int a4, .int a5])).length) Slot.unset).toArray = ls at hl ⊢
  have hl : lv_has ls 9 [(0, .int a1), (1, .int a2), (2, .int a3), (3, .int a4), (4, .int a5)] := hl
  refine ai_open (fun K hK0 => ?_)
  refine (hK0 _ _ _).mpr ?_
  refine lv_iload_n hx hb dX7_laterTurn_0 rfl (lv_at hl 0 rfl) ?_
  refine lv_if_gt (tgt := 6) hx hb dX7_laterTurn_1 (by decide) (fun c1 => ?_) (fun c1 => ?_)
  · have gc1 := ai_lt c1
    have l1t_a1 : (1 : Int) ≤ a1.toInt := ai_ltlo gc1 zq5
    refine lv_iload_n hx hb dX7_laterTurn_6 rfl (lv_at hl 1 rfl) ?_
    refine lv_istore (lv' := [(5, .int a2), (0, .int a1), (1, .int a2), (2, .int a3), (3, .int a4), (4, .int a5)]) hx hb dX7_laterTurn_7 hl (by decide) rfl (fun ls hl => ?_)
    refine lv_iload_n hx hb dX7_laterTurn_9 rfl (lv_at hl 3 rfl) ?_
    refine lv_istore (lv' := [(6, .int a3), (5, .int a2), (0, .int a1), (1, .int a2), (2, .int a3), (3, .int a4), (4, .int a5)]) hx hb dX7_laterTurn_10 hl (by decide) rfl (fun ls hl => ?_)
    refine lv_iload_n hx hb dX7_laterTurn_12 rfl (lv_at hl 5 rfl) ?_
    refine lv_istore (lv' := [(7, .int a4), (6, .int a3), (5, .int a2), (0, .int a1), (1, .int a2), (2, .int a3), (3, .int a4), (4, .int a5)]) hx hb dX7_laterTurn_13 hl (by decide) rfl (fun ls hl => ?_)
    refine lv_iload hx hb dX7_laterTurn_15 (lv_at hl 7 rfl) ?_
    refine lv_istore (lv' := [(8, .int a5), (7, .int a4), (6, .int a3), (5, .int a2), (0, .int a1), (1, .int a2), (2, .int a3), (3, .int a4), (4, .int a5)]) hx hb dX7_laterTurn_17 hl (by decide) rfl (fun ls hl => ?_)
    have J19 : ∀ (n : Nat) (j19l8 : Int32) (j19l7 : Int32) (j19l6 : Int32) (j19l5 : Int32) (H : Heap) (locs : List Loc) (ls : Array Slot), j19l8.toInt - (-2147483649 : Int) ≤ (n : Int) → (0 : Int) ≤ j19l7.toInt → j19l7.toInt ≤ (8 : Int) → (0 : Int) ≤ j19l6.toInt → j19l6.toInt ≤ (8 : Int) → (0 : Int) ≤ j19l5.toInt → j19l5.toInt ≤ (8 : Int) → va_P (dC, dI) vwCl [] H → va_D A [] → va_S A s.heap H locs → lv_has ls 9 [(0, .int a1), (5, .int j19l5), (6, .int j19l6), (7, .int j19l7), (8, .int j19l8)] → K H locs (F0 m 19 ls []) := by
      intro n
      induction n with
      | zero =>
        intro j19l8 j19l7 j19l6 j19l5 H locs ls hm bj19l7_l bj19l7_u bj19l6_l bj19l6_u bj19l5_l bj19l5_u hP hD hS hl
        have h8 := ai_min j19l8
        have h9 := ai_max j19l8
        exact absurd hm (by omega)
      | succ n ih19 =>
        intro j19l8 j19l7 j19l6 j19l5 H locs ls hm bj19l7_l bj19l7_u bj19l6_l bj19l6_u bj19l5_l bj19l5_u hP hD hS hl
        refine (hK0 _ _ _).mpr ?_
        have hm19 := hm
        refine lv_iload hx hb dX7_laterTurn_19 (lv_at hl 4 rfl) ?_
        refine lv_if_le (tgt := 74) hx hb dX7_laterTurn_21 (by decide) (fun c21 => ?_) (fun c21 => ?_)
        · have gc21 := ai_le c21
          have u21t_j19l8 : j19l8.toInt ≤ (0 : Int) := Int.le_trans gc21 zq6
          refine lv_iload hx hb dX7_laterTurn_74 (lv_at hl 3 rfl) ?_
          exact W.iret (v := j19l7) hx hb hr (fun t ht hW => ⟨⟨j19l7, (), rfl, ⟨bj19l7_l, bj19l7_u⟩, by rw [ht]; exact hP, va_K.moved hW.alike hK, hD⟩, hS.F ht⟩) hS.2.2 dX7_laterTurn_76
        · have gc21 := ai_nle c21
          have l21f_j19l8 : (1 : Int) ≤ j19l8.toInt := ai_ltlo gc21 zq5
          refine lv_iload hx hb dX7_laterTurn_24 (lv_at hl 4 rfl) ?_
          refine lv_iconst (v := 1) hx hb dX7_laterTurn_26 zk_iconst_1 ?_
          refine lv_iand hx hb dX7_laterTurn_27 ?_
          refine lv_topi (fun x27 ex27 => ?_)
          refine lv_iconst (v := 1) hx hb dX7_laterTurn_28 zk_iconst_1 ?_
          have J44 : ∀ (j44l7 : Int32) (H : Heap) (locs : List Loc) (ls : Array Slot), (0 : Int) ≤ j44l7.toInt → j44l7.toInt ≤ (8 : Int) → va_P (dC, dI) vwCl [] H → va_D A [] → va_S A s.heap H locs → lv_has ls 9 [(0, .int a1), (5, .int j19l5), (6, .int j19l6), (7, .int j44l7), (8, .int j19l8)] → K H locs (F0 m 44 ls []) := by
            intro j44l7 H locs ls  bj44l7_l bj44l7_u hP hD hS hl
            refine (hK0 _ _ _).mpr ?_
            refine lv_iload hx hb dX7_laterTurn_44 (lv_at hl 2 rfl) ?_
            refine lv_iload hx hb dX7_laterTurn_46 (lv_at hl 1 rfl) ?_
            refine lv_imul hx hb dX7_laterTurn_48 ?_
            refine lv_topi (fun x48 ex48 => ?_)
            have qx48 : x48.toInt = j19l6.toInt * j19l5.toInt ∧ (0 : Int) ≤ x48.toInt ∧ x48.toInt ≤ 64 := ai_mul ex48 ⟨bj19l6_l, bj19l6_u⟩ ⟨bj19l5_l, bj19l5_u⟩ (by decide) (by decide) zq18
            refine lv_iload hx hb dX7_laterTurn_49 (lv_at hl 2 rfl) ?_
            refine lv_iadd hx hb dX7_laterTurn_51 ?_
            refine lv_topi (fun x51 ex51 => ?_)
            have qx51 : x51.toInt = x48.toInt + j19l6.toInt := ai_add ex51 ⟨qx48.2.1, qx48.2.2⟩ ⟨bj19l6_l, bj19l6_u⟩ (by decide) (by decide)
            have bx51 : (0 : Int) ≤ x51.toInt ∧ x51.toInt ≤ 72 := ⟨by rw [qx51]; exact Int.add_le_add qx48.2.1 bj19l6_l, by rw [qx51]; exact Int.add_le_add qx48.2.2 bj19l6_u⟩
            refine lv_iload_n hx hb dX7_laterTurn_52 rfl (lv_at hl 0 rfl) ?_
            refine lv_irem hx hb dX7_laterTurn_53 (ai_nz l1t_a1 (by decide)) ?_
            refine lv_topi (fun x53 ex53 => ?_)
            have qx53 := ai_rem2 ex53 bx51.1 (Int.lt_of_lt_of_le zq19 l1t_a1) ba1_u
            refine lv_istore (lv' := [(6, .int x53), (0, .int a1), (5, .int j19l5), (7, .int j44l7), (8, .int j19l8)]) hx hb dX7_laterTurn_54 hl (by decide) rfl (fun ls hl => ?_)
            refine lv_iload hx hb dX7_laterTurn_56 (lv_at hl 2 rfl) ?_
            refine lv_iload hx hb dX7_laterTurn_58 (lv_at hl 2 rfl) ?_
            refine lv_imul hx hb dX7_laterTurn_60 ?_
            refine lv_topi (fun x60 ex60 => ?_)
            have qx60 : x60.toInt = j19l5.toInt * j19l5.toInt ∧ (0 : Int) ≤ x60.toInt ∧ x60.toInt ≤ 64 := ai_mul ex60 ⟨bj19l5_l, bj19l5_u⟩ ⟨bj19l5_l, bj19l5_u⟩ (by decide) (by decide) zq18
            refine lv_iload_n hx hb dX7_laterTurn_61 rfl (lv_at hl 1 rfl) ?_
            refine lv_irem hx hb dX7_laterTurn_62 (ai_nz l1t_a1 (by decide)) ?_
            refine lv_topi (fun x62 ex62 => ?_)
            have qx62 := ai_rem2 ex62 qx60.2.1 (Int.lt_of_lt_of_le zq19 l1t_a1) ba1_u
            refine lv_istore (lv' := [(5, .int x62), (6, .int x53), (0, .int a1), (7, .int j44l7), (8, .int j19l8)]) hx hb dX7_laterTurn_63 hl (by decide) rfl (fun ls hl => ?_)
            refine lv_iload hx hb dX7_laterTurn_65 (lv_at hl 4 rfl) ?_
            refine lv_iconst (v := 1) hx hb dX7_laterTurn_67 zk_iconst_1 ?_
            refine lv_ishr hx hb dX7_laterTurn_68 ?_
            refine lv_topi (fun x68 ex68 => ?_)
            have qx68 : x68.toInt = j19l8.toInt / 2 := ai_shr1 ex68
            have bx68 : (0 : Int) ≤ x68.toInt ∧ x68.toInt ≤ 1073741823 := by have h1 : (1 : Int) ≤ j19l8.toInt := l21f_j19l8; have h2 : j19l8.toInt ≤ (2147483647 : Int) := (ai_max j19l8); omega
            refine lv_istore (lv' := [(8, .int x68), (5, .int x62), (6, .int x53), (0, .int a1), (7, .int j44l7)]) hx hb dX7_laterTurn_69 hl (by decide) rfl (fun ls hl => ?_)
            refine lv_goto (tgt := 19) hx hb dX7_laterTurn_71 (by decide) ?_
            exact (hK0 _ _ _).mp (ih19 x68 j44l7 x53 x62 _ _ _ (by have h0 := qx68; omega) bj44l7_l bj44l7_u qx53.2.1 qx53.2.2 qx62.2.1 qx62.2.2 hP hD hS (lv_sub hl [3, 1, 2, 4, 0] rfl))
          refine lv_icmp_ne (tgt := 44) hx hb dX7_laterTurn_29 (by decide) (fun c29 => ?_) (fun c29 => ?_)
          · have gc29 := ai_ne c29
            exact (hK0 _ _ _).mp (J44 j19l7 _ _ _  bj19l7_l bj19l7_u hP hD hS (lv_sub hl [0, 1, 2, 3, 4] rfl))
          · have gc29 := ai_eq c29
            have u29f_x27 : x27.toInt ≤ (1 : Int) := Int.le_trans (Int.le_of_eq gc29) zq0
            have l29f_x27 : (1 : Int) ≤ x27.toInt := Int.le_trans zq1 (Int.le_of_eq gc29.symm)
            refine lv_iload hx hb dX7_laterTurn_32 (lv_at hl 3 rfl) ?_
            refine lv_iload hx hb dX7_laterTurn_34 (lv_at hl 1 rfl) ?_
            refine lv_imul hx hb dX7_laterTurn_36 ?_
            refine lv_topi (fun x36 ex36 => ?_)
            have qx36 : x36.toInt = j19l7.toInt * j19l5.toInt ∧ (0 : Int) ≤ x36.toInt ∧ x36.toInt ≤ 64 := ai_mul ex36 ⟨bj19l7_l, bj19l7_u⟩ ⟨bj19l5_l, bj19l5_u⟩ (by decide) (by decide) zq18
            refine lv_iload hx hb dX7_laterTurn_37 (lv_at hl 2 rfl) ?_
            refine lv_iadd hx hb dX7_laterTurn_39 ?_
            refine lv_topi (fun x39 ex39 => ?_)
            have qx39 : x39.toInt = x36.toInt + j19l6.toInt := ai_add ex39 ⟨qx36.2.1, qx36.2.2⟩ ⟨bj19l6_l, bj19l6_u⟩ (by decide) (by decide)
            have bx39 : (0 : Int) ≤ x39.toInt ∧ x39.toInt ≤ 72 := ⟨by rw [qx39]; exact Int.add_le_add qx36.2.1 bj19l6_l, by rw [qx39]; exact Int.add_le_add qx36.2.2 bj19l6_u⟩
            refine lv_iload_n hx hb dX7_laterTurn_40 rfl (lv_at hl 0 rfl) ?_
            refine lv_irem hx hb dX7_laterTurn_41 (ai_nz l1t_a1 (by decide)) ?_
            refine lv_topi (fun x41 ex41 => ?_)
            have qx41 := ai_rem2 ex41 bx39.1 (Int.lt_of_lt_of_le zq19 l1t_a1) ba1_u
            refine lv_istore (lv' := [(7, .int x41), (0, .int a1), (5, .int j19l5), (6, .int j19l6), (8, .int j19l8)]) hx hb dX7_laterTurn_42 hl (by decide) rfl (fun ls hl => ?_)
            exact (hK0 _ _ _).mp (J44 x41 _ _ _  qx41.2.1 qx41.2.2 hP hD hS (lv_sub hl [1, 2, 3, 0, 4] rfl))
    exact (hK0 _ _ _).mp (J19 4294967296 a5 a4 a3 a2 _ _ _ (by have h1 : (-2147483648 : Int) ≤ a5.toInt := (ai_min a5); have h2 : a5.toInt ≤ (2147483647 : Int) := (ai_max a5); omega) ba4_l ba4_u ba3_l ba3_u ba2_l ba2_u hP hD hS (lv_sub hl [4, 3, 2, 1, 0] rfl))
  · have gc1 := ai_nlt c1
    have u1f_a1 : a1.toInt ≤ (0 : Int) := Int.le_trans gc1 zq6
    refine lv_iconst (v := 0) hx hb dX7_laterTurn_4 zk_iconst_0 ?_
    exact W.iret (v := 0) hx hb hr (fun t ht hW => ⟨⟨0, (), rfl, ⟨zq5, (Int.le_trans zq6 zq20)⟩, by rw [ht]; exact hP, va_K.moved hW.alike hK, hD⟩, hS.F ht⟩) hS.2.2 dX7_laterTurn_5

set_option maxHeartbeats 4000000 in
set_option maxRecDepth 100000 in
theorem c_X7_laterTurn (l : Launch) (dC : Nat → ClassId) (dI : Nat → Nat → Nat) (sz : Nat) (a1 : Int32) (a2 : Int32) (a3 : Int32) (a4 : Int32) (a5 : Int32) (ba1_l : (0 : Int) ≤ a1.toInt) (ba1_u : a1.toInt ≤ (9 : Int)) (ba2_l : (0 : Int) ≤ a2.toInt) (ba2_u : a2.toInt ≤ (9 : Int)) (ba3_l : (0 : Int) ≤ a3.toInt) (ba3_u : a3.toInt ≤ (9 : Int)) (ba4_l : (0 : Int) ≤ a4.toInt) (ba4_u : a4.toInt ≤ (9 : Int)) : Met l yX7_laterTurn wsX7_laterTurn ({ frames := 0, cells := 0, slots := 0, locals := 0 }) (va_Pc [.int a1, .int a2, .int a3, .int a4, .int a5] (ax_C dC dI sz [] [] (fun _ => True))) (va_Qi (fun (r : Int32) (_ : Unit) => (0 : Int) ≤ r.toInt ∧ r.toInt ≤ (9 : Int)) (fun (_ : Unit) (t : State) => ax_B dC dI (va_A [] sz) [] [] t) (va_A [] sz)) 0 0 (va_A [] sz) := by
  refine Met.ofW (cc := cX7_laterTurn) (maxL := 9) (ret := (some .int)) (by decide) rfl ?_
  intro p e s m args below meth c s₁ B hml hv
  obtain ⟨rfl, hsz, hP, hK, hD0, hE⟩ := hv
  have hx := B.exec
  have hb := B.bytes
  have hr := B.returns
  have hts := atoms_spec (ws := wsX7_laterTurn) B.pre
  have hown : s.vm.findClass RX7 = some m.cls := findClass_of_methodNamed B.named
  have hlocks := B.notSynchronized
  subst hsz
  have hD := hD0.self (sz := s.heap.size)
  generalize hAe : va_A [] s.heap.size = A at hD ⊢
  have hA : ∀ q : Nat, s.heap.size ≤ q → A q := fun q h => by rw [← hAe]; exact Or.inr h
  have hS : va_S A s.heap s.heap [] := va_S.rf
  have hP : va_P (dC, dI) vwCl [] s.heap := hP
  have hl := lv_entry ([.int a1, .int a2, .int a3, .int a4, .int a5]) (n := 9) (Nat.le_of_ble_eq_true rfl)
  rw [lg_entry_eq]
  generalize (lg_sl ([.int a1, .int a2, .int a3, .int a4, .int a5]) ++ List.replicate (9 - (lg_sl ([.int a1, .int a2, .int a3, .int a4, .int a5])).length) Slot.unset).toArray = ls at hl ⊢
  have hl : lv_has ls 9 [(0, .int a1), (1, .int a2), (2, .int a3), (3, .int a4), (4, .int a5)] := hl
  refine ai_open (fun K hK0 => ?_)
  refine (hK0 _ _ _).mpr ?_
  refine lv_iload_n hx hb dX7_laterTurn_0 rfl (lv_at hl 0 rfl) ?_
  refine lv_if_gt (tgt := 6) hx hb dX7_laterTurn_1 (by decide) (fun c1 => ?_) (fun c1 => ?_)
  · have gc1 := ai_lt c1
    have l1t_a1 : (1 : Int) ≤ a1.toInt := ai_ltlo gc1 zq5
    refine lv_iload_n hx hb dX7_laterTurn_6 rfl (lv_at hl 1 rfl) ?_
    refine lv_istore (lv' := [(5, .int a2), (0, .int a1), (1, .int a2), (2, .int a3), (3, .int a4), (4, .int a5)]) hx hb dX7_laterTurn_7 hl (by decide) rfl (fun ls hl => ?_)
    refine lv_iload_n hx hb dX7_laterTurn_9 rfl (lv_at hl 3 rfl) ?_
    refine lv_istore (lv' := [(6, .int a3), (5, .int a2), (0, .int a1), (1, .int a2), (2, .int a3), (3, .int a4), (4, .int a5)]) hx hb dX7_laterTurn_10 hl (by decide) rfl (fun ls hl => ?_)
    refine lv_iload_n hx hb dX7_laterTurn_12 rfl (lv_at hl 5 rfl) ?_
    refine lv_istore (lv' := [(7, .int a4), (6, .int a3), (5, .int a2), (0, .int a1), (1, .int a2), (2, .int a3), (3, .int a4), (4, .int a5)]) hx hb dX7_laterTurn_13 hl (by decide) rfl (fun ls hl => ?_)
    refine lv_iload hx hb dX7_laterTurn_15 (lv_at hl 7 rfl) ?_
    refine lv_istore (lv' := [(8, .int a5), (7, .int a4), (6, .int a3), (5, .int a2), (0, .int a1), (1, .int a2), (2, .int a3), (3, .int a4), (4, .int a5)]) hx hb dX7_laterTurn_17 hl (by decide) rfl (fun ls hl => ?_)
    have J19 : ∀ (n : Nat) (j19l8 : Int32) (j19l7 : Int32) (j19l6 : Int32) (j19l5 : Int32) (H : Heap) (locs : List Loc) (ls : Array Slot), j19l8.toInt - (-2147483649 : Int) ≤ (n : Int) → (0 : Int) ≤ j19l7.toInt → j19l7.toInt ≤ (9 : Int) → (0 : Int) ≤ j19l6.toInt → j19l6.toInt ≤ (9 : Int) → (0 : Int) ≤ j19l5.toInt → j19l5.toInt ≤ (9 : Int) → va_P (dC, dI) vwCl [] H → va_D A [] → va_S A s.heap H locs → lv_has ls 9 [(0, .int a1), (5, .int j19l5), (6, .int j19l6), (7, .int j19l7), (8, .int j19l8)] → K H locs (F0 m 19 ls []) := by
      intro n
      induction n with
      | zero =>
        intro j19l8 j19l7 j19l6 j19l5 H locs ls hm bj19l7_l bj19l7_u bj19l6_l bj19l6_u bj19l5_l bj19l5_u hP hD hS hl
        have h8 := ai_min j19l8
        have h9 := ai_max j19l8
        exact absurd hm (by omega)
      | succ n ih19 =>
        intro j19l8 j19l7 j19l6 j19l5 H locs ls hm bj19l7_l bj19l7_u bj19l6_l bj19l6_u bj19l5_l bj19l5_u hP hD hS hl
        refine (hK0 _ _ _).mpr ?_
        have hm19 := hm
        refine lv_iload hx hb dX7_laterTurn_19 (lv_at hl 4 rfl) ?_
        refine lv_if_le (tgt := 74) hx hb dX7_laterTurn_21 (by decide) (fun c21 => ?_) (fun c21 => ?_)
        · have gc21 := ai_le c21
          have u21t_j19l8 : j19l8.toInt ≤ (0 : Int) := Int.le_trans gc21 zq6
          refine lv_iload hx hb dX7_laterTurn_74 (lv_at hl 3 rfl) ?_
          exact W.iret (v := j19l7) hx hb hr (fun t ht hW => ⟨⟨j19l7, (), rfl, ⟨bj19l7_l, bj19l7_u⟩, by rw [ht]; exact hP, va_K.moved hW.alike hK, hD⟩, hS.F ht⟩) hS.2.2 dX7_laterTurn_76
        · have gc21 := ai_nle c21
          have l21f_j19l8 : (1 : Int) ≤ j19l8.toInt := ai_ltlo gc21 zq5
          refine lv_iload hx hb dX7_laterTurn_24 (lv_at hl 4 rfl) ?_
          refine lv_iconst (v := 1) hx hb dX7_laterTurn_26 zk_iconst_1 ?_
          refine lv_iand hx hb dX7_laterTurn_27 ?_
          refine lv_topi (fun x27 ex27 => ?_)
          refine lv_iconst (v := 1) hx hb dX7_laterTurn_28 zk_iconst_1 ?_
          have J44 : ∀ (j44l7 : Int32) (H : Heap) (locs : List Loc) (ls : Array Slot), (0 : Int) ≤ j44l7.toInt → j44l7.toInt ≤ (9 : Int) → va_P (dC, dI) vwCl [] H → va_D A [] → va_S A s.heap H locs → lv_has ls 9 [(0, .int a1), (5, .int j19l5), (6, .int j19l6), (7, .int j44l7), (8, .int j19l8)] → K H locs (F0 m 44 ls []) := by
            intro j44l7 H locs ls  bj44l7_l bj44l7_u hP hD hS hl
            refine (hK0 _ _ _).mpr ?_
            refine lv_iload hx hb dX7_laterTurn_44 (lv_at hl 2 rfl) ?_
            refine lv_iload hx hb dX7_laterTurn_46 (lv_at hl 1 rfl) ?_
            refine lv_imul hx hb dX7_laterTurn_48 ?_
            refine lv_topi (fun x48 ex48 => ?_)
            have qx48 : x48.toInt = j19l6.toInt * j19l5.toInt ∧ (0 : Int) ≤ x48.toInt ∧ x48.toInt ≤ 81 := ai_mul ex48 ⟨bj19l6_l, bj19l6_u⟩ ⟨bj19l5_l, bj19l5_u⟩ (by decide) (by decide) zq21
            refine lv_iload hx hb dX7_laterTurn_49 (lv_at hl 2 rfl) ?_
            refine lv_iadd hx hb dX7_laterTurn_51 ?_
            refine lv_topi (fun x51 ex51 => ?_)
            have qx51 : x51.toInt = x48.toInt + j19l6.toInt := ai_add ex51 ⟨qx48.2.1, qx48.2.2⟩ ⟨bj19l6_l, bj19l6_u⟩ (by decide) (by decide)
            have bx51 : (0 : Int) ≤ x51.toInt ∧ x51.toInt ≤ 90 := ⟨by rw [qx51]; exact Int.add_le_add qx48.2.1 bj19l6_l, by rw [qx51]; exact Int.add_le_add qx48.2.2 bj19l6_u⟩
            refine lv_iload_n hx hb dX7_laterTurn_52 rfl (lv_at hl 0 rfl) ?_
            refine lv_irem hx hb dX7_laterTurn_53 (ai_nz l1t_a1 (by decide)) ?_
            refine lv_topi (fun x53 ex53 => ?_)
            have qx53 := ai_rem2 ex53 bx51.1 (Int.lt_of_lt_of_le zq19 l1t_a1) ba1_u
            refine lv_istore (lv' := [(6, .int x53), (0, .int a1), (5, .int j19l5), (7, .int j44l7), (8, .int j19l8)]) hx hb dX7_laterTurn_54 hl (by decide) rfl (fun ls hl => ?_)
            refine lv_iload hx hb dX7_laterTurn_56 (lv_at hl 2 rfl) ?_
            refine lv_iload hx hb dX7_laterTurn_58 (lv_at hl 2 rfl) ?_
            refine lv_imul hx hb dX7_laterTurn_60 ?_
            refine lv_topi (fun x60 ex60 => ?_)
            have qx60 : x60.toInt = j19l5.toInt * j19l5.toInt ∧ (0 : Int) ≤ x60.toInt ∧ x60.toInt ≤ 81 := ai_mul ex60 ⟨bj19l5_l, bj19l5_u⟩ ⟨bj19l5_l, bj19l5_u⟩ (by decide) (by decide) zq21
            refine lv_iload_n hx hb dX7_laterTurn_61 rfl (lv_at hl 1 rfl) ?_
            refine lv_irem hx hb dX7_laterTurn_62 (ai_nz l1t_a1 (by decide)) ?_
            refine lv_topi (fun x62 ex62 => ?_)
            have qx62 := ai_rem2 ex62 qx60.2.1 (Int.lt_of_lt_of_le zq19 l1t_a1) ba1_u
            refine lv_istore (lv' := [(5, .int x62), (6, .int x53), (0, .int a1), (7, .int j44l7), (8, .int j19l8)]) hx hb dX7_laterTurn_63 hl (by decide) rfl (fun ls hl => ?_)
            refine lv_iload hx hb dX7_laterTurn_65 (lv_at hl 4 rfl) ?_
            refine lv_iconst (v := 1) hx hb dX7_laterTurn_67 zk_iconst_1 ?_
            refine lv_ishr hx hb dX7_laterTurn_68 ?_
            refine lv_topi (fun x68 ex68 => ?_)
            have qx68 : x68.toInt = j19l8.toInt / 2 := ai_shr1 ex68
            have bx68 : (0 : Int) ≤ x68.toInt ∧ x68.toInt ≤ 1073741823 := by have h1 : (1 : Int) ≤ j19l8.toInt := l21f_j19l8; have h2 : j19l8.toInt ≤ (2147483647 : Int) := (ai_max j19l8); omega
            refine lv_istore (lv' := [(8, .int x68), (5, .int x62), (6, .int x53), (0, .int a1), (7, .int j44l7)]) hx hb dX7_laterTurn_69 hl (by decide) rfl (fun ls hl => ?_)
            refine lv_goto (tgt := 19) hx hb dX7_laterTurn_71 (by decide) ?_
            exact (hK0 _ _ _).mp (ih19 x68 j44l7 x53 x62 _ _ _ (by have h0 := qx68; omega) bj44l7_l bj44l7_u qx53.2.1 (Int.le_trans qx53.2.2 zq22) qx62.2.1 (Int.le_trans qx62.2.2 zq22) hP hD hS (lv_sub hl [3, 1, 2, 4, 0] rfl))
          refine lv_icmp_ne (tgt := 44) hx hb dX7_laterTurn_29 (by decide) (fun c29 => ?_) (fun c29 => ?_)
          · have gc29 := ai_ne c29
            exact (hK0 _ _ _).mp (J44 j19l7 _ _ _  bj19l7_l bj19l7_u hP hD hS (lv_sub hl [0, 1, 2, 3, 4] rfl))
          · have gc29 := ai_eq c29
            have u29f_x27 : x27.toInt ≤ (1 : Int) := Int.le_trans (Int.le_of_eq gc29) zq0
            have l29f_x27 : (1 : Int) ≤ x27.toInt := Int.le_trans zq1 (Int.le_of_eq gc29.symm)
            refine lv_iload hx hb dX7_laterTurn_32 (lv_at hl 3 rfl) ?_
            refine lv_iload hx hb dX7_laterTurn_34 (lv_at hl 1 rfl) ?_
            refine lv_imul hx hb dX7_laterTurn_36 ?_
            refine lv_topi (fun x36 ex36 => ?_)
            have qx36 : x36.toInt = j19l7.toInt * j19l5.toInt ∧ (0 : Int) ≤ x36.toInt ∧ x36.toInt ≤ 81 := ai_mul ex36 ⟨bj19l7_l, bj19l7_u⟩ ⟨bj19l5_l, bj19l5_u⟩ (by decide) (by decide) zq21
            refine lv_iload hx hb dX7_laterTurn_37 (lv_at hl 2 rfl) ?_
            refine lv_iadd hx hb dX7_laterTurn_39 ?_
            refine lv_topi (fun x39 ex39 => ?_)
            have qx39 : x39.toInt = x36.toInt + j19l6.toInt := ai_add ex39 ⟨qx36.2.1, qx36.2.2⟩ ⟨bj19l6_l, bj19l6_u⟩ (by decide) (by decide)
            have bx39 : (0 : Int) ≤ x39.toInt ∧ x39.toInt ≤ 90 := ⟨by rw [qx39]; exact Int.add_le_add qx36.2.1 bj19l6_l, by rw [qx39]; exact Int.add_le_add qx36.2.2 bj19l6_u⟩
            refine lv_iload_n hx hb dX7_laterTurn_40 rfl (lv_at hl 0 rfl) ?_
            refine lv_irem hx hb dX7_laterTurn_41 (ai_nz l1t_a1 (by decide)) ?_
            refine lv_topi (fun x41 ex41 => ?_)
            have qx41 := ai_rem2 ex41 bx39.1 (Int.lt_of_lt_of_le zq19 l1t_a1) ba1_u
            refine lv_istore (lv' := [(7, .int x41), (0, .int a1), (5, .int j19l5), (6, .int j19l6), (8, .int j19l8)]) hx hb dX7_laterTurn_42 hl (by decide) rfl (fun ls hl => ?_)
            exact (hK0 _ _ _).mp (J44 x41 _ _ _  qx41.2.1 (Int.le_trans qx41.2.2 zq22) hP hD hS (lv_sub hl [1, 2, 3, 0, 4] rfl))
    exact (hK0 _ _ _).mp (J19 4294967296 a5 a4 a3 a2 _ _ _ (by have h1 : (-2147483648 : Int) ≤ a5.toInt := (ai_min a5); have h2 : a5.toInt ≤ (2147483647 : Int) := (ai_max a5); omega) ba4_l ba4_u ba3_l ba3_u ba2_l ba2_u hP hD hS (lv_sub hl [4, 3, 2, 1, 0] rfl))
  · have gc1 := ai_nlt c1
    have u1f_a1 : a1.toInt ≤ (0 : Int) := Int.le_trans gc1 zq6
    refine lv_iconst (v := 0) hx hb dX7_laterTurn_4 zk_iconst_0 ?_
    exact W.iret (v := 0) hx hb hr (fun t ht hW => ⟨⟨0, (), rfl, ⟨zq5, (Int.le_trans zq6 zq7)⟩, by rw [ht]; exact hP, va_K.moved hW.alike hK, hD⟩, hS.F ht⟩) hS.2.2 dX7_laterTurn_5

set_option maxHeartbeats 4000000 in
set_option maxRecDepth 100000 in
theorem c_X0_aliveByLaw (l : Launch) (dC : Nat → ClassId) (dI : Nat → Nat → Nat) (sz : Nat) (a0 : Nat) (a1 : Int32) (a2 : Int32) (a0_0 : Int32) (a0_1 : Int32) (a0g_2 a0g_3 a0g_4 a0g_5 a0g_6 a0g_7 a0g_8 a0g_9 a0g_10 a0g_11 a0g_12 a0g_13 a0g_14 : Value) (ba1_l : (0 : Int) ≤ a1.toInt) (ba1_u : a1.toInt ≤ (999 : Int)) (ba2_l : (0 : Int) ≤ a2.toInt) (ba2_u : a2.toInt ≤ (999 : Int)) (ba0_0_l : (0 : Int) ≤ a0_0.toInt) (ba0_0_u : a0_0.toInt ≤ (9 : Int)) : Met l yX0_aliveByLaw wsX0_aliveByLaw ({ frames := 1, cells := 0, slots := 0, locals := 28 }) (va_Pc [.ref a0, .int a1, .int a2] (ax_C dC dI sz [(a0, .inr (0, [.int a0_0, .int a0_1, a0g_2, a0g_3, a0g_4, a0g_5, a0g_6, a0g_7, a0g_8, a0g_9, a0g_10, a0g_11, a0g_12, a0g_13, a0g_14]))] [] (fun U => va_Nw (.methodLinkNest RX0 72 yX7_laterTurn RX7) U))) (va_Qi (fun (r : Int32) (_ : Unit) => (0 : Int) ≤ r.toInt ∧ r.toInt ≤ (9 : Int)) (fun (_ : Unit) (t : State) => ax_B dC dI (va_A [(a0, .inr (0, [.int a0_0, .int a0_1, a0g_2, a0g_3, a0g_4, a0g_5, a0g_6, a0g_7, a0g_8, a0g_9, a0g_10, a0g_11, a0g_12, a0g_13, a0g_14]))] sz) [(a0, .inr (0, [.int a0_0, .int a0_1, a0g_2, a0g_3, a0g_4, a0g_5, a0g_6, a0g_7, a0g_8, a0g_9, a0g_10, a0g_11, a0g_12, a0g_13, a0g_14]))] [] t) (va_A [(a0, .inr (0, [.int a0_0, .int a0_1, a0g_2, a0g_3, a0g_4, a0g_5, a0g_6, a0g_7, a0g_8, a0g_9, a0g_10, a0g_11, a0g_12, a0g_13, a0g_14]))] sz)) 0 0 (va_A [(a0, .inr (0, [.int a0_0, .int a0_1, a0g_2, a0g_3, a0g_4, a0g_5, a0g_6, a0g_7, a0g_8, a0g_9, a0g_10, a0g_11, a0g_12, a0g_13, a0g_14]))] sz) := by
  refine Met.ofW (cc := cX0_aliveByLaw) (maxL := 4) (ret := (some .int)) (by decide) rfl ?_
  intro p e s m args below meth c s₁ B hml hv
  obtain ⟨rfl, hsz, hP, hK, hD0, hE⟩ := hv
  have hx := B.exec
  have hb := B.bytes
  have hr := B.returns
  have hts := atoms_spec (ws := wsX0_aliveByLaw) B.pre
  have hown : s.vm.findClass RX0 = some m.cls := findClass_of_methodNamed B.named
  have hlocks := B.notSynchronized
  subst hsz
  have hD := hD0.self (sz := s.heap.size)
  generalize hAe : va_A [(a0, .inr (0, [.int a0_0, .int a0_1, a0g_2, a0g_3, a0g_4, a0g_5, a0g_6, a0g_7, a0g_8, a0g_9, a0g_10, a0g_11, a0g_12, a0g_13, a0g_14]))] s.heap.size = A at hD ⊢
  have hA : ∀ q : Nat, s.heap.size ≤ q → A q := fun q h => by rw [← hAe]; exact Or.inr h
  have hS : va_S A s.heap s.heap [] := va_S.rf
  have hP : va_P (dC, dI) vwCl [(a0, .inr (0, [.int a0_0, .int a0_1, a0g_2, a0g_3, a0g_4, a0g_5, a0g_6, a0g_7, a0g_8, a0g_9, a0g_10, a0g_11, a0g_12, a0g_13, a0g_14]))] s.heap := hP
  have hE0 := hE
  have hl := lv_entry ([.ref a0, .int a1, .int a2]) (n := 4) (Nat.le_of_ble_eq_true rfl)
  rw [lg_entry_eq]
  generalize (lg_sl ([.ref a0, .int a1, .int a2]) ++ List.replicate (4 - (lg_sl ([.ref a0, .int a1, .int a2])).length) Slot.unset).toArray = ls at hl ⊢
  have hl : lv_has ls 4 [(0, .ref a0), (1, .int a1), (2, .int a2)] := hl
  refine lv_aload_n hx hb dX0_aliveByLaw_0 rfl (lv_at hl 0 rfl) ?_
  refine va_get (D := (dC, dI)) (ci := 0) (v := .int a0_1) (C := RX0) (T := TX0) (N := 15) hx hb hts zi_X0_aliveByLaw_0 hown hK hP 0 rfl rfl 1 (by decide) (hts (.fieldLink RX0 48 "WaxTurns$Hall" "span" "I") (List.mem_cons_of_mem _ (List.mem_append_left _ (List.mem_of_getElem? (i := 0) rfl)))) (fun _ h9 => h9) rfl dX0_aliveByLaw_1 ?_
  refine lv_if_gt (tgt := 11) hx hb dX0_aliveByLaw_4 (by decide) (fun c4 => ?_) (fun c4 => ?_)
  · have gc4 := ai_lt c4
    have l4t_a0_1 : (1 : Int) ≤ a0_1.toInt := ai_ltlo gc4 zq5
    refine lv_iload_n hx hb dX0_aliveByLaw_11 rfl (lv_at hl 2 rfl) ?_
    refine lv_aload_n hx hb dX0_aliveByLaw_12 rfl (lv_at hl 0 rfl) ?_
    refine va_get (D := (dC, dI)) (ci := 0) (v := .int a0_1) (C := RX0) (T := TX0) (N := 15) hx hb hts zi_X0_aliveByLaw_0 hown hK hP 0 rfl rfl 1 (by decide) (hts (.fieldLink RX0 48 "WaxTurns$Hall" "span" "I") (List.mem_cons_of_mem _ (List.mem_append_left _ (List.mem_of_getElem? (i := 0) rfl)))) (fun _ h9 => h9) rfl dX0_aliveByLaw_13 ?_
    refine lv_idiv hx hb dX0_aliveByLaw_16 (ai_nz l4t_a0_1 (by decide)) ?_
    refine lv_topi (fun x16 ex16 => ?_)
    have qx16 := ai_div ex16 ⟨ba2_l, ba2_u⟩ (Int.lt_of_lt_of_le zq19 l4t_a0_1)
    refine lv_istore_n (lv' := [(3, .int x16), (0, .ref a0), (1, .int a1), (2, .int a2)]) hx hb dX0_aliveByLaw_17 rfl hl (by decide) rfl (fun ls hl => ?_)
    refine lv_aload_n hx hb dX0_aliveByLaw_18 rfl (lv_at hl 1 rfl) ?_
    refine va_get (D := (dC, dI)) (ci := 0) (v := .int a0_0) (C := RX0) (T := TX0) (N := 15) hx hb hts zi_X0_aliveByLaw_0 hown hK hP 0 rfl rfl 0 (by decide) (hts (.fieldLink RX0 31 "WaxTurns$Hall" "figures" "I") (List.mem_cons_of_mem _ (List.mem_append_left _ (List.mem_of_getElem? (i := 1) rfl)))) (fun _ h9 => h9) rfl dX0_aliveByLaw_19 ?_
    refine lv_iload_n hx hb dX0_aliveByLaw_22 rfl (lv_at hl 2 rfl) ?_
    refine lv_bipush (v := 100) hx hb dX0_aliveByLaw_23 zk_bipush_100 ?_
    refine lv_idiv hx hb dX0_aliveByLaw_25 (by decide +kernel) ?_
    refine lv_topi (fun x25 ex25 => ?_)
    have qx25 := ai_div ex25 ⟨ba1_l, ba1_u⟩ (Int.lt_of_lt_of_le zq23 zq24)
    have u25z_x25 : x25.toInt ≤ (9 : Int) := (by have h1 := qx25.1; have h2 := ba1_u; have h3 : (100 : Int32).toInt = 100 := (by decide); rw [h3] at h1; omega)
    refine lv_iload_n hx hb dX0_aliveByLaw_26 rfl (lv_at hl 2 rfl) ?_
    refine lv_bipush (v := 10) hx hb dX0_aliveByLaw_27 zk_bipush_10 ?_
    refine lv_idiv hx hb dX0_aliveByLaw_29 (by decide +kernel) ?_
    refine lv_topi (fun x29 ex29 => ?_)
    have qx29 := ai_div ex29 ⟨ba1_l, ba1_u⟩ (Int.lt_of_lt_of_le zq25 zq26)
    have u29z_x29 : x29.toInt ≤ (99 : Int) := (by have h1 := qx29.1; have h2 := ba1_u; have h3 : (10 : Int32).toInt = 10 := (by decide); rw [h3] at h1; omega)
    refine lv_bipush (v := 10) hx hb dX0_aliveByLaw_30 zk_bipush_10 ?_
    refine lv_irem hx hb dX0_aliveByLaw_32 (by decide +kernel) ?_
    refine lv_topi (fun x32 ex32 => ?_)
    have qx32 := ai_rem2 ex32 qx29.2.1 (Int.lt_of_lt_of_le zq25 zq26) zq27
    have wx32 : x32.toInt = x29.toInt % 10 := qx32.1
    refine lv_iload_n hx hb dX0_aliveByLaw_33 rfl (lv_at hl 2 rfl) ?_
    refine lv_bipush (v := 10) hx hb dX0_aliveByLaw_34 zk_bipush_10 ?_
    refine lv_irem hx hb dX0_aliveByLaw_36 (by decide +kernel) ?_
    refine lv_topi (fun x36 ex36 => ?_)
    have qx36 := ai_rem2 ex36 ba1_l (Int.lt_of_lt_of_le zq25 zq26) zq27
    have wx36 : x36.toInt = a1.toInt % 10 := qx36.1
    refine lv_iload_n hx hb dX0_aliveByLaw_37 rfl (lv_at hl 0 rfl) ?_
    obtain ⟨hPc, hDc, hFc, hCc⟩ := zc_cut (wc := []) hP hD hS hA [] (by decide +kernel) rfl
    have hKc := hK.sub (tys' := []) [] rfl
    refine va_calli (va_runSN (As := [.int a0_0, .int x25, .int x32, .int x36, .int x16]) (rest := []) ⟨hx, hb, hml, hown, hts⟩ (c_X7_laterTurn l dC dI s.heap.size a0_0 x25 x32 x36 x16 ba0_0_l ba0_0_u qx25.2.1 u25z_x25 qx32.2.1 qx32.2.2 qx36.2.1 qx36.2.2) ⟨va_cnB 5 hts gX0_aliveByLaw_X7_laterTurn_n72 rfl rfl rfl hE0 (hts (.initialized RX7) (List.mem_cons_of_mem _ (List.mem_append_left _ (List.mem_of_getElem? (i := 3) rfl)))) zd_X7_laterTurn.2 ⟨Nat.le_of_ble_eq_true rfl, Nat.le_of_ble_eq_true rfl⟩, (hts (.static yX7_laterTurn) (List.mem_cons_of_mem _ (List.mem_append_left _ (List.mem_of_getElem? (i := 2) rfl)))), trivial⟩ ⟨ax_blind (fun _ _ _ _ _ => trivial), ax_pre hPc hKc hDc (fun _ _ => trivial)⟩ rfl rfl hl.1 rfl (lv_room (Nat.le_of_ble_eq_true rfl)) dX0_aliveByLaw_38 ⟨Nat.le_of_ble_eq_true rfl, Nat.le_of_ble_eq_true rfl⟩) hS (fun q _ h => hFc q h) hFc (fun r38 u t H locs ht hvm hw hB hz1 hk1 hS => ?_)
    obtain ⟨hP1, hK1, hD1⟩ := hB
    rw [ht] at hP1
    obtain ⟨hP, hD⟩ := zc_back (w := [(a0, .inr (0, [.int a0_0, .int a0_1, a0g_2, a0g_3, a0g_4, a0g_5, a0g_6, a0g_7, a0g_8, a0g_9, a0g_10, a0g_11, a0g_12, a0g_13, a0g_14]))]) hP hD hCc hk1 hFc hP1 hD1 [.inl 0] (by decide +kernel) rfl
    have hw : (0 : Int) ≤ r38.toInt ∧ r38.toInt ≤ (9 : Int) := hw
    obtain ⟨h38_0, h38_1⟩ := hw
    exact W.iret (v := r38) hx hb hr (fun t ht hW => ⟨⟨r38, (), rfl, ⟨h38_0, h38_1⟩, by rw [ht]; exact hP, va_K.moved hW.alike hK, hD⟩, hS.F ht⟩) hS.2.2 dX0_aliveByLaw_41
  · have gc4 := ai_nlt c4
    have u4f_a0_1 : a0_1.toInt ≤ (0 : Int) := Int.le_trans gc4 zq6
    refine lv_iconst (v := 0) hx hb dX0_aliveByLaw_7 zk_iconst_0 ?_
    refine lv_goto (tgt := 17) hx hb dX0_aliveByLaw_8 (by decide) ?_
    refine lv_istore_n (lv' := [(3, .int 0), (0, .ref a0), (1, .int a1), (2, .int a2)]) hx hb dX0_aliveByLaw_17 rfl hl (by decide) rfl (fun ls hl => ?_)
    refine lv_aload_n hx hb dX0_aliveByLaw_18 rfl (lv_at hl 1 rfl) ?_
    refine va_get (D := (dC, dI)) (ci := 0) (v := .int a0_0) (C := RX0) (T := TX0) (N := 15) hx hb hts zi_X0_aliveByLaw_0 hown hK hP 0 rfl rfl 0 (by decide) (hts (.fieldLink RX0 31 "WaxTurns$Hall" "figures" "I") (List.mem_cons_of_mem _ (List.mem_append_left _ (List.mem_of_getElem? (i := 1) rfl)))) (fun _ h9 => h9) rfl dX0_aliveByLaw_19 ?_
    refine lv_iload_n hx hb dX0_aliveByLaw_22 rfl (lv_at hl 2 rfl) ?_
    refine lv_bipush (v := 100) hx hb dX0_aliveByLaw_23 zk_bipush_100 ?_
    refine lv_idiv hx hb dX0_aliveByLaw_25 (by decide +kernel) ?_
    refine lv_topi (fun x25 ex25 => ?_)
    have qx25 := ai_div ex25 ⟨ba1_l, ba1_u⟩ (Int.lt_of_lt_of_le zq23 zq24)
    have u25z_x25 : x25.toInt ≤ (9 : Int) := (by have h1 := qx25.1; have h2 := ba1_u; have h3 : (100 : Int32).toInt = 100 := (by decide); rw [h3] at h1; omega)
    refine lv_iload_n hx hb dX0_aliveByLaw_26 rfl (lv_at hl 2 rfl) ?_
    refine lv_bipush (v := 10) hx hb dX0_aliveByLaw_27 zk_bipush_10 ?_
    refine lv_idiv hx hb dX0_aliveByLaw_29 (by decide +kernel) ?_
    refine lv_topi (fun x29 ex29 => ?_)
    have qx29 := ai_div ex29 ⟨ba1_l, ba1_u⟩ (Int.lt_of_lt_of_le zq25 zq26)
    have u29z_x29 : x29.toInt ≤ (99 : Int) := (by have h1 := qx29.1; have h2 := ba1_u; have h3 : (10 : Int32).toInt = 10 := (by decide); rw [h3] at h1; omega)
    refine lv_bipush (v := 10) hx hb dX0_aliveByLaw_30 zk_bipush_10 ?_
    refine lv_irem hx hb dX0_aliveByLaw_32 (by decide +kernel) ?_
    refine lv_topi (fun x32 ex32 => ?_)
    have qx32 := ai_rem2 ex32 qx29.2.1 (Int.lt_of_lt_of_le zq25 zq26) zq27
    have wx32 : x32.toInt = x29.toInt % 10 := qx32.1
    refine lv_iload_n hx hb dX0_aliveByLaw_33 rfl (lv_at hl 2 rfl) ?_
    refine lv_bipush (v := 10) hx hb dX0_aliveByLaw_34 zk_bipush_10 ?_
    refine lv_irem hx hb dX0_aliveByLaw_36 (by decide +kernel) ?_
    refine lv_topi (fun x36 ex36 => ?_)
    have qx36 := ai_rem2 ex36 ba1_l (Int.lt_of_lt_of_le zq25 zq26) zq27
    have wx36 : x36.toInt = a1.toInt % 10 := qx36.1
    refine lv_iload_n hx hb dX0_aliveByLaw_37 rfl (lv_at hl 0 rfl) ?_
    obtain ⟨hPc, hDc, hFc, hCc⟩ := zc_cut (wc := []) hP hD hS hA [] (by decide +kernel) rfl
    have hKc := hK.sub (tys' := []) [] rfl
    refine va_calli (va_runSN (As := [.int a0_0, .int x25, .int x32, .int x36, .int 0]) (rest := []) ⟨hx, hb, hml, hown, hts⟩ (c_X7_laterTurn l dC dI s.heap.size a0_0 x25 x32 x36 0 ba0_0_l ba0_0_u qx25.2.1 u25z_x25 qx32.2.1 qx32.2.2 qx36.2.1 qx36.2.2) ⟨va_cnB 5 hts gX0_aliveByLaw_X7_laterTurn_n72 rfl rfl rfl hE0 (hts (.initialized RX7) (List.mem_cons_of_mem _ (List.mem_append_left _ (List.mem_of_getElem? (i := 3) rfl)))) zd_X7_laterTurn.2 ⟨Nat.le_of_ble_eq_true rfl, Nat.le_of_ble_eq_true rfl⟩, (hts (.static yX7_laterTurn) (List.mem_cons_of_mem _ (List.mem_append_left _ (List.mem_of_getElem? (i := 2) rfl)))), trivial⟩ ⟨ax_blind (fun _ _ _ _ _ => trivial), ax_pre hPc hKc hDc (fun _ _ => trivial)⟩ rfl rfl hl.1 rfl (lv_room (Nat.le_of_ble_eq_true rfl)) dX0_aliveByLaw_38 ⟨Nat.le_of_ble_eq_true rfl, Nat.le_of_ble_eq_true rfl⟩) hS (fun q _ h => hFc q h) hFc (fun r38 u t H locs ht hvm hw hB hz1 hk1 hS => ?_)
    obtain ⟨hP1, hK1, hD1⟩ := hB
    rw [ht] at hP1
    obtain ⟨hP, hD⟩ := zc_back (w := [(a0, .inr (0, [.int a0_0, .int a0_1, a0g_2, a0g_3, a0g_4, a0g_5, a0g_6, a0g_7, a0g_8, a0g_9, a0g_10, a0g_11, a0g_12, a0g_13, a0g_14]))]) hP hD hCc hk1 hFc hP1 hD1 [.inl 0] (by decide +kernel) rfl
    have hw : (0 : Int) ≤ r38.toInt ∧ r38.toInt ≤ (9 : Int) := hw
    obtain ⟨h38_0, h38_1⟩ := hw
    exact W.iret (v := r38) hx hb hr (fun t ht hW => ⟨⟨r38, (), rfl, ⟨h38_0, h38_1⟩, by rw [ht]; exact hP, va_K.moved hW.alike hK, hD⟩, hS.F ht⟩) hS.2.2 dX0_aliveByLaw_41

set_option maxHeartbeats 4000000 in
set_option maxRecDepth 100000 in
theorem c_X0_goesLike (l : Launch) (dC : Nat → ClassId) (dI : Nat → Nat → Nat) (sz : Nat) (a0 : Nat) (a1 : Int32) (a2 : Int32) (a0_0 : Int32) (a0g_1 a0g_2 a0g_3 a0g_4 a0g_8 a0g_9 a0g_10 a0g_11 a0g_12 a0g_13 a0g_14 : Value) (a0_5 : Int32) (a0_6 : Int32) (a0_7 : Int32) (ba1_l : (0 : Int) ≤ a1.toInt) (ba1_u : a1.toInt ≤ (8 : Int)) (ba2_l : (0 : Int) ≤ a2.toInt) (ba2_u : a2.toInt ≤ (8 : Int)) (ba0_0_l : (0 : Int) ≤ a0_0.toInt) (ba0_0_u : a0_0.toInt ≤ (9 : Int)) (ba0_5_l : (0 : Int) ≤ a0_5.toInt) (ba0_5_u : a0_5.toInt ≤ (8 : Int)) (ba0_6_l : (0 : Int) ≤ a0_6.toInt) (ba0_6_u : a0_6.toInt ≤ (8 : Int)) (ba0_7_l : (0 : Int) ≤ a0_7.toInt) (ba0_7_u : a0_7.toInt ≤ (8 : Int)) : Met l yX0_goesLike wsX0_goesLike ({ frames := 1, cells := 0, slots := 0, locals := 21 }) (va_Pc [.ref a0, .int a1, .int a2] (ax_C dC dI sz [(a0, .inr (0, [.int a0_0, a0g_1, a0g_2, a0g_3, a0g_4, .int a0_5, .int a0_6, .int a0_7, a0g_8, a0g_9, a0g_10, a0g_11, a0g_12, a0g_13, a0g_14]))] [] (fun _ => True))) (va_Qi (fun (r : Int32) (_ : Unit) => (r = 1) ∨ (r = 0 ∧ (1 : Int) ≤ a0_0.toInt ∧ a0_0.toInt ≤ (9 : Int))) (fun (_ : Unit) (t : State) => ax_B dC dI (va_A [(a0, .inr (0, [.int a0_0, a0g_1, a0g_2, a0g_3, a0g_4, .int a0_5, .int a0_6, .int a0_7, a0g_8, a0g_9, a0g_10, a0g_11, a0g_12, a0g_13, a0g_14]))] sz) [(a0, .inr (0, [.int a0_0, a0g_1, a0g_2, a0g_3, a0g_4, .int a0_5, .int a0_6, .int a0_7, a0g_8, a0g_9, a0g_10, a0g_11, a0g_12, a0g_13, a0g_14]))] [] t) (va_A [(a0, .inr (0, [.int a0_0, a0g_1, a0g_2, a0g_3, a0g_4, .int a0_5, .int a0_6, .int a0_7, a0g_8, a0g_9, a0g_10, a0g_11, a0g_12, a0g_13, a0g_14]))] sz)) 0 0 (va_A [(a0, .inr (0, [.int a0_0, a0g_1, a0g_2, a0g_3, a0g_4, .int a0_5, .int a0_6, .int a0_7, a0g_8, a0g_9, a0g_10, a0g_11, a0g_12, a0g_13, a0g_14]))] sz) := by
  refine Met.ofW (cc := cX0_goesLike) (maxL := 6) (ret := (some .boolean)) (by decide) rfl ?_
  intro p e s m args below meth c s₁ B hml hv
  obtain ⟨rfl, hsz, hP, hK, hD0, hE⟩ := hv
  have hx := B.exec
  have hb := B.bytes
  have hr := B.returns
  have hts := atoms_spec (ws := wsX0_goesLike) B.pre
  have hown : s.vm.findClass RX0 = some m.cls := findClass_of_methodNamed B.named
  have hlocks := B.notSynchronized
  subst hsz
  have hD := hD0.self (sz := s.heap.size)
  generalize hAe : va_A [(a0, .inr (0, [.int a0_0, a0g_1, a0g_2, a0g_3, a0g_4, .int a0_5, .int a0_6, .int a0_7, a0g_8, a0g_9, a0g_10, a0g_11, a0g_12, a0g_13, a0g_14]))] s.heap.size = A at hD ⊢
  have hA : ∀ q : Nat, s.heap.size ≤ q → A q := fun q h => by rw [← hAe]; exact Or.inr h
  have hS : va_S A s.heap s.heap [] := va_S.rf
  have hP : va_P (dC, dI) vwCl [(a0, .inr (0, [.int a0_0, a0g_1, a0g_2, a0g_3, a0g_4, .int a0_5, .int a0_6, .int a0_7, a0g_8, a0g_9, a0g_10, a0g_11, a0g_12, a0g_13, a0g_14]))] s.heap := hP
  have hl := lv_entry ([.ref a0, .int a1, .int a2]) (n := 6) (Nat.le_of_ble_eq_true rfl)
  rw [lg_entry_eq]
  generalize (lg_sl ([.ref a0, .int a1, .int a2]) ++ List.replicate (6 - (lg_sl ([.ref a0, .int a1, .int a2])).length) Slot.unset).toArray = ls at hl ⊢
  have hl : lv_has ls 6 [(0, .ref a0), (1, .int a1), (2, .int a2)] := hl
  refine ai_open (fun K hK0 => ?_)
  refine (hK0 _ _ _).mpr ?_
  refine lv_aload_n hx hb dX0_goesLike_0 rfl (lv_at hl 0 rfl) ?_
  refine va_get (D := (dC, dI)) (ci := 0) (v := .int a0_7) (C := RX0) (T := TX0) (N := 15) hx hb hts zi_X0_goesLike_0 hown hK hP 0 rfl rfl 7 (by decide) (hts (.fieldLink RX0 69 "WaxTurns$Hall" "first" "I") (List.mem_cons_of_mem _ (List.mem_append_left _ (List.mem_of_getElem? (i := 0) rfl)))) (fun _ h9 => h9) rfl dX0_goesLike_1 ?_
  refine lv_istore_n (lv' := [(3, .int a0_7), (0, .ref a0), (1, .int a1), (2, .int a2)]) hx hb dX0_goesLike_4 rfl hl (by decide) rfl (fun ls hl => ?_)
  refine lv_iconst (v := 0) hx hb dX0_goesLike_5 zk_iconst_0 ?_
  refine lv_istore (lv' := [(4, .int 0), (3, .int a0_7), (0, .ref a0), (1, .int a1), (2, .int a2)]) hx hb dX0_goesLike_6 hl (by decide) rfl (fun ls hl => ?_)
  have J8 : ∀ (n : Nat) (j8l4 : Int32) (j8l3 : Int32) (H : Heap) (locs : List Loc) (ls : Array Slot), (10 : Int) - j8l4.toInt ≤ (n : Int) → (0 : Int) ≤ j8l4.toInt → j8l4.toInt ≤ (9 : Int) → (0 : Int) ≤ j8l3.toInt → j8l3.toInt ≤ (8 : Int) → va_P (dC, dI) vwCl [(a0, .inr (0, [.int a0_0, a0g_1, a0g_2, a0g_3, a0g_4, .int a0_5, .int a0_6, .int a0_7, a0g_8, a0g_9, a0g_10, a0g_11, a0g_12, a0g_13, a0g_14]))] H → va_D A [(a0, .inr (0, [.int a0_0, a0g_1, a0g_2, a0g_3, a0g_4, .int a0_5, .int a0_6, .int a0_7, a0g_8, a0g_9, a0g_10, a0g_11, a0g_12, a0g_13, a0g_14]))] → va_S A s.heap H locs → lv_has ls 6 [(0, .ref a0), (1, .int a1), (2, .int a2), (3, .int j8l3), (4, .int j8l4)] → K H locs (F0 m 8 ls []) := by
    intro n
    induction n with
    | zero =>
      intro j8l4 j8l3 H locs ls hm bj8l4_l bj8l4_u bj8l3_l bj8l3_u hP hD hS hl
      have h8 := ai_min j8l4
      have h9 := ai_max j8l4
      exact absurd hm (by omega)
    | succ n ih8 =>
      intro j8l4 j8l3 H locs ls hm bj8l4_l bj8l4_u bj8l3_l bj8l3_u hP hD hS hl
      refine (hK0 _ _ _).mpr ?_
      have hm8 := hm
      refine lv_iload hx hb dX0_goesLike_8 (lv_at hl 4 rfl) ?_
      refine lv_aload_n hx hb dX0_goesLike_10 rfl (lv_at hl 0 rfl) ?_
      refine va_get (D := (dC, dI)) (ci := 0) (v := .int a0_0) (C := RX0) (T := TX0) (N := 15) hx hb hts zi_X0_goesLike_0 hown hK hP 0 rfl rfl 0 (by decide) (hts (.fieldLink RX0 31 "WaxTurns$Hall" "figures" "I") (List.mem_cons_of_mem _ (List.mem_append_left _ (List.mem_of_getElem? (i := 1) rfl)))) (fun _ h9 => h9) rfl dX0_goesLike_11 ?_
      refine lv_icmp_ge (tgt := 50) hx hb dX0_goesLike_14 (by decide) (fun c14 => ?_) (fun c14 => ?_)
      · have gc14 := ai_le c14
        have u14t_a0_0 : a0_0.toInt ≤ (9 : Int) := ba0_0_u
        have l14t_j8l4 : (0 : Int) ≤ j8l4.toInt := bj8l4_l
        refine lv_iconst (v := 1) hx hb dX0_goesLike_50 zk_iconst_1 ?_
        exact W.zret (v := 1) hx hb hr rfl (fun t ht hW => ⟨⟨1, (), rfl, (Or.inl (rfl)), by rw [ht]; exact hP, va_K.moved hW.alike hK, hD⟩, hS.F ht⟩) hS.2.2 dX0_goesLike_51
      · have gc14 := ai_nle c14
        have u14f_j8l4 : j8l4.toInt ≤ (8 : Int) := ai_lthi gc14 ba0_0_u
        have l14f_a0_0 : (1 : Int) ≤ a0_0.toInt := ai_ltlo gc14 bj8l4_l
        refine lv_aload_n hx hb dX0_goesLike_17 rfl (lv_at hl 0 rfl) ?_
        refine lv_iload_n hx hb dX0_goesLike_18 rfl (lv_at hl 3 rfl) ?_
        obtain ⟨hPc, hDc, hFc, hCc⟩ := zc_cut (wc := [(a0, .inr (0, [.int a0_0, a0g_1, a0g_2, a0g_3, a0g_4, .int a0_5, .int a0_6, .int a0_7, a0g_8, a0g_9, a0g_10, a0g_11, a0g_12, a0g_13, a0g_14]))]) hP hD hS hA [0] (by decide +kernel) rfl
        have hKc := hK.sub (tys' := []) [] rfl
        refine va_calli (va_runV (As := [.int j8l3]) (rest := []) ⟨hx, hb, hml, hown, hts⟩ (c_X0_next l dC dI H.size a0 j8l3 a0_0 a0g_1 a0g_2 a0g_3 a0g_4 (.int a0_7) a0g_8 a0g_9 a0g_10 a0g_11 a0g_12 a0g_13 a0g_14 a0_5 a0_6 bj8l3_l bj8l3_u (Int.le_trans zq4 l14f_a0_0) ba0_0_u ba0_5_l ba0_5_u ba0_6_l ba0_6_u) (cwV 1 hts gX0_goesLike_X0_next rfl rfl rfl zd_X0_next ⟨Nat.le_of_ble_eq_true rfl, Nat.le_of_ble_eq_true rfl⟩) ⟨ax_blind (fun _ _ _ _ _ => trivial), zr_0 hKc hPc (q0 := 0) rfl, ax_pre hPc hKc hDc (fun _ _ => trivial)⟩ rfl rfl hl.1 rfl (lv_room (Nat.le_of_ble_eq_true rfl)) dX0_goesLike_19 ⟨Nat.le_of_ble_eq_true rfl, Nat.le_of_ble_eq_true rfl⟩) hS (fun q _ h => hFc q h) hFc (fun r19 u t H locs ht hvm hw hB hz1 hk1 hS => ?_)
        obtain ⟨hP1, hK1, hD1⟩ := hB
        rw [ht] at hP1
        obtain ⟨hP, hD⟩ := zc_back (w := [(a0, .inr (0, [.int a0_0, a0g_1, a0g_2, a0g_3, a0g_4, .int a0_5, .int a0_6, .int a0_7, a0g_8, a0g_9, a0g_10, a0g_11, a0g_12, a0g_13, a0g_14]))]) hP hD hCc hk1 hFc hP1 hD1 [.inr 0] (by decide +kernel) rfl
        have hw : (0 : Int) ≤ r19.toInt ∧ r19.toInt ≤ (8 : Int) := hw
        obtain ⟨h19_0, h19_1⟩ := hw
        refine lv_istore (lv' := [(5, .int r19), (0, .ref a0), (1, .int a1), (2, .int a2), (3, .int j8l3), (4, .int j8l4)]) hx hb dX0_goesLike_22 hl (by decide) rfl (fun ls hl => ?_)
        refine lv_iload_n hx hb dX0_goesLike_24 rfl (lv_at hl 4 rfl) ?_
        refine lv_iload_n hx hb dX0_goesLike_25 rfl (lv_at hl 2 rfl) ?_
        refine lv_imul hx hb dX0_goesLike_26 ?_
        refine lv_topi (fun x26 ex26 => ?_)
        have qx26 : x26.toInt = j8l3.toInt * a1.toInt ∧ (0 : Int) ≤ x26.toInt ∧ x26.toInt ≤ 64 := ai_mul ex26 ⟨bj8l3_l, bj8l3_u⟩ ⟨ba1_l, ba1_u⟩ (by decide) (by decide) zq18
        refine lv_iload_n hx hb dX0_goesLike_27 rfl (lv_at hl 3 rfl) ?_
        refine lv_iadd hx hb dX0_goesLike_28 ?_
        refine lv_topi (fun x28 ex28 => ?_)
        have qx28 : x28.toInt = x26.toInt + a2.toInt := ai_add ex28 ⟨qx26.2.1, qx26.2.2⟩ ⟨ba2_l, ba2_u⟩ (by decide) (by decide)
        have bx28 : (0 : Int) ≤ x28.toInt ∧ x28.toInt ≤ 72 := ⟨by rw [qx28]; exact Int.add_le_add qx26.2.1 ba2_l, by rw [qx28]; exact Int.add_le_add qx26.2.2 ba2_u⟩
        refine lv_aload_n hx hb dX0_goesLike_29 rfl (lv_at hl 1 rfl) ?_
        refine va_get (D := (dC, dI)) (ci := 0) (v := .int a0_0) (C := RX0) (T := TX0) (N := 15) hx hb hts zi_X0_goesLike_0 hown hK hP 0 rfl rfl 0 (by decide) (hts (.fieldLink RX0 31 "WaxTurns$Hall" "figures" "I") (List.mem_cons_of_mem _ (List.mem_append_left _ (List.mem_of_getElem? (i := 1) rfl)))) (fun _ h9 => h9) rfl dX0_goesLike_30 ?_
        refine lv_irem hx hb dX0_goesLike_33 (ai_nz l14f_a0_0 (by decide)) ?_
        refine lv_topi (fun x33 ex33 => ?_)
        have qx33 := ai_rem2 ex33 bx28.1 (Int.lt_of_lt_of_le zq19 l14f_a0_0) ba0_0_u
        refine lv_iload hx hb dX0_goesLike_34 (lv_at hl 0 rfl) ?_
        refine lv_icmp_eq (tgt := 41) hx hb dX0_goesLike_36 (by decide) (fun c36 => ?_) (fun c36 => ?_)
        · have gc36 := ai_eq c36
          have u36t_x33 : x33.toInt ≤ (8 : Int) := qx33.2.2
          have l36t_x33 : (0 : Int) ≤ x33.toInt := qx33.2.1
          have u36t_r19 : r19.toInt ≤ (8 : Int) := h19_1
          have l36t_r19 : (0 : Int) ≤ r19.toInt := h19_0
          refine lv_iload hx hb dX0_goesLike_41 (lv_at hl 0 rfl) ?_
          refine lv_istore_n (lv' := [(3, .int r19), (5, .int r19), (0, .ref a0), (1, .int a1), (2, .int a2), (4, .int j8l4)]) hx hb dX0_goesLike_43 rfl hl (by decide) rfl (fun ls hl => ?_)
          obtain ⟨x44, ex44⟩ : ∃ y : Int32, y = j8l4 + Int32.ofInt 1 := ⟨_, rfl⟩
          have qx44 : x44.toInt = j8l4.toInt + 1 := ai_inc ex44 (by decide) (by decide) u14f_j8l4 (by decide)
          have bx44 : (1 : Int) ≤ x44.toInt ∧ x44.toInt ≤ 9 := ⟨by rw [qx44]; exact Int.add_le_add bj8l4_l (Int.le_refl _), by rw [qx44]; exact Int.add_le_add u14f_j8l4 (Int.le_refl _)⟩
          refine lv_iinc (v := x44) (lv' := [(4, .int x44), (3, .int r19), (5, .int r19), (0, .ref a0), (1, .int a1), (2, .int a2)]) hx hb dX0_goesLike_44 hl (k := 5) rfl ex44.symm (by decide) rfl (fun ls hl => ?_)
          refine lv_goto (tgt := 8) hx hb dX0_goesLike_47 (by decide) ?_
          exact (hK0 _ _ _).mp (ih8 x44 r19 _ _ _ (by have h0 := qx44; omega) (Int.le_trans zq4 bx44.1) bx44.2 l36t_r19 u36t_r19 hP hD hS (lv_sub hl [3, 4, 5, 1, 0] rfl))
        · have gc36 := ai_ne c36
          refine lv_iconst (v := 0) hx hb dX0_goesLike_39 zk_iconst_0 ?_
          exact W.zret (v := 0) hx hb hr rfl (fun t ht hW => ⟨⟨0, (), rfl, (Or.inr (⟨rfl, l14f_a0_0, ba0_0_u⟩)), by rw [ht]; exact hP, va_K.moved hW.alike hK, hD⟩, hS.F ht⟩) hS.2.2 dX0_goesLike_40
  exact (hK0 _ _ _).mp (J8 10 0 a0_7 _ _ _ (by have h1 : (0 : Int) ≤ (0 : Int32).toInt := zq5; have h2 : (0 : Int32).toInt ≤ (0 : Int) := zq6; omega) zq5 (Int.le_trans zq6 zq7) ba0_7_l ba0_7_u hP hD hS (lv_sub hl [2, 3, 4, 1, 0] rfl))

set_option maxHeartbeats 4000000 in
set_option maxRecDepth 100000 in
theorem c_X0_stepsIn (l : Launch) (dC : Nat → ClassId) (dI : Nat → Nat → Nat) (sz : Nat) (a0 : Nat) (a1 : Int32) (a2 : Int32) (a0g_0 a0g_1 a0g_2 a0g_3 a0g_4 a0g_5 a0g_6 a0g_7 a0g_8 a0g_9 a0g_12 a0g_13 a0g_14 : Value) (a0_10 : Nat) (a0_11 : Nat) (ka0_10 : ClassId) (fa0_10 : Nat → Int32) (ka0_11 : ClassId) (fa0_11 : Nat → Int32)  : Met l yX0_stepsIn wsX0_stepsIn ({ frames := 1, cells := 0, slots := 0, locals := 22 }) (va_Pc [.ref a0, .int a1, .int a2] (ax_C dC dI sz [(a0, .inr (0, [a0g_0, a0g_1, a0g_2, a0g_3, a0g_4, a0g_5, a0g_6, a0g_7, a0g_8, a0g_9, .ref a0_10, .ref a0_11, a0g_12, a0g_13, a0g_14])), (a0_10, .inl (ka0_10, 9, .inl (fa0_10))), (a0_11, .inl (ka0_11, 9, .inl (fa0_11)))] [(ka0_10, .int), (ka0_11, .int)] (fun U => va_Nw (.methodLinkNest RX0 118 yX7_within RX7) U))) (va_Qi (fun (r : Int32) (_ : Unit) => (r = 1 ∧ (0 : Int) ≤ a1.toInt ∧ a1.toInt ≤ (8 : Int)) ∨ (r = 0)) (fun (_ : Unit) (t : State) => ax_B dC dI (va_A [(a0, .inr (0, [a0g_0, a0g_1, a0g_2, a0g_3, a0g_4, a0g_5, a0g_6, a0g_7, a0g_8, a0g_9, .ref a0_10, .ref a0_11, a0g_12, a0g_13, a0g_14])), (a0_10, .inl (ka0_10, 9, .inl (fa0_10))), (a0_11, .inl (ka0_11, 9, .inl (fa0_11)))] sz) [(a0, .inr (0, [a0g_0, a0g_1, a0g_2, a0g_3, a0g_4, a0g_5, a0g_6, a0g_7, a0g_8, a0g_9, .ref a0_10, .ref a0_11, a0g_12, a0g_13, a0g_14])), (a0_10, .inl (ka0_10, 9, .inl (fa0_10))), (a0_11, .inl (ka0_11, 9, .inl (fa0_11)))] [(ka0_10, .int), (ka0_11, .int)] t) (va_A [(a0, .inr (0, [a0g_0, a0g_1, a0g_2, a0g_3, a0g_4, a0g_5, a0g_6, a0g_7, a0g_8, a0g_9, .ref a0_10, .ref a0_11, a0g_12, a0g_13, a0g_14])), (a0_10, .inl (ka0_10, 9, .inl (fa0_10))), (a0_11, .inl (ka0_11, 9, .inl (fa0_11)))] sz)) 0 0 (va_A [(a0, .inr (0, [a0g_0, a0g_1, a0g_2, a0g_3, a0g_4, a0g_5, a0g_6, a0g_7, a0g_8, a0g_9, .ref a0_10, .ref a0_11, a0g_12, a0g_13, a0g_14])), (a0_10, .inl (ka0_10, 9, .inl (fa0_10))), (a0_11, .inl (ka0_11, 9, .inl (fa0_11)))] sz) := by
  refine Met.ofW (cc := cX0_stepsIn) (maxL := 4) (ret := (some .boolean)) (by decide) rfl ?_
  intro p e s m args below meth c s₁ B hml hv
  obtain ⟨rfl, hsz, hP, hK, hD0, hE⟩ := hv
  have hx := B.exec
  have hb := B.bytes
  have hr := B.returns
  have hts := atoms_spec (ws := wsX0_stepsIn) B.pre
  have hown : s.vm.findClass RX0 = some m.cls := findClass_of_methodNamed B.named
  have hlocks := B.notSynchronized
  subst hsz
  have hD := hD0.self (sz := s.heap.size)
  generalize hAe : va_A [(a0, .inr (0, [a0g_0, a0g_1, a0g_2, a0g_3, a0g_4, a0g_5, a0g_6, a0g_7, a0g_8, a0g_9, .ref a0_10, .ref a0_11, a0g_12, a0g_13, a0g_14])), (a0_10, .inl (ka0_10, 9, .inl (fa0_10))), (a0_11, .inl (ka0_11, 9, .inl (fa0_11)))] s.heap.size = A at hD ⊢
  have hA : ∀ q : Nat, s.heap.size ≤ q → A q := fun q h => by rw [← hAe]; exact Or.inr h
  have hS : va_S A s.heap s.heap [] := va_S.rf
  have hP : va_P (dC, dI) vwCl [(a0, .inr (0, [a0g_0, a0g_1, a0g_2, a0g_3, a0g_4, a0g_5, a0g_6, a0g_7, a0g_8, a0g_9, .ref a0_10, .ref a0_11, a0g_12, a0g_13, a0g_14])), (a0_10, .inl (ka0_10, 9, .inl (fa0_10))), (a0_11, .inl (ka0_11, 9, .inl (fa0_11)))] s.heap := hP
  have hE0 := hE
  have hl := lv_entry ([.ref a0, .int a1, .int a2]) (n := 4) (Nat.le_of_ble_eq_true rfl)
  rw [lg_entry_eq]
  generalize (lg_sl ([.ref a0, .int a1, .int a2]) ++ List.replicate (4 - (lg_sl ([.ref a0, .int a1, .int a2])).length) Slot.unset).toArray = ls at hl ⊢
  have hl : lv_has ls 4 [(0, .ref a0), (1, .int a1), (2, .int a2)] := hl
  refine lv_iload_n hx hb dX0_stepsIn_0 rfl (lv_at hl 1 rfl) ?_
  refine lv_iconst (v := 0) hx hb dX0_stepsIn_1 zk_iconst_0 ?_
  refine lv_bipush (v := 8) hx hb dX0_stepsIn_2 zk_bipush_8 ?_
  obtain ⟨hPc, hDc, hFc, hCc⟩ := zc_cut (wc := []) hP hD hS hA [] (by decide +kernel) rfl
  have hKc := hK.sub (tys' := []) [] rfl
  refine va_calli (va_runSN (As := [.int a1, .int 0, .int 8]) (rest := []) ⟨hx, hb, hml, hown, hts⟩ (c_X7_within l dC dI s.heap.size a1 0 8 ) ⟨va_cnB 3 hts gX0_stepsIn_X7_within_n118 rfl rfl rfl hE0 (hts (.initialized RX7) (List.mem_cons_of_mem _ (List.mem_append_left _ (List.mem_of_getElem? (i := 3) rfl)))) zd_X7_within.2 ⟨Nat.le_of_ble_eq_true rfl, Nat.le_of_ble_eq_true rfl⟩, (hts (.static yX7_within) (List.mem_cons_of_mem _ (List.mem_append_left _ (List.mem_of_getElem? (i := 2) rfl)))), trivial⟩ ⟨ax_blind (fun _ _ _ _ _ => trivial), ax_pre hPc hKc hDc (fun _ _ => trivial)⟩ rfl rfl hl.1 rfl (lv_room (Nat.le_of_ble_eq_true rfl)) dX0_stepsIn_4 ⟨Nat.le_of_ble_eq_true rfl, Nat.le_of_ble_eq_true rfl⟩) hS (fun q _ h => hFc q h) hFc (fun r4 u t H locs ht hvm hw hB hz1 hk1 hS => ?_)
  obtain ⟨hP1, hK1, hD1⟩ := hB
  rw [ht] at hP1
  obtain ⟨hP, hD⟩ := zc_back (w := [(a0, .inr (0, [a0g_0, a0g_1, a0g_2, a0g_3, a0g_4, a0g_5, a0g_6, a0g_7, a0g_8, a0g_9, .ref a0_10, .ref a0_11, a0g_12, a0g_13, a0g_14])), (a0_10, .inl (ka0_10, 9, .inl (fa0_10))), (a0_11, .inl (ka0_11, 9, .inl (fa0_11)))]) hP hD hCc hk1 hFc hP1 hD1 [.inl 0, .inl 1, .inl 2] (by decide +kernel) rfl
  rcases hw with hw | hw
  · obtain ⟨hw, h4⟩ := hw
    subst hw
    have l4k0_a1 : (0 : Int) ≤ a1.toInt := Int.le_trans zq5 h4.1
    have u4k0_a1 : a1.toInt ≤ (8 : Int) := Int.le_trans h4.2 zq28
    refine lv_if_eq (tgt := 20) hx hb dX0_stepsIn_7 (by decide) (fun c7 => absurd c7 (by decide +kernel)) (fun _ => ?_)
    refine lv_aload_n hx hb dX0_stepsIn_10 rfl (lv_at hl 0 rfl) ?_
    refine va_get (D := (dC, dI)) (ci := 0) (v := .ref a0_10) (C := RX0) (T := TX0) (N := 15) hx hb hts zi_X0_stepsIn_0 hown hK hP 0 rfl rfl 10 (by decide) (hts (.fieldLink RX0 9 "WaxTurns$Hall" "kinds" "[I") (List.mem_cons_of_mem _ (List.mem_append_left _ (List.mem_of_getElem? (i := 0) rfl)))) (fun _ h9 => h9) rfl dX0_stepsIn_11 ?_
    refine lv_iload_n hx hb dX0_stepsIn_14 rfl (lv_at hl 1 rfl) ?_
    refine va_iald hx hb hK hP 1 0 rfl rfl (ai_in l4k0_a1 u4k0_a1 (by decide) (by decide)) dX0_stepsIn_15 ?_
    refine lv_topi (fun x15 ex15 => ?_)
    refine lv_iconst (v := 1) hx hb dX0_stepsIn_16 zk_iconst_1 ?_
    refine lv_icmp_eq (tgt := 22) hx hb dX0_stepsIn_17 (by decide) (fun c17 => ?_) (fun c17 => ?_)
    · have gc17 := ai_eq c17
      have u17t_x15 : x15.toInt ≤ (1 : Int) := Int.le_trans (Int.le_of_eq gc17) zq0
      have l17t_x15 : (1 : Int) ≤ x15.toInt := Int.le_trans zq1 (Int.le_of_eq gc17.symm)
      refine lv_aload_n hx hb dX0_stepsIn_22 rfl (lv_at hl 0 rfl) ?_
      refine va_get (D := (dC, dI)) (ci := 0) (v := .ref a0_11) (C := RX0) (T := TX0) (N := 15) hx hb hts zi_X0_stepsIn_0 hown hK hP 0 rfl rfl 11 (by decide) (hts (.fieldLink RX0 15 "WaxTurns$Hall" "measures" "[I") (List.mem_cons_of_mem _ (List.mem_append_left _ (List.mem_of_getElem? (i := 1) rfl)))) (fun _ h9 => h9) rfl dX0_stepsIn_23 ?_
      refine lv_iload_n hx hb dX0_stepsIn_26 rfl (lv_at hl 1 rfl) ?_
      refine va_iald hx hb hK hP 2 1 rfl rfl (ai_in l4k0_a1 u4k0_a1 (by decide) (by decide)) dX0_stepsIn_27 ?_
      refine lv_topi (fun x27 ex27 => ?_)
      refine lv_istore_n (lv' := [(3, .int x27), (0, .ref a0), (1, .int a1), (2, .int a2)]) hx hb dX0_stepsIn_28 rfl hl (by decide) rfl (fun ls hl => ?_)
      refine lv_iload_n hx hb dX0_stepsIn_29 rfl (lv_at hl 0 rfl) ?_
      refine lv_if_le (tgt := 43) hx hb dX0_stepsIn_30 (by decide) (fun c30 => ?_) (fun c30 => ?_)
      · have gc30 := ai_le c30
        have u30t_x27 : x27.toInt ≤ (0 : Int) := Int.le_trans gc30 zq6
        refine lv_iconst (v := 0) hx hb dX0_stepsIn_43 zk_iconst_0 ?_
        exact W.zret (v := 0) hx hb hr rfl (fun t ht hW => ⟨⟨0, (), rfl, (Or.inr (rfl)), by rw [ht]; exact hP, va_K.moved hW.alike hK, hD⟩, hS.F ht⟩) hS.2.2 dX0_stepsIn_44
      · have gc30 := ai_nle c30
        have l30f_x27 : (1 : Int) ≤ x27.toInt := ai_ltlo gc30 zq5
        refine lv_iload_n hx hb dX0_stepsIn_33 rfl (lv_at hl 3 rfl) ?_
        refine lv_iload_n hx hb dX0_stepsIn_34 rfl (lv_at hl 0 rfl) ?_
        refine lv_irem hx hb dX0_stepsIn_35 (ai_nz l30f_x27 (by decide)) ?_
        refine lv_topi (fun x35 ex35 => ?_)
        refine lv_if_ne (tgt := 43) hx hb dX0_stepsIn_36 (by decide) (fun c36 => ?_) (fun c36 => ?_)
        · have gc36 := ai_ne c36
          refine lv_iconst (v := 0) hx hb dX0_stepsIn_43 zk_iconst_0 ?_
          exact W.zret (v := 0) hx hb hr rfl (fun t ht hW => ⟨⟨0, (), rfl, (Or.inr (rfl)), by rw [ht]; exact hP, va_K.moved hW.alike hK, hD⟩, hS.F ht⟩) hS.2.2 dX0_stepsIn_44
        · have gc36 := ai_eq c36
          have u36f_x35 : x35.toInt ≤ (0 : Int) := Int.le_trans (Int.le_of_eq gc36) zq6
          have l36f_x35 : (0 : Int) ≤ x35.toInt := Int.le_trans zq5 (Int.le_of_eq gc36.symm)
          refine lv_iconst (v := 1) hx hb dX0_stepsIn_39 zk_iconst_1 ?_
          refine lv_goto (tgt := 44) hx hb dX0_stepsIn_40 (by decide) ?_
          exact W.zret (v := 1) hx hb hr rfl (fun t ht hW => ⟨⟨1, (), rfl, (Or.inl ⟨rfl, l4k0_a1, u4k0_a1⟩), by rw [ht]; exact hP, va_K.moved hW.alike hK, hD⟩, hS.F ht⟩) hS.2.2 dX0_stepsIn_44
    · have gc17 := ai_ne c17
      refine lv_iconst (v := 0) hx hb dX0_stepsIn_20 zk_iconst_0 ?_
      exact W.zret (v := 0) hx hb hr rfl (fun t ht hW => ⟨⟨0, (), rfl, (Or.inr (rfl)), by rw [ht]; exact hP, va_K.moved hW.alike hK, hD⟩, hS.F ht⟩) hS.2.2 dX0_stepsIn_21
  · obtain ⟨hw, h4⟩ := hw
    subst hw
    refine lv_if_eq (tgt := 20) hx hb dX0_stepsIn_7 (by decide) (fun _ => ?_) (fun c7 => absurd (by decide +kernel) c7)
    refine lv_iconst (v := 0) hx hb dX0_stepsIn_20 zk_iconst_0 ?_
    exact W.zret (v := 0) hx hb hr rfl (fun t ht hW => ⟨⟨0, (), rfl, (Or.inr (rfl)), by rw [ht]; exact hP, va_K.moved hW.alike hK, hD⟩, hS.F ht⟩) hS.2.2 dX0_stepsIn_21

set_option maxHeartbeats 4000000 in
set_option maxRecDepth 100000 in
theorem c_X0_nearer (l : Launch) (dC : Nat → ClassId) (dI : Nat → Nat → Nat) (sz : Nat) (a0 : Nat) (a1 : Int32) (a0g_0 a0g_1 a0g_3 a0g_4 a0g_5 a0g_6 a0g_7 a0g_8 a0g_9 a0g_10 a0g_11 a0g_12 a0g_13 a0g_14 : Value) (a0_2 : Int32)  : Met l yX0_nearer wsX0_nearer ({ frames := 0, cells := 0, slots := 0, locals := 0 }) (va_Pc [.ref a0, .int a1] (ax_C dC dI sz [(a0, .inr (0, [a0g_0, a0g_1, .int a0_2, a0g_3, a0g_4, a0g_5, a0g_6, a0g_7, a0g_8, a0g_9, a0g_10, a0g_11, a0g_12, a0g_13, a0g_14]))] [] (fun _ => True))) (va_Qi (fun (r : Int32) (_ : Unit) => True) (fun (_ : Unit) (t : State) => ax_B dC dI (va_A [(a0, .inr (0, [a0g_0, a0g_1, .int a0_2, a0g_3, a0g_4, a0g_5, a0g_6, a0g_7, a0g_8, a0g_9, a0g_10, a0g_11, a0g_12, a0g_13, a0g_14]))] sz) [(a0, .inr (0, [a0g_0, a0g_1, .int a0_2, a0g_3, a0g_4, a0g_5, a0g_6, a0g_7, a0g_8, a0g_9, a0g_10, a0g_11, a0g_12, a0g_13, a0g_14]))] [] t) (va_A [(a0, .inr (0, [a0g_0, a0g_1, .int a0_2, a0g_3, a0g_4, a0g_5, a0g_6, a0g_7, a0g_8, a0g_9, a0g_10, a0g_11, a0g_12, a0g_13, a0g_14]))] sz)) 0 0 (va_A [(a0, .inr (0, [a0g_0, a0g_1, .int a0_2, a0g_3, a0g_4, a0g_5, a0g_6, a0g_7, a0g_8, a0g_9, a0g_10, a0g_11, a0g_12, a0g_13, a0g_14]))] sz) := by
  refine Met.ofW (cc := cX0_nearer) (maxL := 2) (ret := (some .int)) (by decide) rfl ?_
  intro p e s m args below meth c s₁ B hml hv
  obtain ⟨rfl, hsz, hP, hK, hD0, hE⟩ := hv
  have hx := B.exec
  have hb := B.bytes
  have hr := B.returns
  have hts := atoms_spec (ws := wsX0_nearer) B.pre
  have hown : s.vm.findClass RX0 = some m.cls := findClass_of_methodNamed B.named
  have hlocks := B.notSynchronized
  subst hsz
  have hD := hD0.self (sz := s.heap.size)
  generalize hAe : va_A [(a0, .inr (0, [a0g_0, a0g_1, .int a0_2, a0g_3, a0g_4, a0g_5, a0g_6, a0g_7, a0g_8, a0g_9, a0g_10, a0g_11, a0g_12, a0g_13, a0g_14]))] s.heap.size = A at hD ⊢
  have hA : ∀ q : Nat, s.heap.size ≤ q → A q := fun q h => by rw [← hAe]; exact Or.inr h
  have hS : va_S A s.heap s.heap [] := va_S.rf
  have hP : va_P (dC, dI) vwCl [(a0, .inr (0, [a0g_0, a0g_1, .int a0_2, a0g_3, a0g_4, a0g_5, a0g_6, a0g_7, a0g_8, a0g_9, a0g_10, a0g_11, a0g_12, a0g_13, a0g_14]))] s.heap := hP
  have hl := lv_entry ([.ref a0, .int a1]) (n := 2) (Nat.le_of_ble_eq_true rfl)
  rw [lg_entry_eq]
  generalize (lg_sl ([.ref a0, .int a1]) ++ List.replicate (2 - (lg_sl ([.ref a0, .int a1])).length) Slot.unset).toArray = ls at hl ⊢
  have hl : lv_has ls 2 [(0, .ref a0), (1, .int a1)] := hl
  refine lv_iload_n hx hb dX0_nearer_0 rfl (lv_at hl 1 rfl) ?_
  refine lv_aload_n hx hb dX0_nearer_1 rfl (lv_at hl 0 rfl) ?_
  refine va_get (D := (dC, dI)) (ci := 0) (v := .int a0_2) (C := RX0) (T := TX0) (N := 15) hx hb hts zi_X0_nearer_0 hown hK hP 0 rfl rfl 2 (by decide) (hts (.fieldLink RX0 51 "WaxTurns$Hall" "stairsPlace" "I") (List.mem_cons_of_mem _ (List.mem_append_left _ (List.mem_of_getElem? (i := 0) rfl)))) (fun _ h9 => h9) rfl dX0_nearer_2 ?_
  refine lv_icmp_ne (tgt := 10) hx hb dX0_nearer_5 (by decide) (fun c5 => ?_) (fun c5 => ?_)
  · have gc5 := ai_ne c5
    refine lv_iload_n hx hb dX0_nearer_10 rfl (lv_at hl 1 rfl) ?_
    refine lv_aload_n hx hb dX0_nearer_11 rfl (lv_at hl 0 rfl) ?_
    refine va_get (D := (dC, dI)) (ci := 0) (v := .int a0_2) (C := RX0) (T := TX0) (N := 15) hx hb hts zi_X0_nearer_0 hown hK hP 0 rfl rfl 2 (by decide) (hts (.fieldLink RX0 51 "WaxTurns$Hall" "stairsPlace" "I") (List.mem_cons_of_mem _ (List.mem_append_left _ (List.mem_of_getElem? (i := 0) rfl)))) (fun _ h9 => h9) rfl dX0_nearer_12 ?_
    refine lv_icmp_ge (tgt := 24) hx hb dX0_nearer_15 (by decide) (fun c15 => ?_) (fun c15 => ?_)
    · have gc15 := ai_le c15
      refine lv_iload_n hx hb dX0_nearer_24 rfl (lv_at hl 1 rfl) ?_
      refine lv_iconst (v := 1) hx hb dX0_nearer_25 zk_iconst_1 ?_
      refine lv_isub hx hb dX0_nearer_26 ?_
      refine lv_topi (fun x26 ex26 => ?_)
      exact W.iret (v := x26) hx hb hr (fun t ht hW => ⟨⟨x26, (), rfl, trivial, by rw [ht]; exact hP, va_K.moved hW.alike hK, hD⟩, hS.F ht⟩) hS.2.2 dX0_nearer_27
    · have gc15 := ai_nle c15
      have u15f_a1 : a1.toInt ≤ (2147483646 : Int) := ai_lthi gc15 (ai_max a0_2)
      have l15f_a0_2 : (-2147483647 : Int) ≤ a0_2.toInt := ai_ltlo gc15 (ai_min a1)
      refine lv_iload_n hx hb dX0_nearer_18 rfl (lv_at hl 1 rfl) ?_
      refine lv_iconst (v := 1) hx hb dX0_nearer_19 zk_iconst_1 ?_
      refine lv_iadd hx hb dX0_nearer_20 ?_
      refine lv_topi (fun x20 ex20 => ?_)
      have qx20 : x20.toInt = a1.toInt + (1 : Int32).toInt := ai_add ex20 ⟨(ai_min a1), u15f_a1⟩ ⟨zq1, zq0⟩ (by decide) (by decide)
      have bx20 : (-2147483647 : Int) ≤ x20.toInt ∧ x20.toInt ≤ 2147483647 := ⟨by rw [qx20]; exact Int.add_le_add (ai_min a1) zq1, by rw [qx20]; exact Int.add_le_add u15f_a1 zq0⟩
      have wx20 : x20.toInt = a1.toInt + 1 := qx20
      refine lv_goto (tgt := 27) hx hb dX0_nearer_21 (by decide) ?_
      exact W.iret (v := x20) hx hb hr (fun t ht hW => ⟨⟨x20, (), rfl, trivial, by rw [ht]; exact hP, va_K.moved hW.alike hK, hD⟩, hS.F ht⟩) hS.2.2 dX0_nearer_27
  · have gc5 := ai_eq c5
    refine lv_iload_n hx hb dX0_nearer_8 rfl (lv_at hl 1 rfl) ?_
    exact W.iret (v := a1) hx hb hr (fun t ht hW => ⟨⟨a1, (), rfl, trivial, by rw [ht]; exact hP, va_K.moved hW.alike hK, hD⟩, hS.F ht⟩) hS.2.2 dX0_nearer_9

set_option maxHeartbeats 4000000 in
set_option maxRecDepth 100000 in
theorem c_X0_step (l : Launch) (dC : Nat → ClassId) (dI : Nat → Nat → Nat) (sz : Nat) (a0 : Nat) (a1 : Nat) (a2 : Int32) (a3 : Nat) (a0g_0 a0g_1 a0g_3 a0g_4 a0g_5 a0g_6 a0g_7 a0g_8 a0g_9 a0g_10 a0g_11 a0g_12 a0g_13 a0g_14 : Value) (a0_2 : Int32) (a1_0 : Int32) (a1g_1 a1g_2 a1g_6 : Value) (a1_3 : Int32) (a1_4 : Int32) (a1_5 : Nat) (ka1_5 : ClassId) (fa1_5 : Nat → Int32) (a3_0 : Int32) (a3_1 : Int32) (a3_2 : Nat) (a3_3 : Nat) (ka3_3 : ClassId) (fa3_3 : Nat → Int32) (ka3_2 : ClassId) (fa3_2 : Nat → Int32) (ba2_l : (0 : Int) ≤ a2.toInt) (ba2_u : a2.toInt ≤ (8 : Int)) (ba3_0_l : (0 : Int) ≤ a3_0.toInt) (ba3_0_u : a3_0.toInt ≤ (3 : Int)) (bfa3_3 : (∀ k, (0 : Int) ≤ (fa3_3 k).toInt ∧ (fa3_3 k).toInt ≤ 80)) (bfa3_2 : (∀ k, (0 : Int) ≤ (fa3_2 k).toInt ∧ (fa3_2 k).toInt ≤ 80)) : Met l yX0_step wsX0_step ({ frames := 2, cells := 0, slots := 0, locals := 49 }) (va_Pc [.ref a0, .ref a1, .int a2, .ref a3] (ax_C dC dI sz [(a0, .inr (0, [a0g_0, a0g_1, .int a0_2, a0g_3, a0g_4, a0g_5, a0g_6, a0g_7, a0g_8, a0g_9, a0g_10, a0g_11, a0g_12, a0g_13, a0g_14])), (a1, .inr (5, [.int a1_0, a1g_1, a1g_2, .int a1_3, .int a1_4, .ref a1_5, a1g_6])), (a1_5, .inl (ka1_5, 9, .inl (fa1_5))), (a3, .inr (6, [.int a3_0, .int a3_1, .ref a3_2, .ref a3_3])), (a3_3, .inl (ka3_3, 3, .inl (fa3_3))), (a3_2, .inl (ka3_2, 3, .inl (fa3_2)))] [(ka1_5, .int), (ka3_3, .int), (ka3_2, .int)] (fun U => va_Nw (.methodLinkNest RX5 38 yX7_hasBit RX7) U ∧ va_Nw (.methodLinkNest RX0 129 yX7_hasBit RX7) U))) (va_Qv (fun (_ : Unit) => True) (fun (_ : Unit) (t : State) => ∃ na1_3 : Int32, ∃ na1_4 : Int32, ∃ nfa1_5 : Nat → Int32, ax_B dC dI (va_A [(a0, .inr (0, [a0g_0, a0g_1, .int a0_2, a0g_3, a0g_4, a0g_5, a0g_6, a0g_7, a0g_8, a0g_9, a0g_10, a0g_11, a0g_12, a0g_13, a0g_14])), (a1, .inr (5, [.int a1_0, a1g_1, a1g_2, .int a1_3, .int a1_4, .ref a1_5, a1g_6])), (a1_5, .inl (ka1_5, 9, .inl (fa1_5))), (a3, .inr (6, [.int a3_0, .int a3_1, .ref a3_2, .ref a3_3])), (a3_3, .inl (ka3_3, 3, .inl (fa3_3))), (a3_2, .inl (ka3_2, 3, .inl (fa3_2)))] sz) [(a0, .inr (0, [a0g_0, a0g_1, .int a0_2, a0g_3, a0g_4, a0g_5, a0g_6, a0g_7, a0g_8, a0g_9, a0g_10, a0g_11, a0g_12, a0g_13, a0g_14])), (a1, .inr (5, [.int a1_0, a1g_1, a1g_2, .int na1_3, .int na1_4, .ref a1_5, a1g_6])), (a1_5, .inl (ka1_5, 9, .inl (nfa1_5))), (a3, .inr (6, [.int a3_0, .int a3_1, .ref a3_2, .ref a3_3])), (a3_3, .inl (ka3_3, 3, .inl (fa3_3))), (a3_2, .inl (ka3_2, 3, .inl (fa3_2)))] [(ka1_5, .int), (ka3_3, .int), (ka3_2, .int)] t) (va_A [(a0, .inr (0, [a0g_0, a0g_1, .int a0_2, a0g_3, a0g_4, a0g_5, a0g_6, a0g_7, a0g_8, a0g_9, a0g_10, a0g_11, a0g_12, a0g_13, a0g_14])), (a1, .inr (5, [.int a1_0, a1g_1, a1g_2, .int a1_3, .int a1_4, .ref a1_5, a1g_6])), (a1_5, .inl (ka1_5, 9, .inl (fa1_5))), (a3, .inr (6, [.int a3_0, .int a3_1, .ref a3_2, .ref a3_3])), (a3_3, .inl (ka3_3, 3, .inl (fa3_3))), (a3_2, .inl (ka3_2, 3, .inl (fa3_2)))] sz)) 0 0 (va_A [(a0, .inr (0, [a0g_0, a0g_1, .int a0_2, a0g_3, a0g_4, a0g_5, a0g_6, a0g_7, a0g_8, a0g_9, a0g_10, a0g_11, a0g_12, a0g_13, a0g_14])), (a1, .inr (5, [.int a1_0, a1g_1, a1g_2, .int a1_3, .int a1_4, .ref a1_5, a1g_6])), (a1_5, .inl (ka1_5, 9, .inl (fa1_5))), (a3, .inr (6, [.int a3_0, .int a3_1, .ref a3_2, .ref a3_3])), (a3_3, .inl (ka3_3, 3, .inl (fa3_3))), (a3_2, .inl (ka3_2, 3, .inl (fa3_2)))] sz) := by
  refine Met.ofW (cc := cX0_step) (maxL := 5) (ret := none) (by decide) rfl ?_
  intro p e s m args below meth c s₁ B hml hv
  obtain ⟨rfl, hsz, hP, hK, hD0, hE⟩ := hv
  have hx := B.exec
  have hb := B.bytes
  have hr := B.returns
  have hts := atoms_spec (ws := wsX0_step) B.pre
  have hown : s.vm.findClass RX0 = some m.cls := findClass_of_methodNamed B.named
  have hlocks := B.notSynchronized
  subst hsz
  have hD := hD0.self (sz := s.heap.size)
  generalize hAe : va_A [(a0, .inr (0, [a0g_0, a0g_1, .int a0_2, a0g_3, a0g_4, a0g_5, a0g_6, a0g_7, a0g_8, a0g_9, a0g_10, a0g_11, a0g_12, a0g_13, a0g_14])), (a1, .inr (5, [.int a1_0, a1g_1, a1g_2, .int a1_3, .int a1_4, .ref a1_5, a1g_6])), (a1_5, .inl (ka1_5, 9, .inl (fa1_5))), (a3, .inr (6, [.int a3_0, .int a3_1, .ref a3_2, .ref a3_3])), (a3_3, .inl (ka3_3, 3, .inl (fa3_3))), (a3_2, .inl (ka3_2, 3, .inl (fa3_2)))] s.heap.size = A at hD ⊢
  have hA : ∀ q : Nat, s.heap.size ≤ q → A q := fun q h => by rw [← hAe]; exact Or.inr h
  have hS : va_S A s.heap s.heap [] := va_S.rf
  have hP : va_P (dC, dI) vwCl [(a0, .inr (0, [a0g_0, a0g_1, .int a0_2, a0g_3, a0g_4, a0g_5, a0g_6, a0g_7, a0g_8, a0g_9, a0g_10, a0g_11, a0g_12, a0g_13, a0g_14])), (a1, .inr (5, [.int a1_0, a1g_1, a1g_2, .int a1_3, .int a1_4, .ref a1_5, a1g_6])), (a1_5, .inl (ka1_5, 9, .inl (fa1_5))), (a3, .inr (6, [.int a3_0, .int a3_1, .ref a3_2, .ref a3_3])), (a3_3, .inl (ka3_3, 3, .inl (fa3_3))), (a3_2, .inl (ka3_2, 3, .inl (fa3_2)))] s.heap := hP
  obtain ⟨hE0, hE1⟩ := hE
  have hl := lv_entry ([.ref a0, .ref a1, .int a2, .ref a3]) (n := 5) (Nat.le_of_ble_eq_true rfl)
  rw [lg_entry_eq]
  generalize (lg_sl ([.ref a0, .ref a1, .int a2, .ref a3]) ++ List.replicate (5 - (lg_sl ([.ref a0, .ref a1, .int a2, .ref a3])).length) Slot.unset).toArray = ls at hl ⊢
  have hl : lv_has ls 5 [(0, .ref a0), (1, .ref a1), (2, .int a2), (3, .ref a3)] := hl
  refine lv_aload_n hx hb dX0_step_0 rfl (lv_at hl 1 rfl) ?_
  refine lv_iload_n hx hb dX0_step_1 rfl (lv_at hl 2 rfl) ?_
  obtain ⟨hPc, hDc, hFc, hCc⟩ := zc_cut (wc := [(a1, .inr (5, [.int a1_0, a1g_1, a1g_2, .int a1_3, .int a1_4, .ref a1_5, a1g_6]))]) hP hD hS hA [1] (by decide +kernel) rfl
  have hKc := hK.sub (tys' := []) [] rfl
  refine va_calli (va_runV (As := [.int a2]) (rest := []) ⟨hx, hb, hml, hown, hts⟩ (c_X5_isGone l dC dI s.heap.size a1 a2 (.int a1_0) a1g_1 a1g_2 (.int a1_4) (.ref a1_5) a1g_6 a1_3 ) (cwV 1 hts gX0_step_X5_isGone rfl rfl rfl zd_X5_isGone ⟨Nat.le_of_ble_eq_true rfl, Nat.le_of_ble_eq_true rfl⟩) ⟨ax_blind (fun _ _ _ _ hq => va_Nw.same rfl rfl (hq)), zr_5 hKc hPc (q0 := 0) rfl, ax_pre hPc hKc hDc (fun _ hW => va_Nw.warmM hW hE0)⟩ rfl rfl hl.1 rfl (lv_room (Nat.le_of_ble_eq_true rfl)) dX0_step_2 ⟨Nat.le_of_ble_eq_true rfl, Nat.le_of_ble_eq_true rfl⟩) hS (fun q _ h => hFc q h) hFc (fun r2 u t H locs ht hvm hw hB hz1 hk1 hS => ?_)
  obtain ⟨hP1, hK1, hD1⟩ := hB
  rw [ht] at hP1
  obtain ⟨hP, hD⟩ := zc_back (w := [(a0, .inr (0, [a0g_0, a0g_1, .int a0_2, a0g_3, a0g_4, a0g_5, a0g_6, a0g_7, a0g_8, a0g_9, a0g_10, a0g_11, a0g_12, a0g_13, a0g_14])), (a1, .inr (5, [.int a1_0, a1g_1, a1g_2, .int a1_3, .int a1_4, .ref a1_5, a1g_6])), (a1_5, .inl (ka1_5, 9, .inl (fa1_5))), (a3, .inr (6, [.int a3_0, .int a3_1, .ref a3_2, .ref a3_3])), (a3_3, .inl (ka3_3, 3, .inl (fa3_3))), (a3_2, .inl (ka3_2, 3, .inl (fa3_2)))]) hP hD hCc hk1 hFc hP1 hD1 [.inl 0, .inr 0, .inl 2, .inl 3, .inl 4, .inl 5] (by decide +kernel) rfl
  rcases hw with hw | hw
  · subst hw
    refine lv_if_eq (tgt := 9) hx hb dX0_step_5 (by decide) (fun c5 => absurd c5 (by decide +kernel)) (fun _ => ?_)
    exact W.vret hx hb hr (fun t ht hW => ⟨⟨(), rfl, trivial, a1_3, a1_4, fa1_5, by rw [ht]; exact hP, va_K.moved hW.alike hK, hD⟩, hS.F ht⟩) hS.2.2 dX0_step_8
  · subst hw
    refine lv_if_eq (tgt := 9) hx hb dX0_step_5 (by decide) (fun _ => ?_) (fun c5 => absurd (by decide +kernel) c5)
    refine lv_aload_n hx hb dX0_step_9 rfl (lv_at hl 0 rfl) ?_
    refine lv_aload_n hx hb dX0_step_10 rfl (lv_at hl 1 rfl) ?_
    refine va_get (D := (dC, dI)) (ci := 5) (v := .ref a1_5) (C := RX5) (T := TX5) (N := 7) hx hb hts zi_X0_step_5 hown hK hP 1 rfl rfl 5 (by decide) (hts (.fieldLink RX0 99 "WaxTurns$Scene" "places" "[I") (zm_X0_step_r1 (List.mem_of_getElem? (i := 0) rfl))) (fun _ h9 => h9) rfl dX0_step_11 ?_
    refine lv_iload_n hx hb dX0_step_14 rfl (lv_at hl 2 rfl) ?_
    refine va_iald hx hb hK hP 2 0 rfl rfl (ai_in ba2_l ba2_u (by decide) (by decide)) dX0_step_15 ?_
    refine lv_topi (fun x15 ex15 => ?_)
    obtain ⟨hPc, hDc, hFc, hCc⟩ := zc_cut (wc := [(a0, .inr (0, [a0g_0, a0g_1, .int a0_2, a0g_3, a0g_4, a0g_5, a0g_6, a0g_7, a0g_8, a0g_9, a0g_10, a0g_11, a0g_12, a0g_13, a0g_14]))]) hP hD hS hA [0] (by decide +kernel) rfl
    have hKc := hK.sub (tys' := []) [] rfl
    refine va_calli (va_runV (As := [.int x15]) (rest := []) ⟨hx, hb, hml, hown, hts⟩ (c_X0_nearer l dC dI H.size a0 x15 a0g_0 a0g_1 a0g_3 a0g_4 a0g_5 a0g_6 a0g_7 a0g_8 a0g_9 a0g_10 a0g_11 a0g_12 a0g_13 a0g_14 a0_2 ) (cwV 1 hts gX0_step_X0_nearer rfl rfl rfl zd_X0_nearer ⟨Nat.le_of_ble_eq_true rfl, Nat.le_of_ble_eq_true rfl⟩) ⟨ax_blind (fun _ _ _ _ _ => trivial), zr_0 hKc hPc (q0 := 0) rfl, ax_pre hPc hKc hDc (fun _ _ => trivial)⟩ rfl rfl hl.1 rfl (lv_room (Nat.le_of_ble_eq_true rfl)) dX0_step_16 ⟨Nat.le_of_ble_eq_true rfl, Nat.le_of_ble_eq_true rfl⟩) hS (fun q _ h => hFc q h) hFc (fun r16 u t H locs ht hvm hw hB hz1 hk1 hS => ?_)
    obtain ⟨hP1, hK1, hD1⟩ := hB
    rw [ht] at hP1
    obtain ⟨hP, hD⟩ := zc_back (w := [(a0, .inr (0, [a0g_0, a0g_1, .int a0_2, a0g_3, a0g_4, a0g_5, a0g_6, a0g_7, a0g_8, a0g_9, a0g_10, a0g_11, a0g_12, a0g_13, a0g_14])), (a1, .inr (5, [.int a1_0, a1g_1, a1g_2, .int a1_3, .int a1_4, .ref a1_5, a1g_6])), (a1_5, .inl (ka1_5, 9, .inl (fa1_5))), (a3, .inr (6, [.int a3_0, .int a3_1, .ref a3_2, .ref a3_3])), (a3_3, .inl (ka3_3, 3, .inl (fa3_3))), (a3_2, .inl (ka3_2, 3, .inl (fa3_2)))]) hP hD hCc hk1 hFc hP1 hD1 [.inr 0, .inl 1, .inl 2, .inl 3, .inl 4, .inl 5] (by decide +kernel) rfl
    refine lv_istore (lv' := [(4, .int r16), (0, .ref a0), (1, .ref a1), (2, .int a2), (3, .ref a3)]) hx hb dX0_step_19 hl (by decide) rfl (fun ls hl => ?_)
    refine lv_aload_n hx hb dX0_step_21 rfl (lv_at hl 4 rfl) ?_
    refine lv_aload_n hx hb dX0_step_22 rfl (lv_at hl 2 rfl) ?_
    refine va_get (D := (dC, dI)) (ci := 5) (v := .int a1_0) (C := RX5) (T := TX5) (N := 7) hx hb hts zi_X0_step_5 hown hK hP 1 rfl rfl 0 (by decide) (hts (.fieldLink RX0 102 "WaxTurns$Scene" "minute" "I") (zm_X0_step_r1 (List.mem_of_getElem? (i := 1) rfl))) (fun _ h9 => h9) rfl dX0_step_23 ?_
    obtain ⟨hPc, hDc, hFc, hCc⟩ := zc_cut (wc := [(a3, .inr (6, [.int a3_0, .int a3_1, .ref a3_2, .ref a3_3])), (a3_3, .inl (ka3_3, 3, .inl (fa3_3))), (a3_2, .inl (ka3_2, 3, .inl (fa3_2)))]) hP hD hS hA [3, 4, 5] (by decide +kernel) rfl
    have hKc := hK.sub (tys' := [(ka3_3, .int), (ka3_2, .int)]) [1, 2] rfl
    refine va_calli (va_runV (As := [.int a1_0]) (rest := []) ⟨hx, hb, hml, hown, hts⟩ (c_X6_placesIn l dC dI H.size a3 a1_0 a3_0 a3_1 a3_2 a3_3 ka3_3 fa3_3 ka3_2 fa3_2 ba3_0_l ba3_0_u bfa3_3 bfa3_2) (cwV 1 hts gX0_step_X6_placesIn rfl rfl rfl zd_X6_placesIn ⟨Nat.le_of_ble_eq_true rfl, Nat.le_of_ble_eq_true rfl⟩) ⟨ax_blind (fun _ _ _ _ _ => trivial), zr_6 hKc hPc (q0 := 0) rfl, ax_pre hPc hKc hDc (fun _ _ => trivial)⟩ rfl rfl hl.1 rfl (lv_room (Nat.le_of_ble_eq_true rfl)) dX0_step_26 ⟨Nat.le_of_ble_eq_true rfl, Nat.le_of_ble_eq_true rfl⟩) hS (fun q _ h => hFc q h) hFc (fun r26 u t H locs ht hvm hw hB hz1 hk1 hS => ?_)
    obtain ⟨hP1, hK1, hD1⟩ := hB
    rw [ht] at hP1
    obtain ⟨hP, hD⟩ := zc_back (w := [(a0, .inr (0, [a0g_0, a0g_1, .int a0_2, a0g_3, a0g_4, a0g_5, a0g_6, a0g_7, a0g_8, a0g_9, a0g_10, a0g_11, a0g_12, a0g_13, a0g_14])), (a1, .inr (5, [.int a1_0, a1g_1, a1g_2, .int a1_3, .int a1_4, .ref a1_5, a1g_6])), (a1_5, .inl (ka1_5, 9, .inl (fa1_5))), (a3, .inr (6, [.int a3_0, .int a3_1, .ref a3_2, .ref a3_3])), (a3_3, .inl (ka3_3, 3, .inl (fa3_3))), (a3_2, .inl (ka3_2, 3, .inl (fa3_2)))]) hP hD hCc hk1 hFc hP1 hD1 [.inl 0, .inl 1, .inl 2, .inr 0, .inr 1, .inr 2] (by decide +kernel) rfl
    refine lv_iload hx hb dX0_step_29 (lv_at hl 0 rfl) ?_
    obtain ⟨hPc, hDc, hFc, hCc⟩ := zc_cut (wc := []) hP hD hS hA [] (by decide +kernel) rfl
    have hKc := hK.sub (tys' := []) [] rfl
    refine va_calli (va_runSN (As := [.int r26, .int r16]) (rest := []) ⟨hx, hb, hml, hown, hts⟩ (c_X7_hasBit l dC dI H.size r26 r16 ) ⟨va_cnB 2 hts gX0_step_X7_hasBit_n129 rfl rfl rfl hE1 (hts (.initialized RX7) (zm_X0_step_r1 (List.mem_of_getElem? (i := 12) rfl))) zd_X7_hasBit.2 ⟨Nat.le_of_ble_eq_true rfl, Nat.le_of_ble_eq_true rfl⟩, (hts (.static yX7_hasBit) (zm_X0_step_r1 (List.mem_of_getElem? (i := 11) rfl))), trivial⟩ ⟨ax_blind (fun _ _ _ _ _ => trivial), ax_pre hPc hKc hDc (fun _ _ => trivial)⟩ rfl rfl hl.1 rfl (lv_room (Nat.le_of_ble_eq_true rfl)) dX0_step_31 ⟨Nat.le_of_ble_eq_true rfl, Nat.le_of_ble_eq_true rfl⟩) hS (fun q _ h => hFc q h) hFc (fun r31 u t H locs ht hvm hw hB hz1 hk1 hS => ?_)
    obtain ⟨hP1, hK1, hD1⟩ := hB
    rw [ht] at hP1
    obtain ⟨hP, hD⟩ := zc_back (w := [(a0, .inr (0, [a0g_0, a0g_1, .int a0_2, a0g_3, a0g_4, a0g_5, a0g_6, a0g_7, a0g_8, a0g_9, a0g_10, a0g_11, a0g_12, a0g_13, a0g_14])), (a1, .inr (5, [.int a1_0, a1g_1, a1g_2, .int a1_3, .int a1_4, .ref a1_5, a1g_6])), (a1_5, .inl (ka1_5, 9, .inl (fa1_5))), (a3, .inr (6, [.int a3_0, .int a3_1, .ref a3_2, .ref a3_3])), (a3_3, .inl (ka3_3, 3, .inl (fa3_3))), (a3_2, .inl (ka3_2, 3, .inl (fa3_2)))]) hP hD hCc hk1 hFc hP1 hD1 [.inl 0, .inl 1, .inl 2, .inl 3, .inl 4, .inl 5] (by decide +kernel) rfl
    rcases hw with hw | hw
    · subst hw
      refine lv_if_eq (tgt := 53) hx hb dX0_step_34 (by decide) (fun c34 => absurd c34 (by decide +kernel)) (fun _ => ?_)
      refine lv_aload_n hx hb dX0_step_37 rfl (lv_at hl 2 rfl) ?_
      refine lv_dup hx hb dX0_step_38 rfl ?_
      refine va_get (D := (dC, dI)) (ci := 5) (v := .int a1_4) (C := RX5) (T := TX5) (N := 7) hx hb hts zi_X0_step_5 hown hK hP 1 rfl rfl 4 (by decide) (hts (.fieldLink RX0 132 "WaxTurns$Scene" "catchCount" "I") (zm_X0_step_r1 (List.mem_of_getElem? (i := 2) rfl))) (fun _ h9 => h9) rfl dX0_step_39 ?_
      refine lv_iconst (v := 1) hx hb dX0_step_42 zk_iconst_1 ?_
      refine lv_iadd hx hb dX0_step_43 ?_
      refine lv_topi (fun x43 ex43 => ?_)
      refine va_put (D := (dC, dI)) (ci := 5) (v := .int x43) (ty := .int) (C := RX5) (T := TX5) (N := 7) hx hb hts zi_X0_step_5 tyX5 tyX5_ok nmX5 hown hK hP hD hS 1 rfl rfl 4 (by decide) (hts (.fieldLink RX0 132 "WaxTurns$Scene" "catchCount" "I") (zm_X0_step_r1 (List.mem_of_getElem? (i := 2) rfl))) (fun _ h9 => h9) rfl (tyX5_ok 4 (by decide)) rfl rfl (Nat.le_of_ble_eq_true rfl) dX0_step_44 (fun H locs hP hD hS => ?_)
      obtain ⟨hP, hD⟩ := zc_re (w := [(a0, .inr (0, [a0g_0, a0g_1, .int a0_2, a0g_3, a0g_4, a0g_5, a0g_6, a0g_7, a0g_8, a0g_9, a0g_10, a0g_11, a0g_12, a0g_13, a0g_14])), (a1, .inr (5, [.int a1_0, a1g_1, a1g_2, .int a1_3, .int x43, .ref a1_5, a1g_6])), (a1_5, .inl (ka1_5, 9, .inl (fa1_5))), (a3, .inr (6, [.int a3_0, .int a3_1, .ref a3_2, .ref a3_3])), (a3_3, .inl (ka3_3, 3, .inl (fa3_3))), (a3_2, .inl (ka3_2, 3, .inl (fa3_2)))]) hP hD rfl
      refine lv_iload_n hx hb dX0_step_47 rfl (lv_at hl 3 rfl) ?_
      refine lv_istore (lv' := [(4, .int a2), (0, .ref a0), (1, .ref a1), (2, .int a2), (3, .ref a3)]) hx hb dX0_step_48 hl (by decide) rfl (fun ls hl => ?_)
      refine lv_goto (tgt := 74) hx hb dX0_step_50 (by decide) ?_
      refine lv_aload_n hx hb dX0_step_74 rfl (lv_at hl 2 rfl) ?_
      refine va_get (D := (dC, dI)) (ci := 5) (v := .ref a1_5) (C := RX5) (T := TX5) (N := 7) hx hb hts zi_X0_step_5 hown hK hP 1 rfl rfl 5 (by decide) (hts (.fieldLink RX0 99 "WaxTurns$Scene" "places" "[I") (zm_X0_step_r1 (List.mem_of_getElem? (i := 0) rfl))) (fun _ h9 => h9) rfl dX0_step_75 ?_
      refine lv_iload_n hx hb dX0_step_78 rfl (lv_at hl 3 rfl) ?_
      refine lv_iload hx hb dX0_step_79 (lv_at hl 0 rfl) ?_
      refine va_iast hx hb hK hP hD hS 2 0 rfl rfl (ai_in ba2_l ba2_u (by decide) (by decide)) dX0_step_81 (fun H locs hP hD hS => ?_)
      obtain ⟨f81, hP, hD⟩ : ∃ f81 : Nat → Int32, va_P (dC, dI) vwCl [(a0, .inr (0, [a0g_0, a0g_1, .int a0_2, a0g_3, a0g_4, a0g_5, a0g_6, a0g_7, a0g_8, a0g_9, a0g_10, a0g_11, a0g_12, a0g_13, a0g_14])), (a1, .inr (5, [.int a1_0, a1g_1, a1g_2, .int a1_3, .int x43, .ref a1_5, a1g_6])), (a1_5, .inl (ka1_5, 9, .inl (f81))), (a3, .inr (6, [.int a3_0, .int a3_1, .ref a3_2, .ref a3_3])), (a3_3, .inl (ka3_3, 3, .inl (fa3_3))), (a3_2, .inl (ka3_2, 3, .inl (fa3_2)))] H ∧ va_D A [(a0, .inr (0, [a0g_0, a0g_1, .int a0_2, a0g_3, a0g_4, a0g_5, a0g_6, a0g_7, a0g_8, a0g_9, a0g_10, a0g_11, a0g_12, a0g_13, a0g_14])), (a1, .inr (5, [.int a1_0, a1g_1, a1g_2, .int a1_3, .int x43, .ref a1_5, a1g_6])), (a1_5, .inl (ka1_5, 9, .inl (f81))), (a3, .inr (6, [.int a3_0, .int a3_1, .ref a3_2, .ref a3_3])), (a3_3, .inl (ka3_3, 3, .inl (fa3_3))), (a3_2, .inl (ka3_2, 3, .inl (fa3_2)))] := ⟨_, hP, hD⟩
      exact W.vret hx hb hr (fun t ht hW => ⟨⟨(), rfl, trivial, a1_3, x43, f81, by rw [ht]; exact hP, va_K.moved hW.alike hK, hD⟩, hS.F ht⟩) hS.2.2 dX0_step_82
    · subst hw
      refine lv_if_eq (tgt := 53) hx hb dX0_step_34 (by decide) (fun _ => ?_) (fun c34 => absurd (by decide +kernel) c34)
      refine lv_iload hx hb dX0_step_53 (lv_at hl 0 rfl) ?_
      refine lv_aload_n hx hb dX0_step_55 rfl (lv_at hl 1 rfl) ?_
      refine va_get (D := (dC, dI)) (ci := 0) (v := .int a0_2) (C := RX0) (T := TX0) (N := 15) hx hb hts zi_X0_step_0 hown hK hP 0 rfl rfl 2 (by decide) (hts (.fieldLink RX0 51 "WaxTurns$Hall" "stairsPlace" "I") (zm_X0_step_r1 (List.mem_of_getElem? (i := 3) rfl))) (fun _ h9 => h9) rfl dX0_step_56 ?_
      refine lv_icmp_ne (tgt := 74) hx hb dX0_step_59 (by decide) (fun c59 => ?_) (fun c59 => ?_)
      · have gc59 := ai_ne c59
        refine lv_aload_n hx hb dX0_step_74 rfl (lv_at hl 2 rfl) ?_
        refine va_get (D := (dC, dI)) (ci := 5) (v := .ref a1_5) (C := RX5) (T := TX5) (N := 7) hx hb hts zi_X0_step_5 hown hK hP 1 rfl rfl 5 (by decide) (hts (.fieldLink RX0 99 "WaxTurns$Scene" "places" "[I") (zm_X0_step_r1 (List.mem_of_getElem? (i := 0) rfl))) (fun _ h9 => h9) rfl dX0_step_75 ?_
        refine lv_iload_n hx hb dX0_step_78 rfl (lv_at hl 3 rfl) ?_
        refine lv_iload hx hb dX0_step_79 (lv_at hl 0 rfl) ?_
        refine va_iast hx hb hK hP hD hS 2 0 rfl rfl (ai_in ba2_l ba2_u (by decide) (by decide)) dX0_step_81 (fun H locs hP hD hS => ?_)
        obtain ⟨f81, hP, hD⟩ : ∃ f81 : Nat → Int32, va_P (dC, dI) vwCl [(a0, .inr (0, [a0g_0, a0g_1, .int a0_2, a0g_3, a0g_4, a0g_5, a0g_6, a0g_7, a0g_8, a0g_9, a0g_10, a0g_11, a0g_12, a0g_13, a0g_14])), (a1, .inr (5, [.int a1_0, a1g_1, a1g_2, .int a1_3, .int a1_4, .ref a1_5, a1g_6])), (a1_5, .inl (ka1_5, 9, .inl (f81))), (a3, .inr (6, [.int a3_0, .int a3_1, .ref a3_2, .ref a3_3])), (a3_3, .inl (ka3_3, 3, .inl (fa3_3))), (a3_2, .inl (ka3_2, 3, .inl (fa3_2)))] H ∧ va_D A [(a0, .inr (0, [a0g_0, a0g_1, .int a0_2, a0g_3, a0g_4, a0g_5, a0g_6, a0g_7, a0g_8, a0g_9, a0g_10, a0g_11, a0g_12, a0g_13, a0g_14])), (a1, .inr (5, [.int a1_0, a1g_1, a1g_2, .int a1_3, .int a1_4, .ref a1_5, a1g_6])), (a1_5, .inl (ka1_5, 9, .inl (f81))), (a3, .inr (6, [.int a3_0, .int a3_1, .ref a3_2, .ref a3_3])), (a3_3, .inl (ka3_3, 3, .inl (fa3_3))), (a3_2, .inl (ka3_2, 3, .inl (fa3_2)))] := ⟨_, hP, hD⟩
        exact W.vret hx hb hr (fun t ht hW => ⟨⟨(), rfl, trivial, a1_3, a1_4, f81, by rw [ht]; exact hP, va_K.moved hW.alike hK, hD⟩, hS.F ht⟩) hS.2.2 dX0_step_82
      · have gc59 := ai_eq c59
        refine lv_aload_n hx hb dX0_step_62 rfl (lv_at hl 2 rfl) ?_
        refine lv_dup hx hb dX0_step_63 rfl ?_
        refine va_get (D := (dC, dI)) (ci := 5) (v := .int a1_3) (C := RX5) (T := TX5) (N := 7) hx hb hts zi_X0_step_5 hown hK hP 1 rfl rfl 3 (by decide) (hts (.fieldLink RX0 135 "WaxTurns$Scene" "goneBits" "I") (zm_X0_step_r1 (List.mem_of_getElem? (i := 4) rfl))) (fun _ h9 => h9) rfl dX0_step_64 ?_
        refine lv_iconst (v := 1) hx hb dX0_step_67 zk_iconst_1 ?_
        refine lv_iload_n hx hb dX0_step_68 rfl (lv_at hl 3 rfl) ?_
        refine lv_ishl hx hb dX0_step_69 ?_
        refine lv_topi (fun x69 ex69 => ?_)
        refine lv_ior hx hb dX0_step_70 ?_
        refine lv_topi (fun x70 ex70 => ?_)
        refine va_put (D := (dC, dI)) (ci := 5) (v := .int x70) (ty := .int) (C := RX5) (T := TX5) (N := 7) hx hb hts zi_X0_step_5 tyX5 tyX5_ok nmX5 hown hK hP hD hS 1 rfl rfl 3 (by decide) (hts (.fieldLink RX0 135 "WaxTurns$Scene" "goneBits" "I") (zm_X0_step_r1 (List.mem_of_getElem? (i := 4) rfl))) (fun _ h9 => h9) rfl (tyX5_ok 3 (by decide)) rfl rfl (Nat.le_of_ble_eq_true rfl) dX0_step_71 (fun H locs hP hD hS => ?_)
        obtain ⟨hP, hD⟩ := zc_re (w := [(a0, .inr (0, [a0g_0, a0g_1, .int a0_2, a0g_3, a0g_4, a0g_5, a0g_6, a0g_7, a0g_8, a0g_9, a0g_10, a0g_11, a0g_12, a0g_13, a0g_14])), (a1, .inr (5, [.int a1_0, a1g_1, a1g_2, .int x70, .int a1_4, .ref a1_5, a1g_6])), (a1_5, .inl (ka1_5, 9, .inl (fa1_5))), (a3, .inr (6, [.int a3_0, .int a3_1, .ref a3_2, .ref a3_3])), (a3_3, .inl (ka3_3, 3, .inl (fa3_3))), (a3_2, .inl (ka3_2, 3, .inl (fa3_2)))]) hP hD rfl
        refine lv_aload_n hx hb dX0_step_74 rfl (lv_at hl 2 rfl) ?_
        refine va_get (D := (dC, dI)) (ci := 5) (v := .ref a1_5) (C := RX5) (T := TX5) (N := 7) hx hb hts zi_X0_step_5 hown hK hP 1 rfl rfl 5 (by decide) (hts (.fieldLink RX0 99 "WaxTurns$Scene" "places" "[I") (zm_X0_step_r1 (List.mem_of_getElem? (i := 0) rfl))) (fun _ h9 => h9) rfl dX0_step_75 ?_
        refine lv_iload_n hx hb dX0_step_78 rfl (lv_at hl 3 rfl) ?_
        refine lv_iload hx hb dX0_step_79 (lv_at hl 0 rfl) ?_
        refine va_iast hx hb hK hP hD hS 2 0 rfl rfl (ai_in ba2_l ba2_u (by decide) (by decide)) dX0_step_81 (fun H locs hP hD hS => ?_)
        obtain ⟨f81, hP, hD⟩ : ∃ f81 : Nat → Int32, va_P (dC, dI) vwCl [(a0, .inr (0, [a0g_0, a0g_1, .int a0_2, a0g_3, a0g_4, a0g_5, a0g_6, a0g_7, a0g_8, a0g_9, a0g_10, a0g_11, a0g_12, a0g_13, a0g_14])), (a1, .inr (5, [.int a1_0, a1g_1, a1g_2, .int x70, .int a1_4, .ref a1_5, a1g_6])), (a1_5, .inl (ka1_5, 9, .inl (f81))), (a3, .inr (6, [.int a3_0, .int a3_1, .ref a3_2, .ref a3_3])), (a3_3, .inl (ka3_3, 3, .inl (fa3_3))), (a3_2, .inl (ka3_2, 3, .inl (fa3_2)))] H ∧ va_D A [(a0, .inr (0, [a0g_0, a0g_1, .int a0_2, a0g_3, a0g_4, a0g_5, a0g_6, a0g_7, a0g_8, a0g_9, a0g_10, a0g_11, a0g_12, a0g_13, a0g_14])), (a1, .inr (5, [.int a1_0, a1g_1, a1g_2, .int x70, .int a1_4, .ref a1_5, a1g_6])), (a1_5, .inl (ka1_5, 9, .inl (f81))), (a3, .inr (6, [.int a3_0, .int a3_1, .ref a3_2, .ref a3_3])), (a3_3, .inl (ka3_3, 3, .inl (fa3_3))), (a3_2, .inl (ka3_2, 3, .inl (fa3_2)))] := ⟨_, hP, hD⟩
        exact W.vret hx hb hr (fun t ht hW => ⟨⟨(), rfl, trivial, x70, a1_4, f81, by rw [ht]; exact hP, va_K.moved hW.alike hK, hD⟩, hS.F ht⟩) hS.2.2 dX0_step_82
