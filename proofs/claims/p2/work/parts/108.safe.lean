set_option maxHeartbeats 4000000 in
set_option maxRecDepth 100000 in
theorem c_X7_nextDraw (l : Launch) (dC : Nat → ClassId) (dI : Nat → Nat → Nat) (sz : Nat) (a1 : Int32)  : Met l yX7_nextDraw wsX7_nextDraw ({ frames := 0, cells := 0, slots := 0, locals := 0 }) (va_Pc [.int a1] (ax_C dC dI sz [] [] (fun _ => True))) (va_Qi (fun (r : Int32) (_ : Unit) => True) (fun (_ : Unit) (t : State) => ax_B dC dI (va_A [] sz) [] [] t) (va_A [] sz)) 0 0 (va_A [] sz) := by
  refine Met.ofW (cc := cX7_nextDraw) (maxL := 1) (ret := (some .int)) (by decide) rfl ?_
  intro p e s m args below meth c s₁ B hml hv
  obtain ⟨rfl, hsz, hP, hK, hD0, hE⟩ := hv
  have hx := B.exec
  have hb := B.bytes
  have hr := B.returns
  have hts := atoms_spec (ws := wsX7_nextDraw) B.pre
  have hown : s.vm.findClass RX7 = some m.cls := findClass_of_methodNamed B.named
  have hlocks := B.notSynchronized
  subst hsz
  have hD := hD0.self (sz := s.heap.size)
  generalize hAe : va_A [] s.heap.size = A at hD ⊢
  have hA : ∀ q : Nat, s.heap.size ≤ q → A q := fun q h => by rw [← hAe]; exact Or.inr h
  have hS : va_S A s.heap s.heap [] := va_S.rf
  have hP : va_P (dC, dI) vwCl [] s.heap := hP
  have hl := lv_entry ([.int a1]) (n := 1) (Nat.le_of_ble_eq_true rfl)
  rw [lg_entry_eq]
  generalize (lg_sl ([.int a1]) ++ List.replicate (1 - (lg_sl ([.int a1])).length) Slot.unset).toArray = ls at hl ⊢
  have hl : lv_has ls 1 [(0, .int a1)] := hl
  refine lv_bipush (v := 75) hx hb dX7_nextDraw_0 (by decide) ?_
  refine lv_iload_n hx hb dX7_nextDraw_2 rfl (lv_at hl 0 rfl) ?_
  refine lv_imul hx hb dX7_nextDraw_3 ?_
  refine lv_topi (fun x3 ex3 => ?_)
  refine lv_bipush (v := 74) hx hb dX7_nextDraw_4 (by decide) ?_
  refine lv_iadd hx hb dX7_nextDraw_6 ?_
  refine lv_topi (fun x6 ex6 => ?_)
  refine lv_ldcw (v := 65537) hx hb hown (hts (.constant RX7 378 (65537)) (by decide +kernel)) dX7_nextDraw_7 ?_
  refine lv_irem hx hb dX7_nextDraw_10 (by decide +kernel) ?_
  refine lv_topi (fun x10 ex10 => ?_)
  exact W.iret (v := x10) hx hb hr (fun t ht hW => ⟨⟨x10, (), rfl, trivial, by rw [ht]; exact hP, va_K.moved hW.alike hK, hD⟩, hS.F ht⟩) hS.2.2 dX7_nextDraw_11

set_option maxHeartbeats 4000000 in
set_option maxRecDepth 100000 in
theorem c_X7_isShut (l : Launch) (dC : Nat → ClassId) (dI : Nat → Nat → Nat) (sz : Nat) (a0 : Nat) (a1 : Int32) (a0g : Nat → Value) (a0_7 : Nat) (a0_7g : Nat → Value) (a0_7_3 : Int32)  : Met l yX7_isShut wsX7_isShut ({ frames := 0, cells := 0, slots := 0, locals := 0 }) (va_Pc [.ref a0, .int a1] (ax_C dC dI sz [(a0, .inr (7, [a0g 0, a0g 1, a0g 2, a0g 3, a0g 4, a0g 5, a0g 6, .ref a0_7, a0g 8, a0g 9, a0g 10])), (a0_7, .inr (0, [a0_7g 0, a0_7g 1, a0_7g 2, .int a0_7_3, a0_7g 4, a0_7g 5, a0_7g 6, a0_7g 7, a0_7g 8, a0_7g 9, a0_7g 10, a0_7g 11, a0_7g 12, a0_7g 13, a0_7g 14]))] [] (fun _ => True))) (va_Qi (fun (r : Int32) (_ : Unit) => (r = 1 ∧ (-2147483647 : Int) ≤ a0_7_3.toInt) ∨ (r = 0)) (fun (_ : Unit) (t : State) => ax_B dC dI (va_A [(a0, .inr (7, [a0g 0, a0g 1, a0g 2, a0g 3, a0g 4, a0g 5, a0g 6, .ref a0_7, a0g 8, a0g 9, a0g 10])), (a0_7, .inr (0, [a0_7g 0, a0_7g 1, a0_7g 2, .int a0_7_3, a0_7g 4, a0_7g 5, a0_7g 6, a0_7g 7, a0_7g 8, a0_7g 9, a0_7g 10, a0_7g 11, a0_7g 12, a0_7g 13, a0_7g 14]))] sz) [(a0, .inr (7, [a0g 0, a0g 1, a0g 2, a0g 3, a0g 4, a0g 5, a0g 6, .ref a0_7, a0g 8, a0g 9, a0g 10])), (a0_7, .inr (0, [a0_7g 0, a0_7g 1, a0_7g 2, .int a0_7_3, a0_7g 4, a0_7g 5, a0_7g 6, a0_7g 7, a0_7g 8, a0_7g 9, a0_7g 10, a0_7g 11, a0_7g 12, a0_7g 13, a0_7g 14]))] [] t) (va_A [(a0, .inr (7, [a0g 0, a0g 1, a0g 2, a0g 3, a0g 4, a0g 5, a0g 6, .ref a0_7, a0g 8, a0g 9, a0g 10])), (a0_7, .inr (0, [a0_7g 0, a0_7g 1, a0_7g 2, .int a0_7_3, a0_7g 4, a0_7g 5, a0_7g 6, a0_7g 7, a0_7g 8, a0_7g 9, a0_7g 10, a0_7g 11, a0_7g 12, a0_7g 13, a0_7g 14]))] sz)) 0 0 (va_A [(a0, .inr (7, [a0g 0, a0g 1, a0g 2, a0g 3, a0g 4, a0g 5, a0g 6, .ref a0_7, a0g 8, a0g 9, a0g 10])), (a0_7, .inr (0, [a0_7g 0, a0_7g 1, a0_7g 2, .int a0_7_3, a0_7g 4, a0_7g 5, a0_7g 6, a0_7g 7, a0_7g 8, a0_7g 9, a0_7g 10, a0_7g 11, a0_7g 12, a0_7g 13, a0_7g 14]))] sz) := by
  refine Met.ofW (cc := cX7_isShut) (maxL := 2) (ret := (some .boolean)) (by decide) rfl ?_
  intro p e s m args below meth c s₁ B hml hv
  obtain ⟨rfl, hsz, hP, hK, hD0, hE⟩ := hv
  have hx := B.exec
  have hb := B.bytes
  have hr := B.returns
  have hts := atoms_spec (ws := wsX7_isShut) B.pre
  have hown : s.vm.findClass RX7 = some m.cls := findClass_of_methodNamed B.named
  have hlocks := B.notSynchronized
  subst hsz
  have hD := hD0.self (sz := s.heap.size)
  generalize hAe : va_A [(a0, .inr (7, [a0g 0, a0g 1, a0g 2, a0g 3, a0g 4, a0g 5, a0g 6, .ref a0_7, a0g 8, a0g 9, a0g 10])), (a0_7, .inr (0, [a0_7g 0, a0_7g 1, a0_7g 2, .int a0_7_3, a0_7g 4, a0_7g 5, a0_7g 6, a0_7g 7, a0_7g 8, a0_7g 9, a0_7g 10, a0_7g 11, a0_7g 12, a0_7g 13, a0_7g 14]))] s.heap.size = A at hD ⊢
  have hA : ∀ q : Nat, s.heap.size ≤ q → A q := fun q h => by rw [← hAe]; exact Or.inr h
  have hS : va_S A s.heap s.heap [] := va_S.rf
  have hP : va_P (dC, dI) vwCl [(a0, .inr (7, [a0g 0, a0g 1, a0g 2, a0g 3, a0g 4, a0g 5, a0g 6, .ref a0_7, a0g 8, a0g 9, a0g 10])), (a0_7, .inr (0, [a0_7g 0, a0_7g 1, a0_7g 2, .int a0_7_3, a0_7g 4, a0_7g 5, a0_7g 6, a0_7g 7, a0_7g 8, a0_7g 9, a0_7g 10, a0_7g 11, a0_7g 12, a0_7g 13, a0_7g 14]))] s.heap := hP
  have hl := lv_entry ([.ref a0, .int a1]) (n := 2) (Nat.le_of_ble_eq_true rfl)
  rw [lg_entry_eq]
  generalize (lg_sl ([.ref a0, .int a1]) ++ List.replicate (2 - (lg_sl ([.ref a0, .int a1])).length) Slot.unset).toArray = ls at hl ⊢
  have hl : lv_has ls 2 [(0, .ref a0), (1, .int a1)] := hl
  refine lv_iload_n hx hb dX7_isShut_0 rfl (lv_at hl 1 rfl) ?_
  refine lv_bipush (v := 100) hx hb dX7_isShut_1 (by decide) ?_
  refine lv_irem hx hb dX7_isShut_3 (by decide +kernel) ?_
  refine lv_topi (fun x3 ex3 => ?_)
  refine lv_aload_n hx hb dX7_isShut_4 rfl (lv_at hl 0 rfl) ?_
  refine va_get (D := (dC, dI)) (ci := 7) (v := .ref a0_7) (C := RX7) (T := TX7) (N := 11) hx hb hts (by decide +kernel) hown hK hP 0 rfl rfl 7 (by decide) (hts (.fieldLink RX7 57 "WaxTurns" "hall" "LWaxTurns$Hall;") (by decide +kernel)) (fun _ h9 => h9) rfl dX7_isShut_5 ?_
  refine va_get (D := (dC, dI)) (ci := 0) (v := .int a0_7_3) (C := RX0) (T := TX0) (N := 15) hx hb hts (by decide +kernel) hown hK hP 1 rfl rfl 3 (by decide) (hts (.fieldLink RX7 316 "WaxTurns$Hall" "shut" "I") (by decide +kernel)) (fun _ h9 => h9) rfl dX7_isShut_8 ?_
  refine lv_icmp_ge (tgt := 18) hx hb dX7_isShut_11 (by decide) (fun c11 => ?_) (fun c11 => ?_)
  · have gc11 := ai_le c11
    refine lv_iconst (v := 0) hx hb dX7_isShut_18 (by decide) ?_
    exact W.zret (v := 0) hx hb hr rfl (fun t ht hW => ⟨⟨0, (), rfl, (Or.inr (rfl)), by rw [ht]; exact hP, va_K.moved hW.alike hK, hD⟩, hS.F ht⟩) hS.2.2 dX7_isShut_19
  · have gc11 := ai_nle c11
    have u11f_x3 : x3.toInt ≤ (2147483646 : Int) := ai_lthi gc11 (ai_max a0_7_3)
    have l11f_a0_7_3 : (-2147483647 : Int) ≤ a0_7_3.toInt := ai_ltlo gc11 (ai_min x3)
    refine lv_iconst (v := 1) hx hb dX7_isShut_14 (by decide) ?_
    refine lv_goto (tgt := 19) hx hb dX7_isShut_15 (by decide) ?_
    exact W.zret (v := 1) hx hb hr rfl (fun t ht hW => ⟨⟨1, (), rfl, (Or.inl ⟨rfl, l11f_a0_7_3⟩), by rw [ht]; exact hP, va_K.moved hW.alike hK, hD⟩, hS.F ht⟩) hS.2.2 dX7_isShut_19
