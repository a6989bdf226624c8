set_option maxHeartbeats 4000000 in
set_option maxRecDepth 100000 in
theorem f_X0_addSeen (l : Launch) (dC : Nat → ClassId) (dI : Nat → Nat → Nat) (sz : Nat) (a0 : Nat) (a1 : Int32) (a2 : Int32) (a0g : Nat → Value) (a0_9 : Int32) (a0_12 : Nat) (a0_13 : Nat) (ka0_12 : ClassId) (fa0_12 : Nat → Int32) (ka0_13 : ClassId) (fa0_13 : Nat → Int32) (ba2_l : (0 : Int) ≤ a2.toInt) (ba2_u : a2.toInt ≤ (999 : Int)) (ba0_9_l : (0 : Int) ≤ a0_9.toInt) (ba0_9_u : a0_9.toInt ≤ (6 : Int)) (bfa0_13 : (∀ k, (0 : Int) ≤ (fa0_13 k).toInt ∧ (fa0_13 k).toInt ≤ 999)) : Met l yX0_addSeen wsX0_addSeen ({ frames := 0, cells := 0, slots := 0, locals := 0 }) (va_Pc [.ref a0, .int a1, .int a2] (ax_C dC dI sz [(a0, .inr (0, [a0g 0, a0g 1, a0g 2, a0g 3, a0g 4, a0g 5, a0g 6, a0g 7, a0g 8, .int a0_9, a0g 10, a0g 11, .ref a0_12, .ref a0_13, a0g 14])), (a0_12, .inl (ka0_12, 6, .inl (fa0_12))), (a0_13, .inl (ka0_13, 6, .inl (fa0_13)))] [(ka0_12, .int), (ka0_13, .int)] (fun _ => True))) (va_Qv (fun (_ : Unit) => True) (fun (_ : Unit) (t : State) => ∃ na0_9 : Int32, ∃ nfa0_12 : Nat → Int32, ∃ nfa0_13 : Nat → Int32, ((0 : Int) ≤ na0_9.toInt ∧ na0_9.toInt ≤ 6) ∧ (∀ k, (0 : Int) ≤ (nfa0_13 k).toInt ∧ (nfa0_13 k).toInt ≤ 999) ∧ (Ff_X0_addSeen a1.toInt a2.toInt a0_9.toInt (fl_A fa0_12) (fl_A fa0_13) = (na0_9.toInt, (fl_A nfa0_12), (fl_A nfa0_13))) ∧ ax_B dC dI (va_A [(a0, .inr (0, [a0g 0, a0g 1, a0g 2, a0g 3, a0g 4, a0g 5, a0g 6, a0g 7, a0g 8, .int a0_9, a0g 10, a0g 11, .ref a0_12, .ref a0_13, a0g 14])), (a0_12, .inl (ka0_12, 6, .inl (fa0_12))), (a0_13, .inl (ka0_13, 6, .inl (fa0_13)))] sz) [(a0, .inr (0, [a0g 0, a0g 1, a0g 2, a0g 3, a0g 4, a0g 5, a0g 6, a0g 7, a0g 8, .int na0_9, a0g 10, a0g 11, .ref a0_12, .ref a0_13, a0g 14])), (a0_12, .inl (ka0_12, 6, .inl (nfa0_12))), (a0_13, .inl (ka0_13, 6, .inl (nfa0_13)))] [(ka0_12, .int), (ka0_13, .int)] t) (va_A [(a0, .inr (0, [a0g 0, a0g 1, a0g 2, a0g 3, a0g 4, a0g 5, a0g 6, a0g 7, a0g 8, .int a0_9, a0g 10, a0g 11, .ref a0_12, .ref a0_13, a0g 14])), (a0_12, .inl (ka0_12, 6, .inl (fa0_12))), (a0_13, .inl (ka0_13, 6, .inl (fa0_13)))] sz)) 0 0 (va_A [(a0, .inr (0, [a0g 0, a0g 1, a0g 2, a0g 3, a0g 4, a0g 5, a0g 6, a0g 7, a0g 8, .int a0_9, a0g 10, a0g 11, .ref a0_12, .ref a0_13, a0g 14])), (a0_12, .inl (ka0_12, 6, .inl (fa0_12))), (a0_13, .inl (ka0_13, 6, .inl (fa0_13)))] sz) := by
  refine Met.ofW (cc := cX0_addSeen) (maxL := 3) (ret := none) (by decide) rfl ?_
  intro p e s m args below meth c s₁ B hml hv
  obtain ⟨rfl, hsz, hP, hK, hD0, hE⟩ := hv
  have hx := B.exec
  have hb := B.bytes
  have hr := B.returns
  have hts := atoms_spec (ws := wsX0_addSeen) B.pre
  have hown : s.vm.findClass RX0 = some m.cls := findClass_of_methodNamed B.named
  have hlocks := B.notSynchronized
  subst hsz
  have hD := hD0.self (sz := s.heap.size)
  generalize hAe : va_A [(a0, .inr (0, [a0g 0, a0g 1, a0g 2, a0g 3, a0g 4, a0g 5, a0g 6, a0g 7, a0g 8, .int a0_9, a0g 10, a0g 11, .ref a0_12, .ref a0_13, a0g 14])), (a0_12, .inl (ka0_12, 6, .inl (fa0_12))), (a0_13, .inl (ka0_13, 6, .inl (fa0_13)))] s.heap.size = A at hD ⊢
  have hA : ∀ q : Nat, s.heap.size ≤ q → A q := fun q h => by rw [← hAe]; exact Or.inr h
  have hS : va_S A s.heap s.heap [] := va_S.rf
  have hP : va_P (dC, dI) vwCl [(a0, .inr (0, [a0g 0, a0g 1, a0g 2, a0g 3, a0g 4, a0g 5, a0g 6, a0g 7, a0g 8, .int a0_9, a0g 10, a0g 11, .ref a0_12, .ref a0_13, a0g 14])), (a0_12, .inl (ka0_12, 6, .inl (fa0_12))), (a0_13, .inl (ka0_13, 6, .inl (fa0_13)))] s.heap := hP
  have hl := lv_entry ([.ref a0, .int a1, .int a2]) (n := 3) (Nat.le_of_ble_eq_true rfl)
  rw [lg_entry_eq]
  generalize (lg_sl ([.ref a0, .int a1, .int a2]) ++ List.replicate (3 - (lg_sl ([.ref a0, .int a1, .int a2])).length) Slot.unset).toArray = ls at hl ⊢
  have hl : lv_has ls 3 [(0, .ref a0), (1, .int a1), (2, .int a2)] := hl
  generalize hFX : Ff_X0_addSeen a1.toInt a2.toInt a0_9.toInt (fl_A fa0_12) (fl_A fa0_13) = FX at ⊢
  have hF0 := hFX.symm.trans (Ff_X0_addSeen.eq_1 a1.toInt a2.toInt a0_9.toInt (fl_A fa0_12) (fl_A fa0_13))
  refine lv_aload_n hx hb dX0_addSeen_0 rfl (lv_at hl 0 rfl) ?_
  refine va_get (D := (dC, dI)) (ci := 0) (v := .int a0_9) (C := RX0) (T := TX0) (N := 15) hx hb hts (by decide +kernel) hown hK hP 0 rfl rfl 9 (by decide) (hts (.fieldLink RX0 42 "WaxTurns$Hall" "seenCount" "I") (by decide +kernel)) (fun _ h9 => h9) rfl dX0_addSeen_1 ?_
  refine lv_bipush (v := 6) hx hb dX0_addSeen_4 (by decide) ?_
  refine lv_icmp_ge (tgt := 39) hx hb dX0_addSeen_6 (by decide) (fun c6 => ?_) (fun c6 => ?_)
  · have gc6 := ai_le c6
    have l6t_a0_9 : (6 : Int) ≤ a0_9.toInt := Int.le_trans (by decide : (6 : Int) ≤ (6 : Int32).toInt) gc6
    have hF0 := hF0.trans (if_pos (show 6 ≤ a0_9.toInt from gc6))
    have hFe : FX = (a0_9.toInt, (fl_A fa0_12), (fl_A fa0_13)) := hF0
    exact W.vret hx hb hr (fun t ht hW => ⟨⟨(), rfl, trivial, a0_9, fa0_12, fa0_13, ⟨Int.le_trans (by decide) l6t_a0_9, ba0_9_u⟩, bfa0_13, hFe, by rw [ht]; exact hP, va_K.moved hW.alike hK, hD⟩, hS.F ht⟩) hS.2.2 dX0_addSeen_39
  · have gc6 := ai_nle c6
    have u6f_a0_9 : a0_9.toInt ≤ (5 : Int) := ai_lthi gc6 (by decide : (6 : Int32).toInt ≤ (6 : Int))
    have hF0 := hF0.trans (if_neg (show ¬ (6 ≤ a0_9.toInt) from Int.not_le.mpr gc6))
    refine lv_aload_n hx hb dX0_addSeen_9 rfl (lv_at hl 0 rfl) ?_
    refine va_get (D := (dC, dI)) (ci := 0) (v := .ref a0_12) (C := RX0) (T := TX0) (N := 15) hx hb hts (by decide +kernel) hown hK hP 0 rfl rfl 12 (by decide) (hts (.fieldLink RX0 18 "WaxTurns$Hall" "seenFigures" "[I") (by decide +kernel)) (fun _ h9 => h9) rfl dX0_addSeen_10 ?_
    refine lv_aload_n hx hb dX0_addSeen_13 rfl (lv_at hl 0 rfl) ?_
    refine va_get (D := (dC, dI)) (ci := 0) (v := .int a0_9) (C := RX0) (T := TX0) (N := 15) hx hb hts (by decide +kernel) hown hK hP 0 rfl rfl 9 (by decide) (hts (.fieldLink RX0 42 "WaxTurns$Hall" "seenCount" "I") (by decide +kernel)) (fun _ h9 => h9) rfl dX0_addSeen_14 ?_
    refine lv_iload_n hx hb dX0_addSeen_17 rfl (lv_at hl 1 rfl) ?_
    refine va_iast hx hb hK hP hD hS 1 0 rfl rfl (ai_in ba0_9_l u6f_a0_9 (by decide) (by decide)) dX0_addSeen_18 (fun H locs hP hD hS => ?_)
    obtain ⟨f18, ef18⟩ : ∃ g9 : Nat → Int32, g9 = upd fa0_12 (a0_9 : Int32).toNatClampNeg a1 := ⟨_, rfl⟩
    rw [← ef18] at hP hD
    have hP : va_P (dC, dI) vwCl [(a0, .inr (0, [a0g 0, a0g 1, a0g 2, a0g 3, a0g 4, a0g 5, a0g 6, a0g 7, a0g 8, .int a0_9, a0g 10, a0g 11, .ref a0_12, .ref a0_13, a0g 14])), (a0_12, .inl (ka0_12, 6, .inl (f18))), (a0_13, .inl (ka0_13, 6, .inl (fa0_13)))] H := hP
    have hD : va_D A [(a0, .inr (0, [a0g 0, a0g 1, a0g 2, a0g 3, a0g 4, a0g 5, a0g 6, a0g 7, a0g 8, .int a0_9, a0g 10, a0g 11, .ref a0_12, .ref a0_13, a0g 14])), (a0_12, .inl (ka0_12, 6, .inl (f18))), (a0_13, .inl (ka0_13, 6, .inl (fa0_13)))] := hD
    have hF0 := hF0.trans (fl_lt_eq (show (fl_A f18) = fl_up (fl_A fa0_12) (a0_9.toInt.toNat) a1.toInt from fl_up_eq ef18))
    refine lv_aload_n hx hb dX0_addSeen_19 rfl (lv_at hl 0 rfl) ?_
    refine va_get (D := (dC, dI)) (ci := 0) (v := .ref a0_13) (C := RX0) (T := TX0) (N := 15) hx hb hts (by decide +kernel) hown hK hP 0 rfl rfl 13 (by decide) (hts (.fieldLink RX0 21 "WaxTurns$Hall" "seenMinutes" "[I") (by decide +kernel)) (fun _ h9 => h9) rfl dX0_addSeen_20 ?_
    refine lv_aload_n hx hb dX0_addSeen_23 rfl (lv_at hl 0 rfl) ?_
    refine va_get (D := (dC, dI)) (ci := 0) (v := .int a0_9) (C := RX0) (T := TX0) (N := 15) hx hb hts (by decide +kernel) hown hK hP 0 rfl rfl 9 (by decide) (hts (.fieldLink RX0 42 "WaxTurns$Hall" "seenCount" "I") (by decide +kernel)) (fun _ h9 => h9) rfl dX0_addSeen_24 ?_
    refine lv_iload_n hx hb dX0_addSeen_27 rfl (lv_at hl 2 rfl) ?_
    refine va_iast hx hb hK hP hD hS 2 1 rfl rfl (ai_in ba0_9_l u6f_a0_9 (by decide) (by decide)) dX0_addSeen_28 (fun H locs hP hD hS => ?_)
    obtain ⟨f28, ef28⟩ : ∃ g9 : Nat → Int32, g9 = upd fa0_13 (a0_9 : Int32).toNatClampNeg a2 := ⟨_, rfl⟩
    rw [← ef28] at hP hD
    have hP : va_P (dC, dI) vwCl [(a0, .inr (0, [a0g 0, a0g 1, a0g 2, a0g 3, a0g 4, a0g 5, a0g 6, a0g 7, a0g 8, .int a0_9, a0g 10, a0g 11, .ref a0_12, .ref a0_13, a0g 14])), (a0_12, .inl (ka0_12, 6, .inl (f18))), (a0_13, .inl (ka0_13, 6, .inl (f28)))] H := hP
    have hD : va_D A [(a0, .inr (0, [a0g 0, a0g 1, a0g 2, a0g 3, a0g 4, a0g 5, a0g 6, a0g 7, a0g 8, .int a0_9, a0g 10, a0g 11, .ref a0_12, .ref a0_13, a0g 14])), (a0_12, .inl (ka0_12, 6, .inl (f18))), (a0_13, .inl (ka0_13, 6, .inl (f28)))] := hD
    have bf28 : (∀ k, (0 : Int) ≤ (f28 k).toInt ∧ (f28 k).toInt ≤ 999) := by rw [ef28]; exact ai_upd bfa0_13 _ ⟨ba2_l, ba2_u⟩
    have hF0 := hF0.trans (fl_lt_eq (show (fl_A f28) = fl_up (fl_A fa0_13) (a0_9.toInt.toNat) a2.toInt from fl_up_eq ef28))
    refine lv_aload_n hx hb dX0_addSeen_29 rfl (lv_at hl 0 rfl) ?_
    refine lv_dup hx hb dX0_addSeen_30 rfl ?_
    refine va_get (D := (dC, dI)) (ci := 0) (v := .int a0_9) (C := RX0) (T := TX0) (N := 15) hx hb hts (by decide +kernel) hown hK hP 0 rfl rfl 9 (by decide) (hts (.fieldLink RX0 42 "WaxTurns$Hall" "seenCount" "I") (by decide +kernel)) (fun _ h9 => h9) rfl dX0_addSeen_31 ?_
    refine lv_iconst (v := 1) hx hb dX0_addSeen_34 (by decide) ?_
    refine lv_iadd hx hb dX0_addSeen_35 ?_
    refine lv_topi (fun x35 ex35 => ?_)
    have qx35 : x35.toInt = a0_9.toInt + (1 : Int32).toInt := ai_add ex35 ⟨ba0_9_l, u6f_a0_9⟩ ⟨(by decide : (1 : Int) ≤ (1 : Int32).toInt), (by decide : (1 : Int32).toInt ≤ (1 : Int))⟩ (by decide) (by decide)
    have bx35 : (1 : Int) ≤ x35.toInt ∧ x35.toInt ≤ 6 := ⟨by rw [qx35]; exact Int.add_le_add ba0_9_l (by decide : (1 : Int) ≤ (1 : Int32).toInt), by rw [qx35]; exact Int.add_le_add u6f_a0_9 (by decide : (1 : Int32).toInt ≤ (1 : Int))⟩
    have wx35 : x35.toInt = a0_9.toInt + 1 := qx35
    have hF0 := hF0.trans (fl_lt_eq (show x35.toInt = a0_9.toInt + 1 from qx35))
    refine va_put (D := (dC, dI)) (ci := 0) (v := .int x35) (ty := .int) (C := RX0) (T := TX0) (N := 15) hx hb hts (by decide +kernel) tyX0 tyX0_ok nmX0 hown hK hP hD hS 0 rfl rfl 9 (by decide) (hts (.fieldLink RX0 42 "WaxTurns$Hall" "seenCount" "I") (by decide +kernel)) (fun _ h9 => h9) rfl (by decide +kernel) rfl rfl (Nat.le_of_ble_eq_true rfl) dX0_addSeen_36 (fun H locs hP hD hS => ?_)
    have hP : va_P (dC, dI) vwCl [(a0, .inr (0, [a0g 0, a0g 1, a0g 2, a0g 3, a0g 4, a0g 5, a0g 6, a0g 7, a0g 8, .int x35, a0g 10, a0g 11, .ref a0_12, .ref a0_13, a0g 14])), (a0_12, .inl (ka0_12, 6, .inl (f18))), (a0_13, .inl (ka0_13, 6, .inl (f28)))] H := hP
    have hD : va_D A [(a0, .inr (0, [a0g 0, a0g 1, a0g 2, a0g 3, a0g 4, a0g 5, a0g 6, a0g 7, a0g 8, .int x35, a0g 10, a0g 11, .ref a0_12, .ref a0_13, a0g 14])), (a0_12, .inl (ka0_12, 6, .inl (f18))), (a0_13, .inl (ka0_13, 6, .inl (f28)))] := hD
    have hFe : FX = (x35.toInt, (fl_A f18), (fl_A f28)) := hF0
    exact W.vret hx hb hr (fun t ht hW => ⟨⟨(), rfl, trivial, x35, f18, f28, ⟨Int.le_trans (by decide) bx35.1, bx35.2⟩, bf28, hFe, by rw [ht]; exact hP, va_K.moved hW.alike hK, hD⟩, hS.F ht⟩) hS.2.2 dX0_addSeen_39

