set_option maxHeartbeats 4000000 in
set_option maxRecDepth 100000 in
theorem f_X0_clear (l : Launch) (dC : Nat → ClassId) (dI : Nat → Nat → Nat) (sz : Nat) (a0 : Nat) (a0_0 : Int32) (a0g : Nat → Value) (a0_4 : Int32) (a0_8 : Int32) (a0_9 : Int32) (a0_10 : Nat) (a0_11 : Nat) (a0_14 : Nat) (a0_14_0 : Int32) (a0_14g : Nat → Value) (ka0_10 : ClassId) (fa0_10 : Nat → Int32) (ka0_11 : ClassId) (fa0_11 : Nat → Int32) (ba0_0_l : (0 : Int) ≤ a0_0.toInt) (ba0_0_u : a0_0.toInt ≤ (9 : Int)) (ba0_4_l : (0 : Int) ≤ a0_4.toInt) (ba0_4_u : a0_4.toInt ≤ (1 : Int)) (ba0_9_l : (0 : Int) ≤ a0_9.toInt) (ba0_9_u : a0_9.toInt ≤ (6 : Int)) (ba0_14_0_l : (0 : Int) ≤ a0_14_0.toInt) (ba0_14_0_u : a0_14_0.toInt ≤ (3 : Int)) : Met l yX0_clear wsX0_clear ({ frames := 0, cells := 0, slots := 0, locals := 0 }) (va_Pc [.ref a0] (ax_C dC dI sz [(a0, .inr (0, [.int a0_0, a0g 1, a0g 2, a0g 3, .int a0_4, a0g 5, a0g 6, a0g 7, .int a0_8, .int a0_9, .ref a0_10, .ref a0_11, a0g 12, a0g 13, .ref a0_14])), (a0_14, .inr (6, [.int a0_14_0, a0_14g 1, a0_14g 2, a0_14g 3])), (a0_10, .inl (ka0_10, 9, .inl (fa0_10))), (a0_11, .inl (ka0_11, 9, .inl (fa0_11)))] [(ka0_10, .int), (ka0_11, .int)] (fun _ => True))) (va_Qv (fun (_ : Unit) => True) (fun (_ : Unit) (t : State) => ∃ na0_0 : Int32, ∃ na0_4 : Int32, ∃ na0_8 : Int32, ∃ na0_9 : Int32, ∃ na0_14_0 : Int32, ∃ nfa0_10 : Nat → Int32, ∃ nfa0_11 : Nat → Int32, ((0 : Int) ≤ na0_0.toInt ∧ na0_0.toInt ≤ 9) ∧ ((0 : Int) ≤ na0_4.toInt ∧ na0_4.toInt ≤ 1) ∧ ((0 : Int) ≤ na0_9.toInt ∧ na0_9.toInt ≤ 6) ∧ ((0 : Int) ≤ na0_14_0.toInt ∧ na0_14_0.toInt ≤ 3) ∧ (Ff_X0_clear (fl_A fa0_10) (fl_A fa0_11) = (na0_0.toInt, na0_4.toInt, na0_8.toInt, na0_9.toInt, na0_14_0.toInt, (fl_A nfa0_10), (fl_A nfa0_11))) ∧ ax_B dC dI (va_A [(a0, .inr (0, [.int a0_0, a0g 1, a0g 2, a0g 3, .int a0_4, a0g 5, a0g 6, a0g 7, .int a0_8, .int a0_9, .ref a0_10, .ref a0_11, a0g 12, a0g 13, .ref a0_14])), (a0_14, .inr (6, [.int a0_14_0, a0_14g 1, a0_14g 2, a0_14g 3])), (a0_10, .inl (ka0_10, 9, .inl (fa0_10))), (a0_11, .inl (ka0_11, 9, .inl (fa0_11)))] sz) [(a0, .inr (0, [.int na0_0, a0g 1, a0g 2, a0g 3, .int na0_4, a0g 5, a0g 6, a0g 7, .int na0_8, .int na0_9, .ref a0_10, .ref a0_11, a0g 12, a0g 13, .ref a0_14])), (a0_14, .inr (6, [.int na0_14_0, a0_14g 1, a0_14g 2, a0_14g 3])), (a0_10, .inl (ka0_10, 9, .inl (nfa0_10))), (a0_11, .inl (ka0_11, 9, .inl (nfa0_11)))] [(ka0_10, .int), (ka0_11, .int)] t) (va_A [(a0, .inr (0, [.int a0_0, a0g 1, a0g 2, a0g 3, .int a0_4, a0g 5, a0g 6, a0g 7, .int a0_8, .int a0_9, .ref a0_10, .ref a0_11, a0g 12, a0g 13, .ref a0_14])), (a0_14, .inr (6, [.int a0_14_0, a0_14g 1, a0_14g 2, a0_14g 3])), (a0_10, .inl (ka0_10, 9, .inl (fa0_10))), (a0_11, .inl (ka0_11, 9, .inl (fa0_11)))] sz)) 0 0 (va_A [(a0, .inr (0, [.int a0_0, a0g 1, a0g 2, a0g 3, .int a0_4, a0g 5, a0g 6, a0g 7, .int a0_8, .int a0_9, .ref a0_10, .ref a0_11, a0g 12, a0g 13, .ref a0_14])), (a0_14, .inr (6, [.int a0_14_0, a0_14g 1, a0_14g 2, a0_14g 3])), (a0_10, .inl (ka0_10, 9, .inl (fa0_10))), (a0_11, .inl (ka0_11, 9, .inl (fa0_11)))] sz) := by
  refine Met.ofW (cc := cX0_clear) (maxL := 2) (ret := none) (by decide) rfl ?_
  intro p e s m args below meth c s₁ B hml hv
  obtain ⟨rfl, hsz, hP, hK, hD0, hE⟩ := hv
  have hx := B.exec
  have hb := B.bytes
  have hr := B.returns
  have hts := atoms_spec (ws := wsX0_clear) B.pre
  have hown : s.vm.findClass RX0 = some m.cls := findClass_of_methodNamed B.named
  have hlocks := B.notSynchronized
  subst hsz
  have hD := hD0.self (sz := s.heap.size)
  generalize hAe : va_A [(a0, .inr (0, [.int a0_0, a0g 1, a0g 2, a0g 3, .int a0_4, a0g 5, a0g 6, a0g 7, .int a0_8, .int a0_9, .ref a0_10, .ref a0_11, a0g 12, a0g 13, .ref a0_14])), (a0_14, .inr (6, [.int a0_14_0, a0_14g 1, a0_14g 2, a0_14g 3])), (a0_10, .inl (ka0_10, 9, .inl (fa0_10))), (a0_11, .inl (ka0_11, 9, .inl (fa0_11)))] s.heap.size = A at hD ⊢
  have hA : ∀ q : Nat, s.heap.size ≤ q → A q := fun q h => by rw [← hAe]; exact Or.inr h
  have hS : va_S A s.heap s.heap [] := va_S.rf
  have hP : va_P (dC, dI) vwCl [(a0, .inr (0, [.int a0_0, a0g 1, a0g 2, a0g 3, .int a0_4, a0g 5, a0g 6, a0g 7, .int a0_8, .int a0_9, .ref a0_10, .ref a0_11, a0g 12, a0g 13, .ref a0_14])), (a0_14, .inr (6, [.int a0_14_0, a0_14g 1, a0_14g 2, a0_14g 3])), (a0_10, .inl (ka0_10, 9, .inl (fa0_10))), (a0_11, .inl (ka0_11, 9, .inl (fa0_11)))] s.heap := hP
  have hl := lv_entry ([.ref a0]) (n := 2) (Nat.le_of_ble_eq_true rfl)
  rw [lg_entry_eq]
  generalize (lg_sl ([.ref a0]) ++ List.replicate (2 - (lg_sl ([.ref a0])).length) Slot.unset).toArray = ls at hl ⊢
  have hl : lv_has ls 2 [(0, .ref a0)] := hl
  generalize hFX : Ff_X0_clear (fl_A fa0_10) (fl_A fa0_11) = FX at ⊢
  have hF0 := hFX.symm.trans (Ff_X0_clear.eq_1 (fl_A fa0_10) (fl_A fa0_11))
  refine ai_open (fun K hK0 => ?_)
  refine (hK0 _ _ _).mpr ?_
  refine lv_aload_n hx hb dX0_clear_0 rfl (lv_at hl 0 rfl) ?_
  refine lv_iconst (v := 0) hx hb dX0_clear_1 (by decide) ?_
  refine va_put (D := (dC, dI)) (ci := 0) (v := .int 0) (ty := .int) (C := RX0) (T := TX0) (N := 15) hx hb hts (by decide +kernel) tyX0 tyX0_ok nmX0 hown hK hP hD hS 0 rfl rfl 0 (by decide) (hts (.fieldLink RX0 31 "WaxTurns$Hall" "figures" "I") (by decide +kernel)) (fun _ h9 => h9) rfl (by decide +kernel) rfl rfl (Nat.le_of_ble_eq_true rfl) dX0_clear_2 (fun H locs hP hD hS => ?_)
  have hP : va_P (dC, dI) vwCl [(a0, .inr (0, [.int 0, a0g 1, a0g 2, a0g 3, .int a0_4, a0g 5, a0g 6, a0g 7, .int a0_8, .int a0_9, .ref a0_10, .ref a0_11, a0g 12, a0g 13, .ref a0_14])), (a0_14, .inr (6, [.int a0_14_0, a0_14g 1, a0_14g 2, a0_14g 3])), (a0_10, .inl (ka0_10, 9, .inl (fa0_10))), (a0_11, .inl (ka0_11, 9, .inl (fa0_11)))] H := hP
  have hD : va_D A [(a0, .inr (0, [.int 0, a0g 1, a0g 2, a0g 3, .int a0_4, a0g 5, a0g 6, a0g 7, .int a0_8, .int a0_9, .ref a0_10, .ref a0_11, a0g 12, a0g 13, .ref a0_14])), (a0_14, .inr (6, [.int a0_14_0, a0_14g 1, a0_14g 2, a0_14g 3])), (a0_10, .inl (ka0_10, 9, .inl (fa0_10))), (a0_11, .inl (ka0_11, 9, .inl (fa0_11)))] := hD
  refine lv_aload_n hx hb dX0_clear_5 rfl (lv_at hl 0 rfl) ?_
  refine lv_iconst (v := 0) hx hb dX0_clear_6 (by decide) ?_
  refine va_put (D := (dC, dI)) (ci := 0) (v := .int 0) (ty := .boolean) (C := RX0) (T := TX0) (N := 15) hx hb hts (by decide +kernel) tyX0 tyX0_ok nmX0 hown hK hP hD hS 0 rfl rfl 4 (by decide) (hts (.fieldLink RX0 35 "WaxTurns$Hall" "lawTold" "Z") (by decide +kernel)) (fun _ h9 => h9) rfl (by decide +kernel) rfl rfl (Nat.le_of_ble_eq_true rfl) dX0_clear_7 (fun H locs hP hD hS => ?_)
  have hP : va_P (dC, dI) vwCl [(a0, .inr (0, [.int 0, a0g 1, a0g 2, a0g 3, .int 0, a0g 5, a0g 6, a0g 7, .int a0_8, .int a0_9, .ref a0_10, .ref a0_11, a0g 12, a0g 13, .ref a0_14])), (a0_14, .inr (6, [.int a0_14_0, a0_14g 1, a0_14g 2, a0_14g 3])), (a0_10, .inl (ka0_10, 9, .inl (fa0_10))), (a0_11, .inl (ka0_11, 9, .inl (fa0_11)))] H := hP
  have hD : va_D A [(a0, .inr (0, [.int 0, a0g 1, a0g 2, a0g 3, .int 0, a0g 5, a0g 6, a0g 7, .int a0_8, .int a0_9, .ref a0_10, .ref a0_11, a0g 12, a0g 13, .ref a0_14])), (a0_14, .inr (6, [.int a0_14_0, a0_14g 1, a0_14g 2, a0_14g 3])), (a0_10, .inl (ka0_10, 9, .inl (fa0_10))), (a0_11, .inl (ka0_11, 9, .inl (fa0_11)))] := hD
  refine lv_aload_n hx hb dX0_clear_10 rfl (lv_at hl 0 rfl) ?_
  refine lv_iconst (v := 0) hx hb dX0_clear_11 (by decide) ?_
  refine va_put (D := (dC, dI)) (ci := 0) (v := .int 0) (ty := .int) (C := RX0) (T := TX0) (N := 15) hx hb hts (by decide +kernel) tyX0 tyX0_ok nmX0 hown hK hP hD hS 0 rfl rfl 8 (by decide) (hts (.fieldLink RX0 39 "WaxTurns$Hall" "toldBits" "I") (by decide +kernel)) (fun _ h9 => h9) rfl (by decide +kernel) rfl rfl (Nat.le_of_ble_eq_true rfl) dX0_clear_12 (fun H locs hP hD hS => ?_)
  have hP : va_P (dC, dI) vwCl [(a0, .inr (0, [.int 0, a0g 1, a0g 2, a0g 3, .int 0, a0g 5, a0g 6, a0g 7, .int 0, .int a0_9, .ref a0_10, .ref a0_11, a0g 12, a0g 13, .ref a0_14])), (a0_14, .inr (6, [.int a0_14_0, a0_14g 1, a0_14g 2, a0_14g 3])), (a0_10, .inl (ka0_10, 9, .inl (fa0_10))), (a0_11, .inl (ka0_11, 9, .inl (fa0_11)))] H := hP
  have hD : va_D A [(a0, .inr (0, [.int 0, a0g 1, a0g 2, a0g 3, .int 0, a0g 5, a0g 6, a0g 7, .int 0, .int a0_9, .ref a0_10, .ref a0_11, a0g 12, a0g 13, .ref a0_14])), (a0_14, .inr (6, [.int a0_14_0, a0_14g 1, a0_14g 2, a0_14g 3])), (a0_10, .inl (ka0_10, 9, .inl (fa0_10))), (a0_11, .inl (ka0_11, 9, .inl (fa0_11)))] := hD
  refine lv_aload_n hx hb dX0_clear_15 rfl (lv_at hl 0 rfl) ?_
  refine lv_iconst (v := 0) hx hb dX0_clear_16 (by decide) ?_
  refine va_put (D := (dC, dI)) (ci := 0) (v := .int 0) (ty := .int) (C := RX0) (T := TX0) (N := 15) hx hb hts (by decide +kernel) tyX0 tyX0_ok nmX0 hown hK hP hD hS 0 rfl rfl 9 (by decide) (hts (.fieldLink RX0 42 "WaxTurns$Hall" "seenCount" "I") (by decide +kernel)) (fun _ h9 => h9) rfl (by decide +kernel) rfl rfl (Nat.le_of_ble_eq_true rfl) dX0_clear_17 (fun H locs hP hD hS => ?_)
  have hP : va_P (dC, dI) vwCl [(a0, .inr (0, [.int 0, a0g 1, a0g 2, a0g 3, .int 0, a0g 5, a0g 6, a0g 7, .int 0, .int 0, .ref a0_10, .ref a0_11, a0g 12, a0g 13, .ref a0_14])), (a0_14, .inr (6, [.int a0_14_0, a0_14g 1, a0_14g 2, a0_14g 3])), (a0_10, .inl (ka0_10, 9, .inl (fa0_10))), (a0_11, .inl (ka0_11, 9, .inl (fa0_11)))] H := hP
  have hD : va_D A [(a0, .inr (0, [.int 0, a0g 1, a0g 2, a0g 3, .int 0, a0g 5, a0g 6, a0g 7, .int 0, .int 0, .ref a0_10, .ref a0_11, a0g 12, a0g 13, .ref a0_14])), (a0_14, .inr (6, [.int a0_14_0, a0_14g 1, a0_14g 2, a0_14g 3])), (a0_10, .inl (ka0_10, 9, .inl (fa0_10))), (a0_11, .inl (ka0_11, 9, .inl (fa0_11)))] := hD
  refine lv_aload_n hx hb dX0_clear_20 rfl (lv_at hl 0 rfl) ?_
  refine va_get (D := (dC, dI)) (ci := 0) (v := .ref a0_14) (C := RX0) (T := TX0) (N := 15) hx hb hts (by decide +kernel) hown hK hP 0 rfl rfl 14 (by decide) (hts (.fieldLink RX0 27 "WaxTurns$Hall" "watchers" "LWaxTurns$Watchers;") (by decide +kernel)) (fun _ h9 => h9) rfl dX0_clear_21 ?_
  refine lv_iconst (v := 0) hx hb dX0_clear_24 (by decide) ?_
  refine va_put (D := (dC, dI)) (ci := 6) (v := .int 0) (ty := .int) (C := RX6) (T := TX6) (N := 4) hx hb hts (by decide +kernel) tyX6 tyX6_ok nmX6 hown hK hP hD hS 1 rfl rfl 0 (by decide) (hts (.fieldLink RX0 45 "WaxTurns$Watchers" "count" "I") (by decide +kernel)) (fun _ h9 => h9) rfl (by decide +kernel) rfl rfl (Nat.le_of_ble_eq_true rfl) dX0_clear_25 (fun H locs hP hD hS => ?_)
  have hP : va_P (dC, dI) vwCl [(a0, .inr (0, [.int 0, a0g 1, a0g 2, a0g 3, .int 0, a0g 5, a0g 6, a0g 7, .int 0, .int 0, .ref a0_10, .ref a0_11, a0g 12, a0g 13, .ref a0_14])), (a0_14, .inr (6, [.int 0, a0_14g 1, a0_14g 2, a0_14g 3])), (a0_10, .inl (ka0_10, 9, .inl (fa0_10))), (a0_11, .inl (ka0_11, 9, .inl (fa0_11)))] H := hP
  have hD : va_D A [(a0, .inr (0, [.int 0, a0g 1, a0g 2, a0g 3, .int 0, a0g 5, a0g 6, a0g 7, .int 0, .int 0, .ref a0_10, .ref a0_11, a0g 12, a0g 13, .ref a0_14])), (a0_14, .inr (6, [.int 0, a0_14g 1, a0_14g 2, a0_14g 3])), (a0_10, .inl (ka0_10, 9, .inl (fa0_10))), (a0_11, .inl (ka0_11, 9, .inl (fa0_11)))] := hD
  refine lv_iconst (v := 0) hx hb dX0_clear_28 (by decide) ?_
  refine lv_istore_n (lv' := [(1, .int 0), (0, .ref a0)]) hx hb dX0_clear_29 rfl hl (by decide) rfl (fun ls hl => ?_)
  have J30 : ∀ (n : Nat) (j30l1 : Int32) (j30a0_10_a : Nat → Int32) (j30a0_11_a : Nat → Int32) (H : Heap) (locs : List Loc) (ls : Array Slot), (10 : Int) - j30l1.toInt ≤ (n : Int) → (0 : Int) ≤ j30l1.toInt → j30l1.toInt ≤ (9 : Int) → (FX = fl_wh (fun t9 => Sf_X0_clear_30_1  t9.1 t9.2.1 t9.2.2) (0, 0, 0, 0, 0, (fun _ => 0), (fun _ => 0)) n (j30l1.toInt, (fl_A j30a0_10_a), (fl_A j30a0_11_a))) → va_P (dC, dI) vwCl [(a0, .inr (0, [.int 0, a0g 1, a0g 2, a0g 3, .int 0, a0g 5, a0g 6, a0g 7, .int 0, .int 0, .ref a0_10, .ref a0_11, a0g 12, a0g 13, .ref a0_14])), (a0_14, .inr (6, [.int 0, a0_14g 1, a0_14g 2, a0_14g 3])), (a0_10, .inl (ka0_10, 9, .inl (j30a0_10_a))), (a0_11, .inl (ka0_11, 9, .inl (j30a0_11_a)))] H → va_D A [(a0, .inr (0, [.int 0, a0g 1, a0g 2, a0g 3, .int 0, a0g 5, a0g 6, a0g 7, .int 0, .int 0, .ref a0_10, .ref a0_11, a0g 12, a0g 13, .ref a0_14])), (a0_14, .inr (6, [.int 0, a0_14g 1, a0_14g 2, a0_14g 3])), (a0_10, .inl (ka0_10, 9, .inl (j30a0_10_a))), (a0_11, .inl (ka0_11, 9, .inl (j30a0_11_a)))] → va_S A s.heap H locs → lv_has ls 2 [(0, .ref a0), (1, .int j30l1)] → K H locs (F0 m 30 ls []) := by
    intro n
    induction n with
    | zero =>
      intro j30l1 j30a0_10_a j30a0_11_a H locs ls hm bj30l1_l bj30l1_u hF0 hP hD hS hl
      have h8 := ai_min j30l1
      have h9 := ai_max j30l1
      exact absurd hm (by omega)
    | succ n ih30 =>
      intro j30l1 j30a0_10_a j30a0_11_a H locs ls hm bj30l1_l bj30l1_u hF0 hP hD hS hl
      refine (hK0 _ _ _).mpr ?_
      have hm30 := hm
      obtain ⟨SX30, hSX30⟩ : ∃ q9, Sf_X0_clear_30_1  j30l1.toInt (fl_A j30a0_10_a) (fl_A j30a0_11_a) = q9 := ⟨_, rfl⟩
      have hF1 := hSX30.symm.trans (Sf_X0_clear_30_1.eq_1  j30l1.toInt (fl_A j30a0_10_a) (fl_A j30a0_11_a))
      refine lv_iload_n hx hb dX0_clear_30 rfl (lv_at hl 1 rfl) ?_
      refine lv_bipush (v := 9) hx hb dX0_clear_31 (by decide) ?_
      refine lv_icmp_ge (tgt := 56) hx hb dX0_clear_33 (by decide) (fun c33 => ?_) (fun c33 => ?_)
      · have gc33 := ai_le c33
        have l33t_j30l1 : (9 : Int) ≤ j30l1.toInt := Int.le_trans (by decide : (9 : Int) ≤ (9 : Int32).toInt) gc33
        have hF1 := hF1.trans (if_pos (show 9 ≤ j30l1.toInt from gc33))
        have hF0 := hF0.trans (fl_wh_r (hSX30.trans hF1))
        have hFe : FX = (0, 0, 0, 0, 0, (fl_A j30a0_10_a), (fl_A j30a0_11_a)) := hF0
        exact W.vret hx hb hr (fun t ht hW => ⟨⟨(), rfl, trivial, 0, 0, 0, 0, 0, j30a0_10_a, j30a0_11_a, ⟨(by decide : (0 : Int) ≤ (0 : Int32).toInt), Int.le_trans (by decide : (0 : Int32).toInt ≤ (0 : Int)) (by decide)⟩, ⟨(by decide : (0 : Int) ≤ (0 : Int32).toInt), Int.le_trans (by decide : (0 : Int32).toInt ≤ (0 : Int)) (by decide)⟩, ⟨(by decide : (0 : Int) ≤ (0 : Int32).toInt), Int.le_trans (by decide : (0 : Int32).toInt ≤ (0 : Int)) (by decide)⟩, ⟨(by decide : (0 : Int) ≤ (0 : Int32).toInt), Int.le_trans (by decide : (0 : Int32).toInt ≤ (0 : Int)) (by decide)⟩, hFe, by rw [ht]; exact hP, va_K.moved hW.alike hK, hD⟩, hS.F ht⟩) hS.2.2 dX0_clear_56
      · have gc33 := ai_nle c33
        have u33f_j30l1 : j30l1.toInt ≤ (8 : Int) := ai_lthi gc33 (by decide : (9 : Int32).toInt ≤ (9 : Int))
        have hF1 := hF1.trans (if_neg (show ¬ (9 ≤ j30l1.toInt) from Int.not_le.mpr gc33))
        refine lv_aload_n hx hb dX0_clear_36 rfl (lv_at hl 0 rfl) ?_
        refine va_get (D := (dC, dI)) (ci := 0) (v := .ref a0_10) (C := RX0) (T := TX0) (N := 15) hx hb hts (by decide +kernel) hown hK hP 0 rfl rfl 10 (by decide) (hts (.fieldLink RX0 9 "WaxTurns$Hall" "kinds" "[I") (by decide +kernel)) (fun _ h9 => h9) rfl dX0_clear_37 ?_
        refine lv_iload_n hx hb dX0_clear_40 rfl (lv_at hl 1 rfl) ?_
        refine lv_iconst (v := 0) hx hb dX0_clear_41 (by decide) ?_
        refine va_iast hx hb hK hP hD hS 2 0 rfl rfl (ai_in bj30l1_l u33f_j30l1 (by decide) (by decide)) dX0_clear_42 (fun H locs hP hD hS => ?_)
        obtain ⟨f42, ef42⟩ : ∃ g9 : Nat → Int32, g9 = upd j30a0_10_a (j30l1 : Int32).toNatClampNeg (0 : Int32) := ⟨_, rfl⟩
        rw [← ef42] at hP hD
        have hP : va_P (dC, dI) vwCl [(a0, .inr (0, [.int 0, a0g 1, a0g 2, a0g 3, .int 0, a0g 5, a0g 6, a0g 7, .int 0, .int 0, .ref a0_10, .ref a0_11, a0g 12, a0g 13, .ref a0_14])), (a0_14, .inr (6, [.int 0, a0_14g 1, a0_14g 2, a0_14g 3])), (a0_10, .inl (ka0_10, 9, .inl (f42))), (a0_11, .inl (ka0_11, 9, .inl (j30a0_11_a)))] H := hP
        have hD : va_D A [(a0, .inr (0, [.int 0, a0g 1, a0g 2, a0g 3, .int 0, a0g 5, a0g 6, a0g 7, .int 0, .int 0, .ref a0_10, .ref a0_11, a0g 12, a0g 13, .ref a0_14])), (a0_14, .inr (6, [.int 0, a0_14g 1, a0_14g 2, a0_14g 3])), (a0_10, .inl (ka0_10, 9, .inl (f42))), (a0_11, .inl (ka0_11, 9, .inl (j30a0_11_a)))] := hD
        have hF1 := hF1.trans (fl_lt_eq (show (fl_A f42) = fl_up (fl_A j30a0_10_a) (j30l1.toInt.toNat) 0 from fl_up_eq ef42))
        refine lv_aload_n hx hb dX0_clear_43 rfl (lv_at hl 0 rfl) ?_
        refine va_get (D := (dC, dI)) (ci := 0) (v := .ref a0_11) (C := RX0) (T := TX0) (N := 15) hx hb hts (by decide +kernel) hown hK hP 0 rfl rfl 11 (by decide) (hts (.fieldLink RX0 15 "WaxTurns$Hall" "measures" "[I") (by decide +kernel)) (fun _ h9 => h9) rfl dX0_clear_44 ?_
        refine lv_iload_n hx hb dX0_clear_47 rfl (lv_at hl 1 rfl) ?_
        refine lv_iconst (v := 0) hx hb dX0_clear_48 (by decide) ?_
        refine va_iast hx hb hK hP hD hS 3 1 rfl rfl (ai_in bj30l1_l u33f_j30l1 (by decide) (by decide)) dX0_clear_49 (fun H locs hP hD hS => ?_)
        obtain ⟨f49, ef49⟩ : ∃ g9 : Nat → Int32, g9 = upd j30a0_11_a (j30l1 : Int32).toNatClampNeg (0 : Int32) := ⟨_, rfl⟩
        rw [← ef49] at hP hD
        have hP : va_P (dC, dI) vwCl [(a0, .inr (0, [.int 0, a0g 1, a0g 2, a0g 3, .int 0, a0g 5, a0g 6, a0g 7, .int 0, .int 0, .ref a0_10, .ref a0_11, a0g 12, a0g 13, .ref a0_14])), (a0_14, .inr (6, [.int 0, a0_14g 1, a0_14g 2, a0_14g 3])), (a0_10, .inl (ka0_10, 9, .inl (f42))), (a0_11, .inl (ka0_11, 9, .inl (f49)))] H := hP
        have hD : va_D A [(a0, .inr (0, [.int 0, a0g 1, a0g 2, a0g 3, .int 0, a0g 5, a0g 6, a0g 7, .int 0, .int 0, .ref a0_10, .ref a0_11, a0g 12, a0g 13, .ref a0_14])), (a0_14, .inr (6, [.int 0, a0_14g 1, a0_14g 2, a0_14g 3])), (a0_10, .inl (ka0_10, 9, .inl (f42))), (a0_11, .inl (ka0_11, 9, .inl (f49)))] := hD
        have hF1 := hF1.trans (fl_lt_eq (show (fl_A f49) = fl_up (fl_A j30a0_11_a) (j30l1.toInt.toNat) 0 from fl_up_eq ef49))
        obtain ⟨x50, ex50⟩ : ∃ y : Int32, y = j30l1 + Int32.ofInt 1 := ⟨_, rfl⟩
        have qx50 : x50.toInt = j30l1.toInt + 1 := ai_inc ex50 (by decide) (by decide) u33f_j30l1 (by decide)
        have bx50 : (1 : Int) ≤ x50.toInt ∧ x50.toInt ≤ 9 := ⟨by rw [qx50]; exact Int.add_le_add bj30l1_l (Int.le_refl _), by rw [qx50]; exact Int.add_le_add u33f_j30l1 (Int.le_refl _)⟩
        refine lv_iinc (v := x50) (lv' := [(1, .int x50), (0, .ref a0)]) hx hb dX0_clear_50 hl (k := 1) rfl ex50.symm (by decide) rfl (fun ls hl => ?_)
        have hF1 := hF1.trans (fl_lt_eq (show x50.toInt = j30l1.toInt + 1 from qx50))
        refine lv_goto (tgt := 30) hx hb dX0_clear_53 (by decide) ?_
        exact (hK0 _ _ _).mp (ih30 x50 f42 f49 _ _ _ (by have h0 := qx50; omega) (Int.le_trans (by decide : (0 : Int) ≤ 1) bx50.1) bx50.2 (hF0.trans (fl_wh_l (hSX30.trans hF1))) hP hD hS (lv_sub hl [1, 0] rfl))
  exact (hK0 _ _ _).mp (J30 10 0 fa0_10 fa0_11 _ _ _ (by have h1 : (0 : Int) ≤ (0 : Int32).toInt := (by decide : (0 : Int) ≤ (0 : Int32).toInt); have h2 : (0 : Int32).toInt ≤ (0 : Int) := (by decide : (0 : Int32).toInt ≤ (0 : Int)); omega) (by decide : (0 : Int) ≤ (0 : Int32).toInt) (Int.le_trans (by decide : (0 : Int32).toInt ≤ (0 : Int)) (by decide : (0 : Int) ≤ 9)) (by rw [show (0 : Int32).toInt = 0 from by decide]; exact hF0) hP hD hS (lv_sub hl [1, 0] rfl))

