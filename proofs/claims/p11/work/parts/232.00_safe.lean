set_option maxHeartbeats 4000000 in
set_option maxRecDepth 100000 in
theorem c_X8_goRound (l : Launch) (dC : Nat → ClassId) (dI : Nat → Nat → Nat) (sz : Nat) (a0 : Nat) (a0g_0 a0g_1 a0g_2 a0g_3 a0g_4 a0g_5 a0g_6 a0g_7 a0g_8 a0g_9 a0g_10 a0g_11 a0g_12 a0g_13 a0g_14 a0g_16 a0g_18 a0g_19 a0g_20 a0g_21 a0g_22 a0g_23 a0g_24 a0g_25 a0g_26 a0g_27 a0g_28 a0g_32 a0g_33 a0g_34 a0g_35 a0g_36 a0g_37 a0g_38 a0g_39 : Value) (a0_15 : Nat) (a0_17 : Nat) (a0_29 : Nat) (a0_30 : Int32) (a0_31 : Int32) (ka0_17 : ClassId) (fa0_17 : Nat → Int32) (ka0_29 : ClassId) (fa0_29 : Nat → Int32) (ka0_15 : ClassId) (fa0_15 : Nat → Int32) (bfa0_17 : ((∀ k : Nat, 0 ≤ k → k ≤ 8 → (0 : Int) ≤ (fa0_17 k).toInt ∧ (fa0_17 k).toInt ≤ 8) ∧ (∀ k : Nat, 19 ≤ k → k ≤ 19 → (0 : Int) ≤ (fa0_17 k).toInt ∧ (fa0_17 k).toInt ≤ 8) ∧ (∀ k : Nat, 20 ≤ k → k ≤ 20 → (0 : Int) ≤ (fa0_17 k).toInt ∧ (fa0_17 k).toInt ≤ 19))) (bfa0_29 : (∀ k, (0 : Int) ≤ (fa0_29 k).toInt ∧ (fa0_29 k).toInt ≤ 8)) (bfa0_15 : ((∀ k : Nat, 0 ≤ k → k ≤ 0 → (2 : Int) ≤ (fa0_15 k).toInt ∧ (fa0_15 k).toInt ≤ 9) ∧ (∀ k : Nat, 1 ≤ k → k ≤ 1 → (1 : Int) ≤ (fa0_15 k).toInt ∧ (fa0_15 k).toInt ≤ 20) ∧ (∀ k : Nat, 2 ≤ k → k ≤ 2 → (0 : Int) ≤ (fa0_15 k).toInt ∧ (fa0_15 k).toInt ≤ 8) ∧ (∀ k : Nat, 3 ≤ k → k ≤ 3 → (0 : Int) ≤ (fa0_15 k).toInt ∧ (fa0_15 k).toInt ≤ 100) ∧ (∀ k : Nat, 4 ≤ k → k ≤ 4 → (0 : Int) ≤ (fa0_15 k).toInt ∧ (fa0_15 k).toInt ≤ 9) ∧ (∀ k : Nat, 5 ≤ k → k ≤ 5 → (0 : Int) ≤ (fa0_15 k).toInt ∧ (fa0_15 k).toInt ≤ 3) ∧ (∀ k : Nat, 6 ≤ k → k ≤ 6 → (0 : Int) ≤ (fa0_15 k).toInt ∧ (fa0_15 k).toInt ≤ 6) ∧ (∀ k : Nat, 7 ≤ k → k ≤ 9 → (0 : Int) ≤ (fa0_15 k).toInt ∧ (fa0_15 k).toInt ≤ 8) ∧ (∀ k : Nat, 12 ≤ k → k ≤ 29 → (0 : Int) ≤ (fa0_15 k).toInt ∧ (fa0_15 k).toInt ≤ 20) ∧ (∀ k : Nat, 30 ≤ k → k ≤ 35 → (0 : Int) ≤ (fa0_15 k).toInt ∧ (fa0_15 k).toInt ≤ 8) ∧ (∀ k : Nat, 36 ≤ k → k ≤ 47 → (0 : Int) ≤ (fa0_15 k).toInt ∧ (fa0_15 k).toInt ≤ 999))) : Met l yX8_goRound wsX8_goRound ({ frames := 1, cells := 0, slots := 0, locals := 21 }) (va_Pc [.ref a0] (ax_C dC dI sz [(a0, .inr (8, [a0g_0, a0g_1, a0g_2, a0g_3, a0g_4, a0g_5, a0g_6, a0g_7, a0g_8, a0g_9, a0g_10, a0g_11, a0g_12, a0g_13, a0g_14, Value.ref a0_15, a0g_16, Value.ref a0_17, a0g_18, a0g_19, a0g_20, a0g_21, a0g_22, a0g_23, a0g_24, a0g_25, a0g_26, a0g_27, a0g_28, Value.ref a0_29, Value.int a0_30, Value.int a0_31, a0g_32, a0g_33, a0g_34, a0g_35, a0g_36, a0g_37, a0g_38, a0g_39])), (a0_17, .inl (ka0_17, 23, .inl (fa0_17))), (a0_29, .inl (ka0_29, 10, .inl (fa0_29))), (a0_15, .inl (ka0_15, 156, .inl (fa0_15)))] [(ka0_17, .int), (ka0_29, .int), (ka0_15, .int)] (fun _ => True))) (va_Qv (fun (_ : Unit) => True) (fun (_ : Unit) (t : State) => ∃ na0_30 : Int32, ∃ na0_31 : Int32, ∃ nfa0_29 : Nat → Int32, (∀ k, (0 : Int) ≤ (nfa0_29 k).toInt ∧ (nfa0_29 k).toInt ≤ 8) ∧ ((0 : Int) ≤ na0_30.toInt ∧ (1 : Int) ≤ na0_31.toInt ∧ na0_30.toInt + na0_31.toInt ≤ 9) ∧ ax_B dC dI (va_A [(a0, .inr (8, [a0g_0, a0g_1, a0g_2, a0g_3, a0g_4, a0g_5, a0g_6, a0g_7, a0g_8, a0g_9, a0g_10, a0g_11, a0g_12, a0g_13, a0g_14, Value.ref a0_15, a0g_16, Value.ref a0_17, a0g_18, a0g_19, a0g_20, a0g_21, a0g_22, a0g_23, a0g_24, a0g_25, a0g_26, a0g_27, a0g_28, Value.ref a0_29, Value.int a0_30, Value.int a0_31, a0g_32, a0g_33, a0g_34, a0g_35, a0g_36, a0g_37, a0g_38, a0g_39])), (a0_17, .inl (ka0_17, 23, .inl (fa0_17))), (a0_29, .inl (ka0_29, 10, .inl (fa0_29))), (a0_15, .inl (ka0_15, 156, .inl (fa0_15)))] sz) [(a0, .inr (8, [a0g_0, a0g_1, a0g_2, a0g_3, a0g_4, a0g_5, a0g_6, a0g_7, a0g_8, a0g_9, a0g_10, a0g_11, a0g_12, a0g_13, a0g_14, Value.ref a0_15, a0g_16, Value.ref a0_17, a0g_18, a0g_19, a0g_20, a0g_21, a0g_22, a0g_23, a0g_24, a0g_25, a0g_26, a0g_27, a0g_28, Value.ref a0_29, Value.int na0_30, Value.int na0_31, a0g_32, a0g_33, a0g_34, a0g_35, a0g_36, a0g_37, a0g_38, a0g_39])), (a0_17, .inl (ka0_17, 23, .inl (fa0_17))), (a0_29, .inl (ka0_29, 10, .inl (nfa0_29))), (a0_15, .inl (ka0_15, 156, .inl (fa0_15)))] [(ka0_17, .int), (ka0_29, .int), (ka0_15, .int)] t) (va_A [(a0, .inr (8, [a0g_0, a0g_1, a0g_2, a0g_3, a0g_4, a0g_5, a0g_6, a0g_7, a0g_8, a0g_9, a0g_10, a0g_11, a0g_12, a0g_13, a0g_14, Value.ref a0_15, a0g_16, Value.ref a0_17, a0g_18, a0g_19, a0g_20, a0g_21, a0g_22, a0g_23, a0g_24, a0g_25, a0g_26, a0g_27, a0g_28, Value.ref a0_29, Value.int a0_30, Value.int a0_31, a0g_32, a0g_33, a0g_34, a0g_35, a0g_36, a0g_37, a0g_38, a0g_39])), (a0_17, .inl (ka0_17, 23, .inl (fa0_17))), (a0_29, .inl (ka0_29, 10, .inl (fa0_29))), (a0_15, .inl (ka0_15, 156, .inl (fa0_15)))] sz)) 0 0 (va_A [(a0, .inr (8, [a0g_0, a0g_1, a0g_2, a0g_3, a0g_4, a0g_5, a0g_6, a0g_7, a0g_8, a0g_9, a0g_10, a0g_11, a0g_12, a0g_13, a0g_14, Value.ref a0_15, a0g_16, Value.ref a0_17, a0g_18, a0g_19, a0g_20, a0g_21, a0g_22, a0g_23, a0g_24, a0g_25, a0g_26, a0g_27, a0g_28, Value.ref a0_29, Value.int a0_30, Value.int a0_31, a0g_32, a0g_33, a0g_34, a0g_35, a0g_36, a0g_37, a0g_38, a0g_39])), (a0_17, .inl (ka0_17, 23, .inl (fa0_17))), (a0_29, .inl (ka0_29, 10, .inl (fa0_29))), (a0_15, .inl (ka0_15, 156, .inl (fa0_15)))] sz) := by
  refine Met.ofW (cc := cX8_goRound) (maxL := 4) (ret := none) (by decide) rfl ?_
  intro p e s m args below meth c s₁ B hml hv
  obtain ⟨rfl, hsz, hP, hK, hD0, hE⟩ := hv
  have hx := B.exec
  have hb := B.bytes
  have hr := B.returns
  have hts := atoms_spec (ws := wsX8_goRound) B.pre
  have hown : s.vm.findClass RX8 = some m.cls := findClass_of_methodNamed B.named
  have hlocks := B.notSynchronized
  subst hsz
  have hD := hD0.self (sz := s.heap.size)
  generalize hAe : va_A [(a0, .inr (8, [a0g_0, a0g_1, a0g_2, a0g_3, a0g_4, a0g_5, a0g_6, a0g_7, a0g_8, a0g_9, a0g_10, a0g_11, a0g_12, a0g_13, a0g_14, Value.ref a0_15, a0g_16, Value.ref a0_17, a0g_18, a0g_19, a0g_20, a0g_21, a0g_22, a0g_23, a0g_24, a0g_25, a0g_26, a0g_27, a0g_28, Value.ref a0_29, Value.int a0_30, Value.int a0_31, a0g_32, a0g_33, a0g_34, a0g_35, a0g_36, a0g_37, a0g_38, a0g_39])), (a0_17, .inl (ka0_17, 23, .inl (fa0_17))), (a0_29, .inl (ka0_29, 10, .inl (fa0_29))), (a0_15, .inl (ka0_15, 156, .inl (fa0_15)))] s.heap.size = A at hD ⊢
  have hA : ∀ q : Nat, s.heap.size ≤ q → A q := fun q h => by rw [← hAe]; exact Or.inr h
  have hS : va_S A s.heap s.heap [] := va_S.rf
  have hP : va_P (dC, dI) vwCl [(a0, .inr (8, [a0g_0, a0g_1, a0g_2, a0g_3, a0g_4, a0g_5, a0g_6, a0g_7, a0g_8, a0g_9, a0g_10, a0g_11, a0g_12, a0g_13, a0g_14, Value.ref a0_15, a0g_16, Value.ref a0_17, a0g_18, a0g_19, a0g_20, a0g_21, a0g_22, a0g_23, a0g_24, a0g_25, a0g_26, a0g_27, a0g_28, Value.ref a0_29, Value.int a0_30, Value.int a0_31, a0g_32, a0g_33, a0g_34, a0g_35, a0g_36, a0g_37, a0g_38, a0g_39])), (a0_17, .inl (ka0_17, 23, .inl (fa0_17))), (a0_29, .inl (ka0_29, 10, .inl (fa0_29))), (a0_15, .inl (ka0_15, 156, .inl (fa0_15)))] s.heap := hP
  have hl := lv_entry ([.ref a0]) (n := 4) (Nat.le_of_ble_eq_true rfl)
  rw [lg_entry_eq]
  generalize (lg_sl ([.ref a0]) ++ List.replicate (4 - (lg_sl ([.ref a0])).length) Slot.unset).toArray = ls at hl ⊢
  have hl : lv_has ls 4 [(0, .ref a0)] := hl
  refine ai_open (fun K hK0 => ?_)
  refine (hK0 _ _ _).mpr ?_
  refine lv_iconst (v := 0) hx hb dX8_goRound_0 zk_iconst_0 ?_
  refine lv_istore_n (lv' := [(1, .int 0), (0, .ref a0)]) hx hb dX8_goRound_1 rfl hl (by decide) rfl (fun ls hl => ?_)
  refine lv_aload_n hx hb dX8_goRound_2 rfl (lv_at hl 1 rfl) ?_
  refine va_get (D := (dC, dI)) (ci := 8) (v := .ref a0_17) (C := RX8) (T := TX8) (N := 40) hx hb hts zi_X8_goRound_8 hown hK hP 0 rfl rfl 17 (by decide) (hts (.fieldLink RX8 26 "WaxTurnsModel" "st" "[I") (List.mem_cons_of_mem _ (List.mem_append_left _ (List.mem_of_getElem? (i := 0) rfl)))) (fun _ h9 => h9) rfl dX8_goRound_3 ?_
  refine lv_bipush (v := 19) hx hb dX8_goRound_6 zk_bipush_19 ?_
  refine va_iald hx hb hK hP 1 0 rfl rfl (by unfold vp_in; decide +kernel) dX8_goRound_8 ?_
  refine lv_topi (fun x8 ex8 => ?_)
  have bx8 : (0 : Int) ≤ x8.toInt ∧ x8.toInt ≤ 8 := by rw [ex8]; exact ai_rd bfa0_17.2.1 zq160 zq161 (by decide) (by decide) (by decide)
  refine lv_istore_n (lv' := [(2, .int x8), (1, .int 0), (0, .ref a0)]) hx hb dX8_goRound_9 rfl hl (by decide) rfl (fun ls hl => ?_)
  refine lv_aload_n hx hb dX8_goRound_10 rfl (lv_at hl 2 rfl) ?_
  refine lv_iconst (v := (-1)) hx hb dX8_goRound_11 zk_iconst_n1 ?_
  refine va_put (D := (dC, dI)) (ci := 8) (v := .int (-1)) (ty := .int) (C := RX8) (T := TX8) (N := 40) hx hb hts zi_X8_goRound_8 tyX8 tyX8_ok nmX8 hown hK hP hD hS 0 rfl rfl 30 (by decide) (hts (.fieldLink RX8 283 "WaxTurnsModel" "settled" "I") (List.mem_cons_of_mem _ (List.mem_append_left _ (List.mem_of_getElem? (i := 1) rfl)))) (fun _ h9 => h9) rfl (tyX8_ok 30 (by decide)) rfl rfl (Nat.le_of_ble_eq_true rfl) dX8_goRound_12 (fun H locs hP hD hS => ?_)
  obtain ⟨hP, hD⟩ := zc_re (w := [(a0, .inr (8, [a0g_0, a0g_1, a0g_2, a0g_3, a0g_4, a0g_5, a0g_6, a0g_7, a0g_8, a0g_9, a0g_10, a0g_11, a0g_12, a0g_13, a0g_14, Value.ref a0_15, a0g_16, Value.ref a0_17, a0g_18, a0g_19, a0g_20, a0g_21, a0g_22, a0g_23, a0g_24, a0g_25, a0g_26, a0g_27, a0g_28, Value.ref a0_29, Value.int (-1), Value.int a0_31, a0g_32, a0g_33, a0g_34, a0g_35, a0g_36, a0g_37, a0g_38, a0g_39])), (a0_17, .inl (ka0_17, 23, .inl (fa0_17))), (a0_29, .inl (ka0_29, 10, .inl (fa0_29))), (a0_15, .inl (ka0_15, 156, .inl (fa0_15)))]) hP hD rfl
  have J15 : ∀ (n : Nat) (j15l2 : Int32) (j15l1 : Int32) (j15a0_30 : Int32) (j15a0_29_a : Nat → Int32) (H : Heap) (locs : List Loc) (ls : Array Slot), (13 : Int) - j15l1.toInt ≤ (n : Int) → (0 : Int) ≤ j15l2.toInt → j15l2.toInt ≤ (8 : Int) → (0 : Int) ≤ j15l1.toInt → j15l1.toInt ≤ (12 : Int) → (∀ k, (0 : Int) ≤ (j15a0_29_a k).toInt ∧ (j15a0_29_a k).toInt ≤ 8) → (gr_D j15a0_29_a j15l1.toNatClampNeg) → (j15a0_30.toInt = -1) → va_P (dC, dI) vwCl [(a0, .inr (8, [a0g_0, a0g_1, a0g_2, a0g_3, a0g_4, a0g_5, a0g_6, a0g_7, a0g_8, a0g_9, a0g_10, a0g_11, a0g_12, a0g_13, a0g_14, Value.ref a0_15, a0g_16, Value.ref a0_17, a0g_18, a0g_19, a0g_20, a0g_21, a0g_22, a0g_23, a0g_24, a0g_25, a0g_26, a0g_27, a0g_28, Value.ref a0_29, Value.int j15a0_30, Value.int a0_31, a0g_32, a0g_33, a0g_34, a0g_35, a0g_36, a0g_37, a0g_38, a0g_39])), (a0_17, .inl (ka0_17, 23, .inl (fa0_17))), (a0_29, .inl (ka0_29, 10, .inl (j15a0_29_a))), (a0_15, .inl (ka0_15, 156, .inl (fa0_15)))] H → va_D A [(a0, .inr (8, [a0g_0, a0g_1, a0g_2, a0g_3, a0g_4, a0g_5, a0g_6, a0g_7, a0g_8, a0g_9, a0g_10, a0g_11, a0g_12, a0g_13, a0g_14, Value.ref a0_15, a0g_16, Value.ref a0_17, a0g_18, a0g_19, a0g_20, a0g_21, a0g_22, a0g_23, a0g_24, a0g_25, a0g_26, a0g_27, a0g_28, Value.ref a0_29, Value.int j15a0_30, Value.int a0_31, a0g_32, a0g_33, a0g_34, a0g_35, a0g_36, a0g_37, a0g_38, a0g_39])), (a0_17, .inl (ka0_17, 23, .inl (fa0_17))), (a0_29, .inl (ka0_29, 10, .inl (j15a0_29_a))), (a0_15, .inl (ka0_15, 156, .inl (fa0_15)))] → va_S A s.heap H locs → lv_has ls 4 [(0, .ref a0), (1, .int j15l1), (2, .int j15l2)] → K H locs (F0 m 15 ls []) := by
    intro n
    induction n with
    | zero =>
      intro j15l2 j15l1 j15a0_30 j15a0_29_a H locs ls hm bj15l2_l bj15l2_u bj15l1_l bj15l1_u bj15a0_29_a gr15 sm15 hP hD hS hl
      have h8 := ai_min j15l1
      have h9 := ai_max j15l1
      exact absurd hm (by omega)
    | succ n ih15 =>
      intro j15l2 j15l1 j15a0_30 j15a0_29_a H locs ls hm bj15l2_l bj15l2_u bj15l1_l bj15l1_u bj15a0_29_a gr15 sm15 hP hD hS hl
      refine (hK0 _ _ _).mpr ?_
      have hm15 := hm
      refine lv_aload_n hx hb dX8_goRound_15 rfl (lv_at hl 0 rfl) ?_
      refine va_get (D := (dC, dI)) (ci := 8) (v := .int j15a0_30) (C := RX8) (T := TX8) (N := 40) hx hb hts zi_X8_goRound_8 hown hK hP 0 rfl rfl 30 (by decide) (hts (.fieldLink RX8 283 "WaxTurnsModel" "settled" "I") (List.mem_cons_of_mem _ (List.mem_append_left _ (List.mem_of_getElem? (i := 1) rfl)))) (fun _ h9 => h9) rfl dX8_goRound_16 ?_
      refine lv_if_ge (tgt := 79) hx hb dX8_goRound_19 (by decide) (fun c19 => ?_) (fun c19 => ?_)
      · have gc19 := ai_le c19
        have l19t_j15a0_30 : (0 : Int) ≤ j15a0_30.toInt := Int.le_trans zq5 gc19
        exact absurd (Int.le_trans l19t_j15a0_30 (Int.le_of_eq sm15)) (by decide)
      · have gc19 := ai_nle c19
        have u19f_j15a0_30 : j15a0_30.toInt ≤ (-1 : Int) := (Int.le_of_eq sm15)
        refine lv_iconst (v := 0) hx hb dX8_goRound_22 zk_iconst_0 ?_
        have u22z_j15l1 : j15l1.toInt ≤ (9 : Int) := gr_i gr15
        refine lv_istore_n (lv' := [(3, .int 0), (0, .ref a0), (1, .int j15l1), (2, .int j15l2)]) hx hb dX8_goRound_23 rfl hl (by decide) rfl (fun ls hl => ?_)
        have J24 : ∀ (n : Nat) (j24l3 : Int32) (j24a0_30 : Int32) (H : Heap) (locs : List Loc) (ls : Array Slot), (10 : Int) - j24l3.toInt ≤ (n : Int) → (0 : Int) ≤ j24l3.toInt → j24l3.toInt ≤ (9 : Int) → (gr_K j15a0_29_a j24a0_30 j24l3 j15l2 j15l1) → va_P (dC, dI) vwCl [(a0, .inr (8, [a0g_0, a0g_1, a0g_2, a0g_3, a0g_4, a0g_5, a0g_6, a0g_7, a0g_8, a0g_9, a0g_10, a0g_11, a0g_12, a0g_13, a0g_14, Value.ref a0_15, a0g_16, Value.ref a0_17, a0g_18, a0g_19, a0g_20, a0g_21, a0g_22, a0g_23, a0g_24, a0g_25, a0g_26, a0g_27, a0g_28, Value.ref a0_29, Value.int j24a0_30, Value.int a0_31, a0g_32, a0g_33, a0g_34, a0g_35, a0g_36, a0g_37, a0g_38, a0g_39])), (a0_17, .inl (ka0_17, 23, .inl (fa0_17))), (a0_29, .inl (ka0_29, 10, .inl (j15a0_29_a))), (a0_15, .inl (ka0_15, 156, .inl (fa0_15)))] H → va_D A [(a0, .inr (8, [a0g_0, a0g_1, a0g_2, a0g_3, a0g_4, a0g_5, a0g_6, a0g_7, a0g_8, a0g_9, a0g_10, a0g_11, a0g_12, a0g_13, a0g_14, Value.ref a0_15, a0g_16, Value.ref a0_17, a0g_18, a0g_19, a0g_20, a0g_21, a0g_22, a0g_23, a0g_24, a0g_25, a0g_26, a0g_27, a0g_28, Value.ref a0_29, Value.int j24a0_30, Value.int a0_31, a0g_32, a0g_33, a0g_34, a0g_35, a0g_36, a0g_37, a0g_38, a0g_39])), (a0_17, .inl (ka0_17, 23, .inl (fa0_17))), (a0_29, .inl (ka0_29, 10, .inl (j15a0_29_a))), (a0_15, .inl (ka0_15, 156, .inl (fa0_15)))] → va_S A s.heap H locs → lv_has ls 4 [(0, .ref a0), (1, .int j15l1), (2, .int j15l2), (3, .int j24l3)] → K H locs (F0 m 24 ls []) := by
          intro n
          induction n with
          | zero =>
            intro j24l3 j24a0_30 H locs ls hm bj24l3_l bj24l3_u sk24 hP hD hS hl
            have h8 := ai_min j24l3
            have h9 := ai_max j24l3
            exact absurd hm (by omega)
          | succ n ih24 =>
            intro j24l3 j24a0_30 H locs ls hm bj24l3_l bj24l3_u sk24 hP hD hS hl
            refine (hK0 _ _ _).mpr ?_
            have hm24 := hm
            refine lv_iload_n hx hb dX8_goRound_24 rfl (lv_at hl 3 rfl) ?_
            refine lv_iload_n hx hb dX8_goRound_25 rfl (lv_at hl 1 rfl) ?_
            refine lv_icmp_ge (tgt := 50) hx hb dX8_goRound_26 (by decide) (fun c26 => ?_) (fun c26 => ?_)
            · have gc26 := ai_le c26
              have u26t_j15l1 : j15l1.toInt ≤ (9 : Int) := u22z_j15l1
              have l26t_j24l3 : (0 : Int) ≤ j24l3.toInt := bj24l3_l
              refine lv_aload_n hx hb dX8_goRound_50 rfl (lv_at hl 0 rfl) ?_
              refine va_get (D := (dC, dI)) (ci := 8) (v := .int j24a0_30) (C := RX8) (T := TX8) (N := 40) hx hb hts zi_X8_goRound_8 hown hK hP 0 rfl rfl 30 (by decide) (hts (.fieldLink RX8 283 "WaxTurnsModel" "settled" "I") (List.mem_cons_of_mem _ (List.mem_append_left _ (List.mem_of_getElem? (i := 1) rfl)))) (fun _ h9 => h9) rfl dX8_goRound_51 ?_
              refine lv_if_lt (tgt := 60) hx hb dX8_goRound_54 (by decide) (fun c54 => ?_) (fun c54 => ?_)
              · have gc54 := ai_lt c54
                have u54t_j24a0_30 : j24a0_30.toInt ≤ (-1 : Int) := ai_lthi gc54 zq6
                refine lv_aload_n hx hb dX8_goRound_60 rfl (lv_at hl 0 rfl) ?_
                have hne60 := gr_Kn sk24 (by omega) (by omega)
                have u60z_j15l1 : j15l1.toInt ≤ (9 : Int) := u26t_j15l1
                refine va_get (D := (dC, dI)) (ci := 8) (v := .ref a0_29) (C := RX8) (T := TX8) (N := 40) hx hb hts zi_X8_goRound_8 hown hK hP 0 rfl rfl 29 (by decide) (hts (.fieldLink RX8 44 "WaxTurnsModel" "row" "[I") (List.mem_cons_of_mem _ (List.mem_append_left _ (List.mem_of_getElem? (i := 2) rfl)))) (fun _ h9 => h9) rfl dX8_goRound_61 ?_
                refine lv_iload_n hx hb dX8_goRound_64 rfl (lv_at hl 1 rfl) ?_
                refine lv_iload_n hx hb dX8_goRound_65 rfl (lv_at hl 2 rfl) ?_
                refine va_iast hx hb hK hP hD hS 2 1 rfl rfl (ai_in bj15l1_l u60z_j15l1 (by decide) (by decide)) dX8_goRound_66 (fun H locs hP hD hS => ?_)
                obtain ⟨f66, ef66⟩ : ∃ g9 : Nat → Int32, g9 = upd j15a0_29_a (j15l1 : Int32).toNatClampNeg j15l2 := ⟨_, rfl⟩
                rw [← ef66] at hP hD
                obtain ⟨hP, hD⟩ := zc_re (w := [(a0, .inr (8, [a0g_0, a0g_1, a0g_2, a0g_3, a0g_4, a0g_5, a0g_6, a0g_7, a0g_8, a0g_9, a0g_10, a0g_11, a0g_12, a0g_13, a0g_14, Value.ref a0_15, a0g_16, Value.ref a0_17, a0g_18, a0g_19, a0g_20, a0g_21, a0g_22, a0g_23, a0g_24, a0g_25, a0g_26, a0g_27, a0g_28, Value.ref a0_29, Value.int j24a0_30, Value.int a0_31, a0g_32, a0g_33, a0g_34, a0g_35, a0g_36, a0g_37, a0g_38, a0g_39])), (a0_17, .inl (ka0_17, 23, .inl (fa0_17))), (a0_29, .inl (ka0_29, 10, .inl (f66))), (a0_15, .inl (ka0_15, 156, .inl (fa0_15)))]) hP hD rfl
                have bf66 : (∀ k, (0 : Int) ≤ (f66 k).toInt ∧ (f66 k).toInt ≤ 8) := by rw [ef66]; exact ai_upd bj15a0_29_a _ ⟨bj15l2_l, bj15l2_u⟩
                obtain ⟨x67, ex67⟩ : ∃ y : Int32, y = j15l1 + Int32.ofInt 1 := ⟨_, rfl⟩
                have qx67 : x67.toInt = j15l1.toInt + 1 := ai_inc ex67 (by decide) (by decide) u60z_j15l1 (by decide)
                have bx67 : (1 : Int) ≤ x67.toInt ∧ x67.toInt ≤ 10 := ⟨by rw [qx67]; exact Int.add_le_add bj15l1_l (Int.le_refl _), by rw [qx67]; exact Int.add_le_add u60z_j15l1 (Int.le_refl _)⟩
                refine lv_iinc (v := x67) (lv' := [(1, .int x67), (0, .ref a0), (2, .int j15l2), (3, .int j24l3)]) hx hb dX8_goRound_67 hl (k := 1) rfl ex67.symm (by decide) rfl (fun ls hl => ?_)
                refine lv_aload_n hx hb dX8_goRound_70 rfl (lv_at hl 1 rfl) ?_
                refine lv_iload_n hx hb dX8_goRound_71 rfl (lv_at hl 2 rfl) ?_
                obtain ⟨hPc, hDc, hFc, hCc⟩ := zc_cut (wc := [(a0, .inr (8, [a0g_0, a0g_1, a0g_2, a0g_3, a0g_4, a0g_5, a0g_6, a0g_7, a0g_8, a0g_9, a0g_10, a0g_11, a0g_12, a0g_13, a0g_14, Value.ref a0_15, a0g_16, Value.ref a0_17, a0g_18, a0g_19, a0g_20, a0g_21, a0g_22, a0g_23, a0g_24, a0g_25, a0g_26, a0g_27, a0g_28, Value.ref a0_29, Value.int j24a0_30, Value.int a0_31, a0g_32, a0g_33, a0g_34, a0g_35, a0g_36, a0g_37, a0g_38, a0g_39])), (a0_15, .inl (ka0_15, 156, .inl (fa0_15)))]) hP hD hS hA [0, 3] (by decide +kernel) rfl
                have hKc := hK.sub (tys' := [(ka0_15, .int)]) [2] rfl
                refine va_calli (va_runV (As := [.int j15l2]) (rest := []) ⟨hx, hb, hml, hown, hts⟩ (c_X8_nextOf l dC dI H.size a0 j15l2 a0g_0 a0g_1 a0g_2 a0g_3 a0g_4 a0g_5 a0g_6 a0g_7 a0g_8 a0g_9 a0g_10 a0g_11 a0g_12 a0g_13 a0g_14 a0g_16 (Value.ref a0_17) a0g_18 a0g_19 a0g_20 a0g_21 a0g_22 a0g_23 a0g_24 a0g_25 a0g_26 a0g_27 a0g_28 (Value.ref a0_29) (Value.int j24a0_30) (Value.int a0_31) a0g_32 a0g_33 a0g_34 a0g_35 a0g_36 a0g_37 a0g_38 a0g_39 a0_15 ka0_15 fa0_15 bj15l2_l bj15l2_u bfa0_15) (cwV 1 hts gX8_goRound_X8_nextOf rfl rfl rfl zd_X8_nextOf ⟨Nat.le_of_ble_eq_true rfl, Nat.le_of_ble_eq_true rfl⟩) ⟨ax_blind (fun _ _ _ _ _ => trivial), zr_8 hKc hPc (q0 := 0) rfl, ax_pre hPc hKc hDc (fun _ _ => trivial)⟩ rfl rfl hl.1 rfl (lv_room (Nat.le_of_ble_eq_true rfl)) dX8_goRound_72 ⟨Nat.le_of_ble_eq_true rfl, Nat.le_of_ble_eq_true rfl⟩) hS (fun q _ h => hFc q h) hFc (fun r72 u t H locs ht hvm hw hB hz1 hk1 hS => ?_)
                obtain ⟨hP1, hK1, hD1⟩ := hB
                rw [ht] at hP1
                obtain ⟨hP, hD⟩ := zc_back (w := [(a0, .inr (8, [a0g_0, a0g_1, a0g_2, a0g_3, a0g_4, a0g_5, a0g_6, a0g_7, a0g_8, a0g_9, a0g_10, a0g_11, a0g_12, a0g_13, a0g_14, Value.ref a0_15, a0g_16, Value.ref a0_17, a0g_18, a0g_19, a0g_20, a0g_21, a0g_22, a0g_23, a0g_24, a0g_25, a0g_26, a0g_27, a0g_28, Value.ref a0_29, Value.int j24a0_30, Value.int a0_31, a0g_32, a0g_33, a0g_34, a0g_35, a0g_36, a0g_37, a0g_38, a0g_39])), (a0_17, .inl (ka0_17, 23, .inl (fa0_17))), (a0_29, .inl (ka0_29, 10, .inl (f66))), (a0_15, .inl (ka0_15, 156, .inl (fa0_15)))]) hP hD hCc hk1 hFc hP1 hD1 [.inr 0, .inl 1, .inl 2, .inr 1] (by decide +kernel) rfl
                have hw : (0 : Int) ≤ r72.toInt ∧ r72.toInt ≤ (8 : Int) := hw
                obtain ⟨h72_0, h72_1⟩ := hw
                refine lv_istore_n (lv' := [(2, .int r72), (1, .int x67), (0, .ref a0), (3, .int j24l3)]) hx hb dX8_goRound_75 rfl hl (by decide) rfl (fun ls hl => ?_)
                refine lv_goto (tgt := 15) hx hb dX8_goRound_76 (by decide) ?_
                exact (hK0 _ _ _).mp (ih15 r72 x67 j24a0_30 f66 _ _ _ (by have h0 := qx67; omega) h72_0 h72_1 (Int.le_trans zq4 bx67.1) (Int.le_trans bx67.2 zq168) bf66 (gr_s gr15 hne60 ef66 bj15l2_l bj15l2_u qx67 bj15l1_l) (gr_Km sk24 (by omega)) hP hD hS (lv_sub hl [2, 1, 0] rfl))
              · have gc54 := ai_nlt c54
                have l54f_j24a0_30 : (0 : Int) ≤ j24a0_30.toInt := Int.le_trans zq5 gc54
                refine lv_goto (tgt := 15) hx hb dX8_goRound_57 (by decide) ?_
                have u57z_j15l1 : j15l1.toInt ≤ (9 : Int) := u26t_j15l1
                have hs57 := gr_Kp sk24 (by omega)
                have l57z_j24a0_30 : (0 : Int) ≤ j24a0_30.toInt := l54f_j24a0_30
                have u57z_j24a0_30 : j24a0_30.toInt ≤ (8 : Int) := by omega
                refine lv_aload_n hx hb dX8_goRound_15 rfl (lv_at hl 0 rfl) ?_
                refine va_get (D := (dC, dI)) (ci := 8) (v := .int j24a0_30) (C := RX8) (T := TX8) (N := 40) hx hb hts zi_X8_goRound_8 hown hK hP 0 rfl rfl 30 (by decide) (hts (.fieldLink RX8 283 "WaxTurnsModel" "settled" "I") (List.mem_cons_of_mem _ (List.mem_append_left _ (List.mem_of_getElem? (i := 1) rfl)))) (fun _ h9 => h9) rfl dX8_goRound_16 ?_
                refine lv_if_ge (tgt := 79) hx hb dX8_goRound_19 (by decide) (fun c19 => ?_) (fun c19 => ?_)
                · have gc19 := ai_le c19
                  have l19t_j24a0_30 : (0 : Int) ≤ j24a0_30.toInt := l57z_j24a0_30
                  refine lv_aload_n hx hb dX8_goRound_79 rfl (lv_at hl 0 rfl) ?_
                  refine lv_iload_n hx hb dX8_goRound_80 rfl (lv_at hl 1 rfl) ?_
                  refine lv_aload_n hx hb dX8_goRound_81 rfl (lv_at hl 0 rfl) ?_
                  refine va_get (D := (dC, dI)) (ci := 8) (v := .int j24a0_30) (C := RX8) (T := TX8) (N := 40) hx hb hts zi_X8_goRound_8 hown hK hP 0 rfl rfl 30 (by decide) (hts (.fieldLink RX8 283 "WaxTurnsModel" "settled" "I") (List.mem_cons_of_mem _ (List.mem_append_left _ (List.mem_of_getElem? (i := 1) rfl)))) (fun _ h9 => h9) rfl dX8_goRound_82 ?_
                  refine lv_isub hx hb dX8_goRound_85 ?_
                  refine lv_topi (fun x85 ex85 => ?_)
                  have qx85 : x85.toInt = j15l1.toInt - j24a0_30.toInt := ai_sub ex85 ⟨bj15l1_l, u57z_j15l1⟩ ⟨l19t_j24a0_30, u57z_j24a0_30⟩ (by decide) (by decide)
                  have bx85 : (-8 : Int) ≤ x85.toInt ∧ x85.toInt ≤ 9 := ⟨by rw [qx85]; exact Int.sub_le_sub bj15l1_l u57z_j24a0_30, by rw [qx85]; exact Int.sub_le_sub u57z_j15l1 l19t_j24a0_30⟩
                  refine va_put (D := (dC, dI)) (ci := 8) (v := .int x85) (ty := .int) (C := RX8) (T := TX8) (N := 40) hx hb hts zi_X8_goRound_8 tyX8 tyX8_ok nmX8 hown hK hP hD hS 0 rfl rfl 31 (by decide) (hts (.fieldLink RX8 286 "WaxTurnsModel" "again" "I") (List.mem_cons_of_mem _ (List.mem_append_left _ (List.mem_of_getElem? (i := 3) rfl)))) (fun _ h9 => h9) rfl (tyX8_ok 31 (by decide)) rfl rfl (Nat.le_of_ble_eq_true rfl) dX8_goRound_86 (fun H locs hP hD hS => ?_)
                  obtain ⟨hP, hD⟩ := zc_re (w := [(a0, .inr (8, [a0g_0, a0g_1, a0g_2, a0g_3, a0g_4, a0g_5, a0g_6, a0g_7, a0g_8, a0g_9, a0g_10, a0g_11, a0g_12, a0g_13, a0g_14, Value.ref a0_15, a0g_16, Value.ref a0_17, a0g_18, a0g_19, a0g_20, a0g_21, a0g_22, a0g_23, a0g_24, a0g_25, a0g_26, a0g_27, a0g_28, Value.ref a0_29, Value.int j24a0_30, Value.int x85, a0g_32, a0g_33, a0g_34, a0g_35, a0g_36, a0g_37, a0g_38, a0g_39])), (a0_17, .inl (ka0_17, 23, .inl (fa0_17))), (a0_29, .inl (ka0_29, 10, .inl (j15a0_29_a))), (a0_15, .inl (ka0_15, 156, .inl (fa0_15)))]) hP hD rfl
                  exact W.vret hx hb hr (fun t ht hW => ⟨⟨(), rfl, trivial, j24a0_30, x85, j15a0_29_a, bj15a0_29_a, ⟨by omega, by omega, by omega⟩, by rw [ht]; exact hP, va_K.moved hW.alike hK, hD⟩, hS.F ht⟩) hS.2.2 dX8_goRound_89
                · have gc19 := ai_nle c19
                  have u19f_j24a0_30 : j24a0_30.toInt ≤ (-1 : Int) := ai_lthi gc19 zq6
                  exact absurd (Int.le_trans l57z_j24a0_30 u19f_j24a0_30) (by decide)
            · have gc26 := ai_nle c26
              have u26f_j24l3 : j24l3.toInt ≤ (8 : Int) := ai_lthi gc26 u22z_j15l1
              have l26f_j15l1 : (1 : Int) ≤ j15l1.toInt := ai_ltlo gc26 bj24l3_l
              refine lv_aload_n hx hb dX8_goRound_29 rfl (lv_at hl 0 rfl) ?_
              refine va_get (D := (dC, dI)) (ci := 8) (v := .ref a0_29) (C := RX8) (T := TX8) (N := 40) hx hb hts zi_X8_goRound_8 hown hK hP 0 rfl rfl 29 (by decide) (hts (.fieldLink RX8 44 "WaxTurnsModel" "row" "[I") (List.mem_cons_of_mem _ (List.mem_append_left _ (List.mem_of_getElem? (i := 2) rfl)))) (fun _ h9 => h9) rfl dX8_goRound_30 ?_
              refine lv_iload_n hx hb dX8_goRound_33 rfl (lv_at hl 3 rfl) ?_
              refine va_iald hx hb hK hP 2 1 rfl rfl (ai_in bj24l3_l u26f_j24l3 (by decide) (by decide)) dX8_goRound_34 ?_
              refine lv_topi (fun x34 ex34 => ?_)
              have bx34 : (0 : Int) ≤ x34.toInt ∧ x34.toInt ≤ 8 := by rw [ex34]; exact bj15a0_29_a _
              refine lv_iload_n hx hb dX8_goRound_35 rfl (lv_at hl 2 rfl) ?_
              refine lv_icmp_ne (tgt := 44) hx hb dX8_goRound_36 (by decide) (fun c36 => ?_) (fun c36 => ?_)
              · have gc36 := ai_ne c36
                obtain ⟨x44, ex44⟩ : ∃ y : Int32, y = j24l3 + Int32.ofInt 1 := ⟨_, rfl⟩
                have qx44 : x44.toInt = j24l3.toInt + 1 := ai_inc ex44 (by decide) (by decide) u26f_j24l3 (by decide)
                have bx44 : (1 : Int) ≤ x44.toInt ∧ x44.toInt ≤ 9 := ⟨by rw [qx44]; exact Int.add_le_add bj24l3_l (Int.le_refl _), by rw [qx44]; exact Int.add_le_add u26f_j24l3 (Int.le_refl _)⟩
                refine lv_iinc (v := x44) (lv' := [(3, .int x44), (0, .ref a0), (1, .int j15l1), (2, .int j15l2)]) hx hb dX8_goRound_44 hl (k := 3) rfl ex44.symm (by decide) rfl (fun ls hl => ?_)
                refine lv_goto (tgt := 24) hx hb dX8_goRound_47 (by decide) ?_
                exact (hK0 _ _ _).mp (ih24 x44 j24a0_30 _ _ _ (by have h0 := qx44; omega) (Int.le_trans zq4 bx44.1) bx44.2 (gr_Ks sk24 ex34 c36 qx44 bj24l3_l) hP hD hS (lv_sub hl [1, 2, 3, 0] rfl))
              · have gc36 := ai_eq c36
                have u36f_x34 : x34.toInt ≤ (8 : Int) := bx34.2
                have l36f_x34 : (0 : Int) ≤ x34.toInt := bx34.1
                have u36f_j15l2 : j15l2.toInt ≤ (8 : Int) := bj15l2_u
                have l36f_j15l2 : (0 : Int) ≤ j15l2.toInt := bj15l2_l
                refine lv_aload_n hx hb dX8_goRound_39 rfl (lv_at hl 0 rfl) ?_
                refine lv_iload_n hx hb dX8_goRound_40 rfl (lv_at hl 3 rfl) ?_
                refine va_put (D := (dC, dI)) (ci := 8) (v := .int j24l3) (ty := .int) (C := RX8) (T := TX8) (N := 40) hx hb hts zi_X8_goRound_8 tyX8 tyX8_ok nmX8 hown hK hP hD hS 0 rfl rfl 30 (by decide) (hts (.fieldLink RX8 283 "WaxTurnsModel" "settled" "I") (List.mem_cons_of_mem _ (List.mem_append_left _ (List.mem_of_getElem? (i := 1) rfl)))) (fun _ h9 => h9) rfl (tyX8_ok 30 (by decide)) rfl rfl (Nat.le_of_ble_eq_true rfl) dX8_goRound_41 (fun H locs hP hD hS => ?_)
                obtain ⟨hP, hD⟩ := zc_re (w := [(a0, .inr (8, [a0g_0, a0g_1, a0g_2, a0g_3, a0g_4, a0g_5, a0g_6, a0g_7, a0g_8, a0g_9, a0g_10, a0g_11, a0g_12, a0g_13, a0g_14, Value.ref a0_15, a0g_16, Value.ref a0_17, a0g_18, a0g_19, a0g_20, a0g_21, a0g_22, a0g_23, a0g_24, a0g_25, a0g_26, a0g_27, a0g_28, Value.ref a0_29, Value.int j24l3, Value.int a0_31, a0g_32, a0g_33, a0g_34, a0g_35, a0g_36, a0g_37, a0g_38, a0g_39])), (a0_17, .inl (ka0_17, 23, .inl (fa0_17))), (a0_29, .inl (ka0_29, 10, .inl (j15a0_29_a))), (a0_15, .inl (ka0_15, 156, .inl (fa0_15)))]) hP hD rfl
                obtain ⟨x44, ex44⟩ : ∃ y : Int32, y = j24l3 + Int32.ofInt 1 := ⟨_, rfl⟩
                have qx44 : x44.toInt = j24l3.toInt + 1 := ai_inc ex44 (by decide) (by decide) u26f_j24l3 (by decide)
                have bx44 : (1 : Int) ≤ x44.toInt ∧ x44.toInt ≤ 9 := ⟨by rw [qx44]; exact Int.add_le_add bj24l3_l (Int.le_refl _), by rw [qx44]; exact Int.add_le_add u26f_j24l3 (Int.le_refl _)⟩
                refine lv_iinc (v := x44) (lv' := [(3, .int x44), (0, .ref a0), (1, .int j15l1), (2, .int j15l2)]) hx hb dX8_goRound_44 hl (k := 3) rfl ex44.symm (by decide) rfl (fun ls hl => ?_)
                refine lv_goto (tgt := 24) hx hb dX8_goRound_47 (by decide) ?_
                exact (hK0 _ _ _).mp (ih24 x44 j24l3 _ _ _ (by have h0 := qx44; omega) (Int.le_trans zq4 bx44.1) bx44.2 (Or.inr ⟨bj24l3_l, by omega⟩) hP hD hS (lv_sub hl [1, 2, 3, 0] rfl))
        exact (hK0 _ _ _).mp (J24 10 0 j15a0_30 _ _ _ (by have h1 : (0 : Int) ≤ (0 : Int32).toInt := zq5; have h2 : (0 : Int32).toInt ≤ (0 : Int) := zq6; omega) zq5 (Int.le_trans zq6 zq7) (gr_K0 sm15 (by decide)) hP hD hS (lv_sub hl [1, 2, 3, 0] rfl))
  exact (hK0 _ _ _).mp (J15 13 x8 0 (-1) fa0_29 _ _ _ (by have h1 : (0 : Int) ≤ (0 : Int32).toInt := zq5; have h2 : (0 : Int32).toInt ≤ (0 : Int) := zq6; omega) bx8.1 bx8.2 zq5 (Int.le_trans zq6 zq169) bfa0_29 (gr_z0 (by decide)) (by decide) hP hD hS (lv_sub hl [2, 1, 0] rfl))

set_option maxHeartbeats 4000000 in
set_option maxRecDepth 100000 in
theorem c_X8_turnAt (l : Launch) (dC : Nat → ClassId) (dI : Nat → Nat → Nat) (sz : Nat) (a0 : Nat) (a1 : Int32) (a0g_0 a0g_1 a0g_2 a0g_3 a0g_4 a0g_5 a0g_6 a0g_7 a0g_8 a0g_9 a0g_10 a0g_11 a0g_12 a0g_13 a0g_14 a0g_15 a0g_16 a0g_17 a0g_18 a0g_19 a0g_20 a0g_21 a0g_22 a0g_23 a0g_24 a0g_25 a0g_26 a0g_27 a0g_28 a0g_32 a0g_33 a0g_34 a0g_35 a0g_36 a0g_37 a0g_38 a0g_39 : Value) (a0_29 : Nat) (a0_30 : Int32) (a0_31 : Int32) (ka0_29 : ClassId) (fa0_29 : Nat → Int32) (ba1_l : (0 : Int) ≤ a1.toInt) (ba0_30_l : (0 : Int) ≤ a0_30.toInt) (ba0_30_u : a0_30.toInt ≤ (8 : Int)) (ba0_31_l : (1 : Int) ≤ a0_31.toInt) (ba0_31_u : a0_31.toInt ≤ (9 : Int)) (bfa0_29 : (∀ k, (0 : Int) ≤ (fa0_29 k).toInt ∧ (fa0_29 k).toInt ≤ 8)) (hsa : (0 : Int) ≤ a0_30.toInt ∧ (1 : Int) ≤ a0_31.toInt ∧ a0_30.toInt + a0_31.toInt ≤ 9) : Met l yX8_turnAt wsX8_turnAt ({ frames := 0, cells := 0, slots := 0, locals := 0 }) (va_Pc [.ref a0, .int a1] (ax_C dC dI sz [(a0, .inr (8, [a0g_0, a0g_1, a0g_2, a0g_3, a0g_4, a0g_5, a0g_6, a0g_7, a0g_8, a0g_9, a0g_10, a0g_11, a0g_12, a0g_13, a0g_14, a0g_15, a0g_16, a0g_17, a0g_18, a0g_19, a0g_20, a0g_21, a0g_22, a0g_23, a0g_24, a0g_25, a0g_26, a0g_27, a0g_28, Value.ref a0_29, Value.int a0_30, Value.int a0_31, a0g_32, a0g_33, a0g_34, a0g_35, a0g_36, a0g_37, a0g_38, a0g_39])), (a0_29, .inl (ka0_29, 10, .inl (fa0_29)))] [(ka0_29, .int)] (fun _ => True))) (va_Qi (fun (r : Int32) (_ : Unit) => (0 : Int) ≤ r.toInt ∧ r.toInt ≤ (8 : Int)) (fun (_ : Unit) (t : State) => ax_B dC dI (va_A [(a0, .inr (8, [a0g_0, a0g_1, a0g_2, a0g_3, a0g_4, a0g_5, a0g_6, a0g_7, a0g_8, a0g_9, a0g_10, a0g_11, a0g_12, a0g_13, a0g_14, a0g_15, a0g_16, a0g_17, a0g_18, a0g_19, a0g_20, a0g_21, a0g_22, a0g_23, a0g_24, a0g_25, a0g_26, a0g_27, a0g_28, Value.ref a0_29, Value.int a0_30, Value.int a0_31, a0g_32, a0g_33, a0g_34, a0g_35, a0g_36, a0g_37, a0g_38, a0g_39])), (a0_29, .inl (ka0_29, 10, .inl (fa0_29)))] sz) [(a0, .inr (8, [a0g_0, a0g_1, a0g_2, a0g_3, a0g_4, a0g_5, a0g_6, a0g_7, a0g_8, a0g_9, a0g_10, a0g_11, a0g_12, a0g_13, a0g_14, a0g_15, a0g_16, a0g_17, a0g_18, a0g_19, a0g_20, a0g_21, a0g_22, a0g_23, a0g_24, a0g_25, a0g_26, a0g_27, a0g_28, Value.ref a0_29, Value.int a0_30, Value.int a0_31, a0g_32, a0g_33, a0g_34, a0g_35, a0g_36, a0g_37, a0g_38, a0g_39])), (a0_29, .inl (ka0_29, 10, .inl (fa0_29)))] [(ka0_29, .int)] t) (va_A [(a0, .inr (8, [a0g_0, a0g_1, a0g_2, a0g_3, a0g_4, a0g_5, a0g_6, a0g_7, a0g_8, a0g_9, a0g_10, a0g_11, a0g_12, a0g_13, a0g_14, a0g_15, a0g_16, a0g_17, a0g_18, a0g_19, a0g_20, a0g_21, a0g_22, a0g_23, a0g_24, a0g_25, a0g_26, a0g_27, a0g_28, Value.ref a0_29, Value.int a0_30, Value.int a0_31, a0g_32, a0g_33, a0g_34, a0g_35, a0g_36, a0g_37, a0g_38, a0g_39])), (a0_29, .inl (ka0_29, 10, .inl (fa0_29)))] sz)) 0 0 (va_A [(a0, .inr (8, [a0g_0, a0g_1, a0g_2, a0g_3, a0g_4, a0g_5, a0g_6, a0g_7, a0g_8, a0g_9, a0g_10, a0g_11, a0g_12, a0g_13, a0g_14, a0g_15, a0g_16, a0g_17, a0g_18, a0g_19, a0g_20, a0g_21, a0g_22, a0g_23, a0g_24, a0g_25, a0g_26, a0g_27, a0g_28, Value.ref a0_29, Value.int a0_30, Value.int a0_31, a0g_32, a0g_33, a0g_34, a0g_35, a0g_36, a0g_37, a0g_38, a0g_39])), (a0_29, .inl (ka0_29, 10, .inl (fa0_29)))] sz) := by
  refine Met.ofW (cc := cX8_turnAt) (maxL := 2) (ret := (some .int)) (by decide) rfl ?_
  intro p e s m args below meth c s₁ B hml hv
  obtain ⟨rfl, hsz, hP, hK, hD0, hE⟩ := hv
  have hx := B.exec
  have hb := B.bytes
  have hr := B.returns
  have hts := atoms_spec (ws := wsX8_turnAt) B.pre
  have hown : s.vm.findClass RX8 = some m.cls := findClass_of_methodNamed B.named
  have hlocks := B.notSynchronized
  subst hsz
  have hD := hD0.self (sz := s.heap.size)
  generalize hAe : va_A [(a0, .inr (8, [a0g_0, a0g_1, a0g_2, a0g_3, a0g_4, a0g_5, a0g_6, a0g_7, a0g_8, a0g_9, a0g_10, a0g_11, a0g_12, a0g_13, a0g_14, a0g_15, a0g_16, a0g_17, a0g_18, a0g_19, a0g_20, a0g_21, a0g_22, a0g_23, a0g_24, a0g_25, a0g_26, a0g_27, a0g_28, Value.ref a0_29, Value.int a0_30, Value.int a0_31, a0g_32, a0g_33, a0g_34, a0g_35, a0g_36, a0g_37, a0g_38, a0g_39])), (a0_29, .inl (ka0_29, 10, .inl (fa0_29)))] s.heap.size = A at hD ⊢
  have hA : ∀ q : Nat, s.heap.size ≤ q → A q := fun q h => by rw [← hAe]; exact Or.inr h
  have hS : va_S A s.heap s.heap [] := va_S.rf
  have hP : va_P (dC, dI) vwCl [(a0, .inr (8, [a0g_0, a0g_1, a0g_2, a0g_3, a0g_4, a0g_5, a0g_6, a0g_7, a0g_8, a0g_9, a0g_10, a0g_11, a0g_12, a0g_13, a0g_14, a0g_15, a0g_16, a0g_17, a0g_18, a0g_19, a0g_20, a0g_21, a0g_22, a0g_23, a0g_24, a0g_25, a0g_26, a0g_27, a0g_28, Value.ref a0_29, Value.int a0_30, Value.int a0_31, a0g_32, a0g_33, a0g_34, a0g_35, a0g_36, a0g_37, a0g_38, a0g_39])), (a0_29, .inl (ka0_29, 10, .inl (fa0_29)))] s.heap := hP
  have hl := lv_entry ([.ref a0, .int a1]) (n := 2) (Nat.le_of_ble_eq_true rfl)
  rw [lg_entry_eq]
  generalize (lg_sl ([.ref a0, .int a1]) ++ List.replicate (2 - (lg_sl ([.ref a0, .int a1])).length) Slot.unset).toArray = ls at hl ⊢
  have hl : lv_has ls 2 [(0, .ref a0), (1, .int a1)] := hl
  refine lv_aload_n hx hb dX8_turnAt_0 rfl (lv_at hl 0 rfl) ?_
  refine va_get (D := (dC, dI)) (ci := 8) (v := .ref a0_29) (C := RX8) (T := TX8) (N := 40) hx hb hts zi_X8_turnAt_8 hown hK hP 0 rfl rfl 29 (by decide) (hts (.fieldLink RX8 44 "WaxTurnsModel" "row" "[I") (List.mem_cons_of_mem _ (List.mem_append_left _ (List.mem_of_getElem? (i := 0) rfl)))) (fun _ h9 => h9) rfl dX8_turnAt_1 ?_
  refine lv_iload_n hx hb dX8_turnAt_4 rfl (lv_at hl 1 rfl) ?_
  refine lv_aload_n hx hb dX8_turnAt_5 rfl (lv_at hl 0 rfl) ?_
  refine va_get (D := (dC, dI)) (ci := 8) (v := .int a0_30) (C := RX8) (T := TX8) (N := 40) hx hb hts zi_X8_turnAt_8 hown hK hP 0 rfl rfl 30 (by decide) (hts (.fieldLink RX8 283 "WaxTurnsModel" "settled" "I") (List.mem_cons_of_mem _ (List.mem_append_left _ (List.mem_of_getElem? (i := 1) rfl)))) (fun _ h9 => h9) rfl dX8_turnAt_6 ?_
  refine lv_icmp_ge (tgt := 16) hx hb dX8_turnAt_9 (by decide) (fun c9 => ?_) (fun c9 => ?_)
  · have gc9 := ai_le c9
    have l9t_a1 : (0 : Int) ≤ a1.toInt := ba1_l
    refine lv_aload_n hx hb dX8_turnAt_16 rfl (lv_at hl 0 rfl) ?_
    refine va_get (D := (dC, dI)) (ci := 8) (v := .int a0_30) (C := RX8) (T := TX8) (N := 40) hx hb hts zi_X8_turnAt_8 hown hK hP 0 rfl rfl 30 (by decide) (hts (.fieldLink RX8 283 "WaxTurnsModel" "settled" "I") (List.mem_cons_of_mem _ (List.mem_append_left _ (List.mem_of_getElem? (i := 1) rfl)))) (fun _ h9 => h9) rfl dX8_turnAt_17 ?_
    refine lv_iload_n hx hb dX8_turnAt_20 rfl (lv_at hl 1 rfl) ?_
    refine lv_aload_n hx hb dX8_turnAt_21 rfl (lv_at hl 0 rfl) ?_
    refine va_get (D := (dC, dI)) (ci := 8) (v := .int a0_30) (C := RX8) (T := TX8) (N := 40) hx hb hts zi_X8_turnAt_8 hown hK hP 0 rfl rfl 30 (by decide) (hts (.fieldLink RX8 283 "WaxTurnsModel" "settled" "I") (List.mem_cons_of_mem _ (List.mem_append_left _ (List.mem_of_getElem? (i := 1) rfl)))) (fun _ h9 => h9) rfl dX8_turnAt_22 ?_
    refine lv_isub hx hb dX8_turnAt_25 ?_
    refine lv_topi (fun x25 ex25 => ?_)
    have qx25 : x25.toInt = a1.toInt - a0_30.toInt := ai_sub ex25 ⟨l9t_a1, (ai_max a1)⟩ ⟨ba0_30_l, ba0_30_u⟩ (by decide) (by decide)
    have bx25 : (-8 : Int) ≤ x25.toInt ∧ x25.toInt ≤ 2147483647 := ⟨by rw [qx25]; exact Int.sub_le_sub l9t_a1 ba0_30_u, by rw [qx25]; exact Int.sub_le_sub (ai_max a1) ba0_30_l⟩
    have l25z_x25 : (0 : Int) ≤ x25.toInt := by omega
    refine lv_aload_n hx hb dX8_turnAt_26 rfl (lv_at hl 0 rfl) ?_
    refine va_get (D := (dC, dI)) (ci := 8) (v := .int a0_31) (C := RX8) (T := TX8) (N := 40) hx hb hts zi_X8_turnAt_8 hown hK hP 0 rfl rfl 31 (by decide) (hts (.fieldLink RX8 286 "WaxTurnsModel" "again" "I") (List.mem_cons_of_mem _ (List.mem_append_left _ (List.mem_of_getElem? (i := 2) rfl)))) (fun _ h9 => h9) rfl dX8_turnAt_27 ?_
    refine lv_irem hx hb dX8_turnAt_30 (ai_nz ba0_31_l (by decide)) ?_
    refine lv_topi (fun x30 ex30 => ?_)
    have qx30 := ai_rem2 ex30 l25z_x25 (Int.lt_of_lt_of_le zq19 ba0_31_l) ba0_31_u
    refine lv_iadd hx hb dX8_turnAt_31 ?_
    refine lv_topi (fun x31 ex31 => ?_)
    have qx31 : x31.toInt = a0_30.toInt + x30.toInt := ai_add ex31 ⟨ba0_30_l, ba0_30_u⟩ ⟨qx30.2.1, qx30.2.2⟩ (by decide) (by decide)
    have bx31 : (0 : Int) ≤ x31.toInt ∧ x31.toInt ≤ 16 := ⟨by rw [qx31]; exact Int.add_le_add ba0_30_l qx30.2.1, by rw [qx31]; exact Int.add_le_add ba0_30_u qx30.2.2⟩
    have hlt31 := Int.emod_lt_of_pos x25.toInt (show 0 < a0_31.toInt by omega)
    have hq31 := qx30.1
    have u31z_x31 : x31.toInt ≤ (9 : Int) := by omega
    refine va_iald hx hb hK hP 1 0 rfl rfl (ai_in bx31.1 u31z_x31 (by decide) (by decide)) dX8_turnAt_32 ?_
    refine lv_topi (fun x32 ex32 => ?_)
    have bx32 : (0 : Int) ≤ x32.toInt ∧ x32.toInt ≤ 8 := by rw [ex32]; exact bfa0_29 _
    exact W.iret (v := x32) hx hb hr (fun t ht hW => ⟨⟨x32, (), rfl, ⟨bx32.1, bx32.2⟩, by rw [ht]; exact hP, va_K.moved hW.alike hK, hD⟩, hS.F ht⟩) hS.2.2 dX8_turnAt_33
  · have gc9 := ai_nle c9
    have u9f_a1 : a1.toInt ≤ (7 : Int) := ai_lthi gc9 ba0_30_u
    have l9f_a0_30 : (1 : Int) ≤ a0_30.toInt := ai_ltlo gc9 ba1_l
    refine lv_iload_n hx hb dX8_turnAt_12 rfl (lv_at hl 1 rfl) ?_
    refine lv_goto (tgt := 32) hx hb dX8_turnAt_13 (by decide) ?_
    refine va_iald hx hb hK hP 1 0 rfl rfl (ai_in ba1_l u9f_a1 (by decide) (by decide)) dX8_turnAt_32 ?_
    refine lv_topi (fun x32 ex32 => ?_)
    have bx32 : (0 : Int) ≤ x32.toInt ∧ x32.toInt ≤ 8 := by rw [ex32]; exact bfa0_29 _
    exact W.iret (v := x32) hx hb hr (fun t ht hW => ⟨⟨x32, (), rfl, ⟨bx32.1, bx32.2⟩, by rw [ht]; exact hP, va_K.moved hW.alike hK, hD⟩, hS.F ht⟩) hS.2.2 dX8_turnAt_33
