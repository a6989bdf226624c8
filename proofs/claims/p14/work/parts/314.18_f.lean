set_option maxHeartbeats 4000000 in
set_option maxRecDepth 100000 in
theorem f_X8_turnIn (l : Launch) (dC : Nat → ClassId) (dI : Nat → Nat → Nat) (sz : Nat) (a0 : Nat) (a1 : Int32) (a0_0 : Int32) (a0g_1 a0g_2 a0g_3 a0g_4 a0g_5 a0g_6 a0g_7 a0g_8 a0g_9 a0g_10 a0g_12 a0g_13 a0g_16 a0g_18 a0g_19 a0g_20 a0g_21 a0g_22 a0g_23 a0g_24 a0g_25 a0g_26 a0g_27 a0g_28 a0g_32 a0g_33 a0g_34 a0g_35 a0g_36 a0g_37 a0g_38 a0g_39 : Value) (a0_11 : Int32) (a0_14 : Int32) (a0_15 : Nat) (a0_17 : Nat) (a0_29 : Nat) (a0_30 : Int32) (a0_31 : Int32) (ka0_15 : ClassId) (fa0_15 : Nat → Int32) (ka0_17 : ClassId) (fa0_17 : Nat → Int32) (ka0_29 : ClassId) (fa0_29 : Nat → Int32) (ba0_14_l : (1 : Int) ≤ a0_14.toInt) (ba0_14_u : a0_14.toInt ≤ (1 : Int)) (bfa0_15 : ((∀ k : Nat, 0 ≤ k → k ≤ 0 → (2 : Int) ≤ (fa0_15 k).toInt ∧ (fa0_15 k).toInt ≤ 9) ∧ (∀ k : Nat, 1 ≤ k → k ≤ 1 → (1 : Int) ≤ (fa0_15 k).toInt ∧ (fa0_15 k).toInt ≤ 20) ∧ (∀ k : Nat, 2 ≤ k → k ≤ 2 → (0 : Int) ≤ (fa0_15 k).toInt ∧ (fa0_15 k).toInt ≤ 8) ∧ (∀ k : Nat, 3 ≤ k → k ≤ 3 → (0 : Int) ≤ (fa0_15 k).toInt ∧ (fa0_15 k).toInt ≤ 100) ∧ (∀ k : Nat, 4 ≤ k → k ≤ 4 → (0 : Int) ≤ (fa0_15 k).toInt ∧ (fa0_15 k).toInt ≤ 9) ∧ (∀ k : Nat, 5 ≤ k → k ≤ 5 → (0 : Int) ≤ (fa0_15 k).toInt ∧ (fa0_15 k).toInt ≤ 3) ∧ (∀ k : Nat, 6 ≤ k → k ≤ 6 → (0 : Int) ≤ (fa0_15 k).toInt ∧ (fa0_15 k).toInt ≤ 6) ∧ (∀ k : Nat, 7 ≤ k → k ≤ 9 → (0 : Int) ≤ (fa0_15 k).toInt ∧ (fa0_15 k).toInt ≤ 8) ∧ (∀ k : Nat, 12 ≤ k → k ≤ 29 → (0 : Int) ≤ (fa0_15 k).toInt ∧ (fa0_15 k).toInt ≤ 20) ∧ (∀ k : Nat, 30 ≤ k → k ≤ 35 → (0 : Int) ≤ (fa0_15 k).toInt ∧ (fa0_15 k).toInt ≤ 8) ∧ (∀ k : Nat, 36 ≤ k → k ≤ 47 → (0 : Int) ≤ (fa0_15 k).toInt ∧ (fa0_15 k).toInt ≤ 999))) (bfa0_17 : ((∀ k : Nat, 0 ≤ k → k ≤ 8 → (0 : Int) ≤ (fa0_17 k).toInt ∧ (fa0_17 k).toInt ≤ 8) ∧ (∀ k : Nat, 19 ≤ k → k ≤ 19 → (0 : Int) ≤ (fa0_17 k).toInt ∧ (fa0_17 k).toInt ≤ 8) ∧ (∀ k : Nat, 20 ≤ k → k ≤ 20 → (0 : Int) ≤ (fa0_17 k).toInt ∧ (fa0_17 k).toInt ≤ 19))) (bfa0_29 : (∀ k, (0 : Int) ≤ (fa0_29 k).toInt ∧ (fa0_29 k).toInt ≤ 8)) : Met l yX8_turnIn wsX8_turnIn ({ frames := 2, cells := 0, slots := 0, locals := 44 }) (va_Pc [.ref a0, .int a1] (ax_C dC dI sz [(a0, .inr (8, [Value.int a0_0, a0g_1, a0g_2, a0g_3, a0g_4, a0g_5, a0g_6, a0g_7, a0g_8, a0g_9, a0g_10, Value.int a0_11, a0g_12, a0g_13, Value.int a0_14, Value.ref a0_15, a0g_16, Value.ref a0_17, a0g_18, a0g_19, a0g_20, a0g_21, a0g_22, a0g_23, a0g_24, a0g_25, a0g_26, a0g_27, a0g_28, Value.ref a0_29, Value.int a0_30, Value.int a0_31, a0g_32, a0g_33, a0g_34, a0g_35, a0g_36, a0g_37, a0g_38, a0g_39])), (a0_15, .inl (ka0_15, 156, .inl (fa0_15))), (a0_17, .inl (ka0_17, 23, .inl (fa0_17))), (a0_29, .inl (ka0_29, 10, .inl (fa0_29)))] [(ka0_15, .int), (ka0_17, .int), (ka0_29, .int)] (fun _ => True))) (va_Qi (fun (r : Int32) (_ : Unit) => ((-2 : Int) ≤ r.toInt ∧ r.toInt ≤ (8 : Int)) ∧ r.toInt = (Ff_X8_turnIn a1.toInt a0_14.toInt a0_30.toInt a0_31.toInt (fl_A fa0_15) (fl_A fa0_17) (fl_A fa0_29)).1) (fun (_ : Unit) (t : State) => ∃ na0_0 : Int32, ∃ na0_11 : Int32, ∃ na0_30 : Int32, ∃ na0_31 : Int32, ∃ nfa0_29 : Nat → Int32, (∀ k, (0 : Int) ≤ (nfa0_29 k).toInt ∧ (nfa0_29 k).toInt ≤ 8) ∧ ((Ff_X8_turnIn a1.toInt a0_14.toInt a0_30.toInt a0_31.toInt (fl_A fa0_15) (fl_A fa0_17) (fl_A fa0_29)).2 = (na0_0.toInt, na0_11.toInt, na0_30.toInt, na0_31.toInt, (fl_A nfa0_29))) ∧ ax_B dC dI (va_A [(a0, .inr (8, [Value.int a0_0, a0g_1, a0g_2, a0g_3, a0g_4, a0g_5, a0g_6, a0g_7, a0g_8, a0g_9, a0g_10, Value.int a0_11, a0g_12, a0g_13, Value.int a0_14, Value.ref a0_15, a0g_16, Value.ref a0_17, a0g_18, a0g_19, a0g_20, a0g_21, a0g_22, a0g_23, a0g_24, a0g_25, a0g_26, a0g_27, a0g_28, Value.ref a0_29, Value.int a0_30, Value.int a0_31, a0g_32, a0g_33, a0g_34, a0g_35, a0g_36, a0g_37, a0g_38, a0g_39])), (a0_15, .inl (ka0_15, 156, .inl (fa0_15))), (a0_17, .inl (ka0_17, 23, .inl (fa0_17))), (a0_29, .inl (ka0_29, 10, .inl (fa0_29)))] sz) [(a0, .inr (8, [Value.int na0_0, a0g_1, a0g_2, a0g_3, a0g_4, a0g_5, a0g_6, a0g_7, a0g_8, a0g_9, a0g_10, Value.int na0_11, a0g_12, a0g_13, Value.int a0_14, Value.ref a0_15, a0g_16, Value.ref a0_17, a0g_18, a0g_19, a0g_20, a0g_21, a0g_22, a0g_23, a0g_24, a0g_25, a0g_26, a0g_27, a0g_28, Value.ref a0_29, Value.int na0_30, Value.int na0_31, a0g_32, a0g_33, a0g_34, a0g_35, a0g_36, a0g_37, a0g_38, a0g_39])), (a0_15, .inl (ka0_15, 156, .inl (fa0_15))), (a0_17, .inl (ka0_17, 23, .inl (fa0_17))), (a0_29, .inl (ka0_29, 10, .inl (nfa0_29)))] [(ka0_15, .int), (ka0_17, .int), (ka0_29, .int)] t) (va_A [(a0, .inr (8, [Value.int a0_0, a0g_1, a0g_2, a0g_3, a0g_4, a0g_5, a0g_6, a0g_7, a0g_8, a0g_9, a0g_10, Value.int a0_11, a0g_12, a0g_13, Value.int a0_14, Value.ref a0_15, a0g_16, Value.ref a0_17, a0g_18, a0g_19, a0g_20, a0g_21, a0g_22, a0g_23, a0g_24, a0g_25, a0g_26, a0g_27, a0g_28, Value.ref a0_29, Value.int a0_30, Value.int a0_31, a0g_32, a0g_33, a0g_34, a0g_35, a0g_36, a0g_37, a0g_38, a0g_39])), (a0_15, .inl (ka0_15, 156, .inl (fa0_15))), (a0_17, .inl (ka0_17, 23, .inl (fa0_17))), (a0_29, .inl (ka0_29, 10, .inl (fa0_29)))] sz)) 0 0 (va_A [(a0, .inr (8, [Value.int a0_0, a0g_1, a0g_2, a0g_3, a0g_4, a0g_5, a0g_6, a0g_7, a0g_8, a0g_9, a0g_10, Value.int a0_11, a0g_12, a0g_13, Value.int a0_14, Value.ref a0_15, a0g_16, Value.ref a0_17, a0g_18, a0g_19, a0g_20, a0g_21, a0g_22, a0g_23, a0g_24, a0g_25, a0g_26, a0g_27, a0g_28, Value.ref a0_29, Value.int a0_30, Value.int a0_31, a0g_32, a0g_33, a0g_34, a0g_35, a0g_36, a0g_37, a0g_38, a0g_39])), (a0_15, .inl (ka0_15, 156, .inl (fa0_15))), (a0_17, .inl (ka0_17, 23, .inl (fa0_17))), (a0_29, .inl (ka0_29, 10, .inl (fa0_29)))] sz) := by
  refine Met.ofW (cc := cX8_turnIn) (maxL := 3) (ret := (some .int)) (by decide) rfl ?_
  intro p e s m args below meth c s₁ B hml hv
  obtain ⟨rfl, hsz, hP, hK, hD0, hE⟩ := hv
  have hx := B.exec
  have hb := B.bytes
  have hr := B.returns
  have hts := atoms_spec (ws := wsX8_turnIn) B.pre
  have hown : s.vm.findClass RX8 = some m.cls := findClass_of_methodNamed B.named
  have hlocks := B.notSynchronized
  subst hsz
  have hD := hD0.self (sz := s.heap.size)
  generalize hAe : va_A [(a0, .inr (8, [Value.int a0_0, a0g_1, a0g_2, a0g_3, a0g_4, a0g_5, a0g_6, a0g_7, a0g_8, a0g_9, a0g_10, Value.int a0_11, a0g_12, a0g_13, Value.int a0_14, Value.ref a0_15, a0g_16, Value.ref a0_17, a0g_18, a0g_19, a0g_20, a0g_21, a0g_22, a0g_23, a0g_24, a0g_25, a0g_26, a0g_27, a0g_28, Value.ref a0_29, Value.int a0_30, Value.int a0_31, a0g_32, a0g_33, a0g_34, a0g_35, a0g_36, a0g_37, a0g_38, a0g_39])), (a0_15, .inl (ka0_15, 156, .inl (fa0_15))), (a0_17, .inl (ka0_17, 23, .inl (fa0_17))), (a0_29, .inl (ka0_29, 10, .inl (fa0_29)))] s.heap.size = A at hD ⊢
  have hA : ∀ q : Nat, s.heap.size ≤ q → A q := fun q h => by rw [← hAe]; exact Or.inr h
  have hS : va_S A s.heap s.heap [] := va_S.rf
  have hP : va_P (dC, dI) vwCl [(a0, .inr (8, [Value.int a0_0, a0g_1, a0g_2, a0g_3, a0g_4, a0g_5, a0g_6, a0g_7, a0g_8, a0g_9, a0g_10, Value.int a0_11, a0g_12, a0g_13, Value.int a0_14, Value.ref a0_15, a0g_16, Value.ref a0_17, a0g_18, a0g_19, a0g_20, a0g_21, a0g_22, a0g_23, a0g_24, a0g_25, a0g_26, a0g_27, a0g_28, Value.ref a0_29, Value.int a0_30, Value.int a0_31, a0g_32, a0g_33, a0g_34, a0g_35, a0g_36, a0g_37, a0g_38, a0g_39])), (a0_15, .inl (ka0_15, 156, .inl (fa0_15))), (a0_17, .inl (ka0_17, 23, .inl (fa0_17))), (a0_29, .inl (ka0_29, 10, .inl (fa0_29)))] s.heap := hP
  have hl := lv_entry ([.ref a0, .int a1]) (n := 3) (Nat.le_of_ble_eq_true rfl)
  rw [lg_entry_eq]
  generalize (lg_sl ([.ref a0, .int a1]) ++ List.replicate (3 - (lg_sl ([.ref a0, .int a1])).length) Slot.unset).toArray = ls at hl ⊢
  have hl : lv_has ls 3 [(0, .ref a0), (1, .int a1)] := hl
  generalize hFX : Ff_X8_turnIn a1.toInt a0_14.toInt a0_30.toInt a0_31.toInt (fl_A fa0_15) (fl_A fa0_17) (fl_A fa0_29) = FX at ⊢
  have hF0 := hFX.symm.trans (Ff_X8_turnIn.eq_1 a1.toInt a0_14.toInt a0_30.toInt a0_31.toInt (fl_A fa0_15) (fl_A fa0_17) (fl_A fa0_29))
  refine ai_open (fun K hK0 => ?_)
  refine (hK0 _ _ _).mpr ?_
  refine lv_aload_n hx hb dX8_turnIn_0 rfl (lv_at hl 0 rfl) ?_
  obtain ⟨hPc, hDc, hFc, hCc⟩ := zc_cut (wc := [(a0, .inr (8, [Value.int a0_0, a0g_1, a0g_2, a0g_3, a0g_4, a0g_5, a0g_6, a0g_7, a0g_8, a0g_9, a0g_10, Value.int a0_11, a0g_12, a0g_13, Value.int a0_14, Value.ref a0_15, a0g_16, Value.ref a0_17, a0g_18, a0g_19, a0g_20, a0g_21, a0g_22, a0g_23, a0g_24, a0g_25, a0g_26, a0g_27, a0g_28, Value.ref a0_29, Value.int a0_30, Value.int a0_31, a0g_32, a0g_33, a0g_34, a0g_35, a0g_36, a0g_37, a0g_38, a0g_39]))]) hP hD hS hA [0] (by decide +kernel) rfl
  have hKc := hK.sub (tys' := []) [] rfl
  refine va_callv (va_runV (As := []) (rest := []) ⟨hx, hb, hml, hown, hts⟩ (f_X8_good l dC dI s.heap.size a0 a0_0 a0g_1 a0g_2 a0g_3 a0g_4 a0g_5 a0g_6 a0g_7 a0g_8 a0g_9 a0g_10 a0g_12 a0g_13 (Value.int a0_14) (Value.ref a0_15) a0g_16 (Value.ref a0_17) a0g_18 a0g_19 a0g_20 a0g_21 a0g_22 a0g_23 a0g_24 a0g_25 a0g_26 a0g_27 a0g_28 (Value.ref a0_29) (Value.int a0_30) (Value.int a0_31) a0g_32 a0g_33 a0g_34 a0g_35 a0g_36 a0g_37 a0g_38 a0g_39 a0_11 ) (cwV 0 hts gX8_turnIn_X8_good rfl rfl rfl zd_X8_good ⟨Nat.le_of_ble_eq_true rfl, Nat.le_of_ble_eq_true rfl⟩) ⟨ax_blind (fun _ _ _ _ _ => trivial), zr_8 hKc hPc (q0 := 0) rfl, ax_pre hPc hKc hDc (fun _ _ => trivial)⟩ rfl rfl hl.1 rfl (lv_room (Nat.le_of_ble_eq_true rfl)) dX8_turnIn_1 ⟨Nat.le_of_ble_eq_true rfl, Nat.le_of_ble_eq_true rfl⟩) hS (fun q _ h => hFc q h) hFc (fun u t H locs ht hvm hw hB hz1 hk1 hS => ?_)
  obtain ⟨v1na0_0, v1na0_11, hraw1_0, hP1, hK1, hD1⟩ := hB
  rw [ht] at hP1
  obtain ⟨hP, hD⟩ := zc_back (w := [(a0, .inr (8, [Value.int v1na0_0, a0g_1, a0g_2, a0g_3, a0g_4, a0g_5, a0g_6, a0g_7, a0g_8, a0g_9, a0g_10, Value.int v1na0_11, a0g_12, a0g_13, Value.int a0_14, Value.ref a0_15, a0g_16, Value.ref a0_17, a0g_18, a0g_19, a0g_20, a0g_21, a0g_22, a0g_23, a0g_24, a0g_25, a0g_26, a0g_27, a0g_28, Value.ref a0_29, Value.int a0_30, Value.int a0_31, a0g_32, a0g_33, a0g_34, a0g_35, a0g_36, a0g_37, a0g_38, a0g_39])), (a0_15, .inl (ka0_15, 156, .inl (fa0_15))), (a0_17, .inl (ka0_17, 23, .inl (fa0_17))), (a0_29, .inl (ka0_29, 10, .inl (fa0_29)))]) hP hD hCc hk1 hFc hP1 hD1 [.inr 0, .inl 1, .inl 2, .inl 3] (by decide +kernel) rfl
  have hc1 : Ff_X8_good = (v1na0_0.toInt, v1na0_11.toInt) := hraw1_0
  have hF0 := hF0.trans (fl_c2_eq hc1)
  refine lv_aload_n hx hb dX8_turnIn_4 rfl (lv_at hl 0 rfl) ?_
  refine lv_iload_n hx hb dX8_turnIn_5 rfl (lv_at hl 1 rfl) ?_
  obtain ⟨hPc, hDc, hFc, hCc⟩ := zc_cut (wc := [(a0, .inr (8, [Value.int v1na0_0, a0g_1, a0g_2, a0g_3, a0g_4, a0g_5, a0g_6, a0g_7, a0g_8, a0g_9, a0g_10, Value.int v1na0_11, a0g_12, a0g_13, Value.int a0_14, Value.ref a0_15, a0g_16, Value.ref a0_17, a0g_18, a0g_19, a0g_20, a0g_21, a0g_22, a0g_23, a0g_24, a0g_25, a0g_26, a0g_27, a0g_28, Value.ref a0_29, Value.int a0_30, Value.int a0_31, a0g_32, a0g_33, a0g_34, a0g_35, a0g_36, a0g_37, a0g_38, a0g_39])), (a0_15, .inl (ka0_15, 156, .inl (fa0_15)))]) hP hD hS hA [0, 1] (by decide +kernel) rfl
  have hKc := hK.sub (tys' := [(ka0_15, .int)]) [0] rfl
  refine va_calli (va_runV (As := [.int a1]) (rest := []) ⟨hx, hb, hml, hown, hts⟩ (f_X8_isFigure l dC dI H.size a0 a1 (Value.int v1na0_0) a0g_1 a0g_2 a0g_3 a0g_4 a0g_5 a0g_6 a0g_7 a0g_8 a0g_9 a0g_10 (Value.int v1na0_11) a0g_12 a0g_13 a0g_16 (Value.ref a0_17) a0g_18 a0g_19 a0g_20 a0g_21 a0g_22 a0g_23 a0g_24 a0g_25 a0g_26 a0g_27 a0g_28 (Value.ref a0_29) (Value.int a0_30) (Value.int a0_31) a0g_32 a0g_33 a0g_34 a0g_35 a0g_36 a0g_37 a0g_38 a0g_39 a0_14 a0_15 ka0_15 fa0_15 ba0_14_l ba0_14_u bfa0_15) (cwV 1 hts gX8_turnIn_X8_isFigure rfl rfl rfl zd_X8_isFigure ⟨Nat.le_of_ble_eq_true rfl, Nat.le_of_ble_eq_true rfl⟩) ⟨ax_blind (fun _ _ _ _ _ => trivial), zr_8 hKc hPc (q0 := 0) rfl, ax_pre hPc hKc hDc (fun _ _ => trivial)⟩ rfl rfl hl.1 rfl (lv_room (Nat.le_of_ble_eq_true rfl)) dX8_turnIn_6 ⟨Nat.le_of_ble_eq_true rfl, Nat.le_of_ble_eq_true rfl⟩) hS (fun q _ h => hFc q h) hFc (fun r6 u t H locs ht hvm hw hB hz1 hk1 hS => ?_)
  obtain ⟨hP1, hK1, hD1⟩ := hB
  rw [ht] at hP1
  obtain ⟨hP, hD⟩ := zc_back (w := [(a0, .inr (8, [Value.int v1na0_0, a0g_1, a0g_2, a0g_3, a0g_4, a0g_5, a0g_6, a0g_7, a0g_8, a0g_9, a0g_10, Value.int v1na0_11, a0g_12, a0g_13, Value.int a0_14, Value.ref a0_15, a0g_16, Value.ref a0_17, a0g_18, a0g_19, a0g_20, a0g_21, a0g_22, a0g_23, a0g_24, a0g_25, a0g_26, a0g_27, a0g_28, Value.ref a0_29, Value.int a0_30, Value.int a0_31, a0g_32, a0g_33, a0g_34, a0g_35, a0g_36, a0g_37, a0g_38, a0g_39])), (a0_15, .inl (ka0_15, 156, .inl (fa0_15))), (a0_17, .inl (ka0_17, 23, .inl (fa0_17))), (a0_29, .inl (ka0_29, 10, .inl (fa0_29)))]) hP hD hCc hk1 hFc hP1 hD1 [.inr 0, .inr 1, .inl 2, .inl 3] (by decide +kernel) rfl
  obtain ⟨hw, hfr6⟩ := hw
  have hc6 : Ff_X8_isFigure a1.toInt a0_14.toInt (fl_A fa0_15) = r6.toInt := hfr6.symm
  have hF0 := hF0.trans (fl_lt_eq hc6.symm)
  rcases hw with hw | hw
  · obtain ⟨hw, h6_0, h6_1⟩ := hw
    subst hw
    have l6k0_a1 : (0 : Int) ≤ a1.toInt := h6_0
    have u6k0_a1 : a1.toInt ≤ (8 : Int) := h6_1
    have hF0 := hF0.trans (if_pos (by decide))
    refine lv_if_ne (tgt := 18) hx hb dX8_turnIn_9 (by decide) (fun _ => ?_) (fun c9 => absurd c9 (by decide +kernel))
    refine lv_aload_n hx hb dX8_turnIn_18 rfl (lv_at hl 0 rfl) ?_
    obtain ⟨hPc, hDc, hFc, hCc⟩ := zc_cut (wc := [(a0, .inr (8, [Value.int v1na0_0, a0g_1, a0g_2, a0g_3, a0g_4, a0g_5, a0g_6, a0g_7, a0g_8, a0g_9, a0g_10, Value.int v1na0_11, a0g_12, a0g_13, Value.int a0_14, Value.ref a0_15, a0g_16, Value.ref a0_17, a0g_18, a0g_19, a0g_20, a0g_21, a0g_22, a0g_23, a0g_24, a0g_25, a0g_26, a0g_27, a0g_28, Value.ref a0_29, Value.int a0_30, Value.int a0_31, a0g_32, a0g_33, a0g_34, a0g_35, a0g_36, a0g_37, a0g_38, a0g_39])), (a0_17, .inl (ka0_17, 23, .inl (fa0_17))), (a0_29, .inl (ka0_29, 10, .inl (fa0_29))), (a0_15, .inl (ka0_15, 156, .inl (fa0_15)))]) hP hD hS hA [0, 2, 3, 1] (by decide +kernel) rfl
    have hKc := hK.sub (tys' := [(ka0_17, .int), (ka0_29, .int), (ka0_15, .int)]) [1, 2, 0] rfl
    refine va_callv (va_runV (As := []) (rest := []) ⟨hx, hb, hml, hown, hts⟩ (f_X8_goRound l dC dI H.size a0 (Value.int v1na0_0) a0g_1 a0g_2 a0g_3 a0g_4 a0g_5 a0g_6 a0g_7 a0g_8 a0g_9 a0g_10 (Value.int v1na0_11) a0g_12 a0g_13 (Value.int a0_14) a0g_16 a0g_18 a0g_19 a0g_20 a0g_21 a0g_22 a0g_23 a0g_24 a0g_25 a0g_26 a0g_27 a0g_28 a0g_32 a0g_33 a0g_34 a0g_35 a0g_36 a0g_37 a0g_38 a0g_39 a0_15 a0_17 a0_29 a0_30 a0_31 ka0_17 fa0_17 ka0_29 fa0_29 ka0_15 fa0_15 bfa0_17 bfa0_29 bfa0_15) (cwV 0 hts gX8_turnIn_X8_goRound rfl rfl rfl zd_X8_goRound ⟨Nat.le_of_ble_eq_true rfl, Nat.le_of_ble_eq_true rfl⟩) ⟨ax_blind (fun _ _ _ _ _ => trivial), zr_8 hKc hPc (q0 := 0) rfl, ax_pre hPc hKc hDc (fun _ _ => trivial)⟩ rfl rfl hl.1 rfl (lv_room (Nat.le_of_ble_eq_true rfl)) dX8_turnIn_19 ⟨Nat.le_of_ble_eq_true rfl, Nat.le_of_ble_eq_true rfl⟩) hS (fun q _ h => hFc q h) hFc (fun u t H locs ht hvm hw hB hz1 hk1 hS => ?_)
    obtain ⟨v19na0_30, v19na0_31, v19nfa0_29, bv19nfa0_29, hraw19_0, hraw19_1, hP1, hK1, hD1⟩ := hB
    rw [ht] at hP1
    obtain ⟨hP, hD⟩ := zc_back (w := [(a0, .inr (8, [Value.int v1na0_0, a0g_1, a0g_2, a0g_3, a0g_4, a0g_5, a0g_6, a0g_7, a0g_8, a0g_9, a0g_10, Value.int v1na0_11, a0g_12, a0g_13, Value.int a0_14, Value.ref a0_15, a0g_16, Value.ref a0_17, a0g_18, a0g_19, a0g_20, a0g_21, a0g_22, a0g_23, a0g_24, a0g_25, a0g_26, a0g_27, a0g_28, Value.ref a0_29, Value.int v19na0_30, Value.int v19na0_31, a0g_32, a0g_33, a0g_34, a0g_35, a0g_36, a0g_37, a0g_38, a0g_39])), (a0_15, .inl (ka0_15, 156, .inl (fa0_15))), (a0_17, .inl (ka0_17, 23, .inl (fa0_17))), (a0_29, .inl (ka0_29, 10, .inl (v19nfa0_29)))]) hP hD hCc hk1 hFc hP1 hD1 [.inr 0, .inr 3, .inr 1, .inr 2] (by decide +kernel) rfl
    have hc19 : Ff_X8_goRound (fl_A fa0_17) (fl_A fa0_29) (fl_A fa0_15) = (v19na0_30.toInt, v19na0_31.toInt, (fl_A v19nfa0_29)) := hraw19_1
    have hF0 := hF0.trans (fl_c3_eq hc19)
    refine lv_iconst (v := 0) hx hb dX8_turnIn_22 zk_iconst_0 ?_
    refine lv_istore_n (lv' := [(2, .int 0), (0, .ref a0), (1, .int a1)]) hx hb dX8_turnIn_23 rfl hl (by decide) rfl (fun ls hl => ?_)
    have J24 : ∀ (n : Nat) (j24l2 : Int32) (H : Heap) (locs : List Loc) (ls : Array Slot), (10 : Int) - j24l2.toInt ≤ (n : Int) → (0 : Int) ≤ j24l2.toInt → j24l2.toInt ≤ (9 : Int) → (FX = fl_wh (Sf_X8_turnIn_24_1 a1.toInt v1na0_0.toInt v1na0_11.toInt v19na0_30.toInt v19na0_31.toInt (fl_A v19nfa0_29)) (0, 0, 0, 0, 0, (fun _ => 0)) n j24l2.toInt) → va_P (dC, dI) vwCl [(a0, .inr (8, [Value.int v1na0_0, a0g_1, a0g_2, a0g_3, a0g_4, a0g_5, a0g_6, a0g_7, a0g_8, a0g_9, a0g_10, Value.int v1na0_11, a0g_12, a0g_13, Value.int a0_14, Value.ref a0_15, a0g_16, Value.ref a0_17, a0g_18, a0g_19, a0g_20, a0g_21, a0g_22, a0g_23, a0g_24, a0g_25, a0g_26, a0g_27, a0g_28, Value.ref a0_29, Value.int v19na0_30, Value.int v19na0_31, a0g_32, a0g_33, a0g_34, a0g_35, a0g_36, a0g_37, a0g_38, a0g_39])), (a0_15, .inl (ka0_15, 156, .inl (fa0_15))), (a0_17, .inl (ka0_17, 23, .inl (fa0_17))), (a0_29, .inl (ka0_29, 10, .inl (v19nfa0_29)))] H → va_D A [(a0, .inr (8, [Value.int v1na0_0, a0g_1, a0g_2, a0g_3, a0g_4, a0g_5, a0g_6, a0g_7, a0g_8, a0g_9, a0g_10, Value.int v1na0_11, a0g_12, a0g_13, Value.int a0_14, Value.ref a0_15, a0g_16, Value.ref a0_17, a0g_18, a0g_19, a0g_20, a0g_21, a0g_22, a0g_23, a0g_24, a0g_25, a0g_26, a0g_27, a0g_28, Value.ref a0_29, Value.int v19na0_30, Value.int v19na0_31, a0g_32, a0g_33, a0g_34, a0g_35, a0g_36, a0g_37, a0g_38, a0g_39])), (a0_15, .inl (ka0_15, 156, .inl (fa0_15))), (a0_17, .inl (ka0_17, 23, .inl (fa0_17))), (a0_29, .inl (ka0_29, 10, .inl (v19nfa0_29)))] → va_S A s.heap H locs → lv_has ls 3 [(0, .ref a0), (1, .int a1), (2, .int j24l2)] → K H locs (F0 m 24 ls []) := by
      intro n
      induction n with
      | zero =>
        intro j24l2 H locs ls hm bj24l2_l bj24l2_u hF0 hP hD hS hl
        have h8 := ai_min j24l2
        have h9 := ai_max j24l2
        exact absurd hm (by omega)
      | succ n ih24 =>
        intro j24l2 H locs ls hm bj24l2_l bj24l2_u hF0 hP hD hS hl
        refine (hK0 _ _ _).mpr ?_
        have hm24 := hm
        obtain ⟨SX24, hSX24⟩ : ∃ q9, Sf_X8_turnIn_24_1 a1.toInt v1na0_0.toInt v1na0_11.toInt v19na0_30.toInt v19na0_31.toInt (fl_A v19nfa0_29) j24l2.toInt = q9 := ⟨_, rfl⟩
        have hF1 := hSX24.symm.trans (Sf_X8_turnIn_24_1.eq_1 a1.toInt v1na0_0.toInt v1na0_11.toInt v19na0_30.toInt v19na0_31.toInt (fl_A v19nfa0_29) j24l2.toInt)
        refine lv_iload_n hx hb dX8_turnIn_24 rfl (lv_at hl 2 rfl) ?_
        refine lv_aload_n hx hb dX8_turnIn_25 rfl (lv_at hl 0 rfl) ?_
        refine va_get (D := (dC, dI)) (ci := 8) (v := .int v19na0_30) (C := RX8) (T := TX8) (N := 40) hx hb hts zi_X8_turnIn_8 hown hK hP 0 rfl rfl 30 (by decide) (hts (.fieldLink RX8 283 "WaxTurnsModel" "settled" "I") (zm_X8_turnIn_r1 (List.mem_of_getElem? (i := 0) rfl))) (fun _ h9 => h9) rfl dX8_turnIn_26 ?_
        refine lv_aload_n hx hb dX8_turnIn_29 rfl (lv_at hl 0 rfl) ?_
        refine va_get (D := (dC, dI)) (ci := 8) (v := .int v19na0_31) (C := RX8) (T := TX8) (N := 40) hx hb hts zi_X8_turnIn_8 hown hK hP 0 rfl rfl 31 (by decide) (hts (.fieldLink RX8 286 "WaxTurnsModel" "again" "I") (zm_X8_turnIn_r1 (List.mem_of_getElem? (i := 1) rfl))) (fun _ h9 => h9) rfl dX8_turnIn_30 ?_
        refine lv_iadd hx hb dX8_turnIn_33 ?_
        refine lv_topi (fun x33 ex33 => ?_)
        have qx33 : x33.toInt = v19na0_30.toInt + v19na0_31.toInt := ai_add ex33 ⟨(by omega : (0 : Int) ≤ v19na0_30.toInt), (by omega : v19na0_30.toInt ≤ (8 : Int))⟩ ⟨(by omega : (1 : Int) ≤ v19na0_31.toInt), (by omega : v19na0_31.toInt ≤ (9 : Int))⟩ (by decide) (by decide)
        have bx33 : (1 : Int) ≤ x33.toInt ∧ x33.toInt ≤ 17 := ⟨by rw [qx33]; exact Int.add_le_add (by omega : (0 : Int) ≤ v19na0_30.toInt) (by omega : (1 : Int) ≤ v19na0_31.toInt), by rw [qx33]; exact Int.add_le_add (by omega : v19na0_30.toInt ≤ (8 : Int)) (by omega : v19na0_31.toInt ≤ (9 : Int))⟩
        have hF1 := hF1.trans (fl_lt_eq (show x33.toInt = v19na0_30.toInt + v19na0_31.toInt from qx33))
        have u33z_x33 : x33.toInt ≤ (9 : Int) := by omega
        refine lv_icmp_ge (tgt := 55) hx hb dX8_turnIn_34 (by decide) (fun c34 => ?_) (fun c34 => ?_)
        · have gc34 := ai_le c34
          have u34t_x33 : x33.toInt ≤ (9 : Int) := u33z_x33
          have l34t_j24l2 : (1 : Int) ≤ j24l2.toInt := Int.le_trans bx33.1 gc34
          have hF1 := hF1.trans (if_pos (show x33.toInt ≤ j24l2.toInt from gc34))
          have hF0 := hF0.trans (fl_wh_r (hSX24.trans hF1))
          refine lv_bipush (v := (-2)) hx hb dX8_turnIn_55 zk_bipush_n2 ?_
          have hFe : FX = ((-2), v1na0_0.toInt, v1na0_11.toInt, v19na0_30.toInt, v19na0_31.toInt, (fl_A v19nfa0_29)) := hF0
          exact W.iret (v := (-2)) hx hb hr (fun t ht hW => ⟨⟨(-2), (), rfl, ⟨⟨zq45, (Int.le_trans zq44 zq74)⟩, (congrArg Prod.fst hFe).symm⟩, v1na0_0, v1na0_11, v19na0_30, v19na0_31, v19nfa0_29, bv19nfa0_29, (congrArg Prod.snd hFe), by rw [ht]; exact hP, va_K.moved hW.alike hK, hD⟩, hS.F ht⟩) hS.2.2 dX8_turnIn_57
        · have gc34 := ai_nle c34
          have u34f_j24l2 : j24l2.toInt ≤ (8 : Int) := ai_lthi gc34 u33z_x33
          have l34f_x33 : (1 : Int) ≤ x33.toInt := bx33.1
          have hF1 := hF1.trans (if_neg (show ¬ (x33.toInt ≤ j24l2.toInt) from Int.not_le.mpr gc34))
          refine lv_aload_n hx hb dX8_turnIn_37 rfl (lv_at hl 0 rfl) ?_
          refine va_get (D := (dC, dI)) (ci := 8) (v := .ref a0_29) (C := RX8) (T := TX8) (N := 40) hx hb hts zi_X8_turnIn_8 hown hK hP 0 rfl rfl 29 (by decide) (hts (.fieldLink RX8 44 "WaxTurnsModel" "row" "[I") (zm_X8_turnIn_r1 (List.mem_of_getElem? (i := 2) rfl))) (fun _ h9 => h9) rfl dX8_turnIn_38 ?_
          refine lv_iload_n hx hb dX8_turnIn_41 rfl (lv_at hl 2 rfl) ?_
          refine va_iald hx hb hK hP 3 2 rfl rfl (ai_in bj24l2_l u34f_j24l2 (by decide) (by decide)) dX8_turnIn_42 ?_
          refine lv_topi (fun x42 ex42 => ?_)
          have bx42 : (0 : Int) ≤ x42.toInt ∧ x42.toInt ≤ 8 := by rw [ex42]; exact bv19nfa0_29 _
          have fqx42 := congrArg Int32.toInt ex42
          have hF1 := hF1.trans (fl_lt_eq (show x42.toInt = (fl_A v19nfa0_29) (j24l2.toInt.toNat) from fqx42))
          refine lv_iload_n hx hb dX8_turnIn_43 rfl (lv_at hl 1 rfl) ?_
          refine lv_icmp_ne (tgt := 49) hx hb dX8_turnIn_44 (by decide) (fun c44 => ?_) (fun c44 => ?_)
          · have gc44 := ai_ne c44
            have hF1 := hF1.trans (if_neg (show ¬ (x42.toInt = a1.toInt) from  gc44))
            obtain ⟨x49, ex49⟩ : ∃ y : Int32, y = j24l2 + Int32.ofInt 1 := ⟨_, rfl⟩
            have qx49 : x49.toInt = j24l2.toInt + 1 := ai_inc ex49 (by decide) (by decide) u34f_j24l2 (by decide)
            have bx49 : (1 : Int) ≤ x49.toInt ∧ x49.toInt ≤ 9 := ⟨by rw [qx49]; exact Int.add_le_add bj24l2_l (Int.le_refl _), by rw [qx49]; exact Int.add_le_add u34f_j24l2 (Int.le_refl _)⟩
            refine lv_iinc (v := x49) (lv' := [(2, .int x49), (0, .ref a0), (1, .int a1)]) hx hb dX8_turnIn_49 hl (k := 2) rfl ex49.symm (by decide) rfl (fun ls hl => ?_)
            have hF1 := hF1.trans (fl_lt_eq (show x49.toInt = j24l2.toInt + 1 from qx49))
            refine lv_goto (tgt := 24) hx hb dX8_turnIn_52 (by decide) ?_
            exact (hK0 _ _ _).mp (ih24 x49 _ _ _ (by have h0 := qx49; omega) (Int.le_trans zq4 bx49.1) bx49.2 (hF0.trans (fl_wh_l (hSX24.trans hF1))) hP hD hS (lv_sub hl [1, 2, 0] rfl))
          · have gc44 := ai_eq c44
            have u44f_x42 : x42.toInt ≤ (8 : Int) := bx42.2
            have l44f_x42 : (0 : Int) ≤ x42.toInt := bx42.1
            have u44f_a1 : a1.toInt ≤ (8 : Int) := u6k0_a1
            have l44f_a1 : (0 : Int) ≤ a1.toInt := l6k0_a1
            have hF1 := hF1.trans (if_pos (show x42.toInt = a1.toInt from gc44))
            have hF0 := hF0.trans (fl_wh_r (hSX24.trans hF1))
            refine lv_iload_n hx hb dX8_turnIn_47 rfl (lv_at hl 2 rfl) ?_
            have hFe : FX = (j24l2.toInt, v1na0_0.toInt, v1na0_11.toInt, v19na0_30.toInt, v19na0_31.toInt, (fl_A v19nfa0_29)) := hF0
            exact W.iret (v := j24l2) hx hb hr (fun t ht hW => ⟨⟨j24l2, (), rfl, ⟨⟨(Int.le_trans zq75 bj24l2_l), u34f_j24l2⟩, (congrArg Prod.fst hFe).symm⟩, v1na0_0, v1na0_11, v19na0_30, v19na0_31, v19nfa0_29, bv19nfa0_29, (congrArg Prod.snd hFe), by rw [ht]; exact hP, va_K.moved hW.alike hK, hD⟩, hS.F ht⟩) hS.2.2 dX8_turnIn_48
    exact (hK0 _ _ _).mp (J24 10 0 _ _ _ (by have h1 : (0 : Int) ≤ (0 : Int32).toInt := zq5; have h2 : (0 : Int32).toInt ≤ (0 : Int) := zq6; omega) zq5 (Int.le_trans zq6 zq7) (by rw [show (0 : Int32).toInt = 0 from by decide]; exact hF0) hP hD hS (lv_sub hl [1, 2, 0] rfl))
  · subst hw
    have hF0 := hF0.trans (if_neg (by decide))
    refine lv_if_ne (tgt := 18) hx hb dX8_turnIn_9 (by decide) (fun c9 => absurd (by decide +kernel) c9) (fun _ => ?_)
    refine lv_aload_n hx hb dX8_turnIn_12 rfl (lv_at hl 0 rfl) ?_
    refine lv_iconst (v := 1) hx hb dX8_turnIn_13 zk_iconst_1 ?_
    obtain ⟨hPc, hDc, hFc, hCc⟩ := zc_cut (wc := [(a0, .inr (8, [Value.int v1na0_0, a0g_1, a0g_2, a0g_3, a0g_4, a0g_5, a0g_6, a0g_7, a0g_8, a0g_9, a0g_10, Value.int v1na0_11, a0g_12, a0g_13, Value.int a0_14, Value.ref a0_15, a0g_16, Value.ref a0_17, a0g_18, a0g_19, a0g_20, a0g_21, a0g_22, a0g_23, a0g_24, a0g_25, a0g_26, a0g_27, a0g_28, Value.ref a0_29, Value.int a0_30, Value.int a0_31, a0g_32, a0g_33, a0g_34, a0g_35, a0g_36, a0g_37, a0g_38, a0g_39]))]) hP hD hS hA [0] (by decide +kernel) rfl
    have hKc := hK.sub (tys' := []) [] rfl
    refine va_calli (va_runV (As := [.int 1]) (rest := []) ⟨hx, hb, hml, hown, hts⟩ (f_X8_no l dC dI H.size a0 1 (Value.int v1na0_0) a0g_1 a0g_2 a0g_3 a0g_4 a0g_5 a0g_6 a0g_7 a0g_8 a0g_9 a0g_10 a0g_12 a0g_13 (Value.int a0_14) (Value.ref a0_15) a0g_16 (Value.ref a0_17) a0g_18 a0g_19 a0g_20 a0g_21 a0g_22 a0g_23 a0g_24 a0g_25 a0g_26 a0g_27 a0g_28 (Value.ref a0_29) (Value.int a0_30) (Value.int a0_31) a0g_32 a0g_33 a0g_34 a0g_35 a0g_36 a0g_37 a0g_38 a0g_39 v1na0_11 ) (cwV 1 hts gX8_turnIn_X8_no rfl rfl rfl zd_X8_no ⟨Nat.le_of_ble_eq_true rfl, Nat.le_of_ble_eq_true rfl⟩) ⟨ax_blind (fun _ _ _ _ _ => trivial), zr_8 hKc hPc (q0 := 0) rfl, ax_pre hPc hKc hDc (fun _ _ => trivial)⟩ rfl rfl hl.1 rfl (lv_room (Nat.le_of_ble_eq_true rfl)) dX8_turnIn_14 ⟨Nat.le_of_ble_eq_true rfl, Nat.le_of_ble_eq_true rfl⟩) hS (fun q _ h => hFc q h) hFc (fun r14 u t H locs ht hvm hw hB hz1 hk1 hS => ?_)
    obtain ⟨v14na0_11, hraw14_0, hP1, hK1, hD1⟩ := hB
    rw [ht] at hP1
    obtain ⟨hP, hD⟩ := zc_back (w := [(a0, .inr (8, [Value.int v1na0_0, a0g_1, a0g_2, a0g_3, a0g_4, a0g_5, a0g_6, a0g_7, a0g_8, a0g_9, a0g_10, Value.int v14na0_11, a0g_12, a0g_13, Value.int a0_14, Value.ref a0_15, a0g_16, Value.ref a0_17, a0g_18, a0g_19, a0g_20, a0g_21, a0g_22, a0g_23, a0g_24, a0g_25, a0g_26, a0g_27, a0g_28, Value.ref a0_29, Value.int a0_30, Value.int a0_31, a0g_32, a0g_33, a0g_34, a0g_35, a0g_36, a0g_37, a0g_38, a0g_39])), (a0_15, .inl (ka0_15, 156, .inl (fa0_15))), (a0_17, .inl (ka0_17, 23, .inl (fa0_17))), (a0_29, .inl (ka0_29, 10, .inl (fa0_29)))]) hP hD hCc hk1 hFc hP1 hD1 [.inr 0, .inl 1, .inl 2, .inl 3] (by decide +kernel) rfl
    obtain ⟨hw, hfr14⟩ := hw
    rw [show (1 : Int32).toInt = 1 from by decide] at hfr14 hraw14_0
    have hc14 : Ff_X8_no 1 = (r14.toInt, v14na0_11.toInt) := Prod.ext hfr14.symm hraw14_0
    have hF0 := hF0.trans (fl_c2_eq hc14)
    have hw : r14 = (-1) := hw
    have hw := hw.symm
    subst hw
    have hFe : FX = ((-1), v1na0_0.toInt, v14na0_11.toInt, a0_30.toInt, a0_31.toInt, (fl_A fa0_29)) := hF0
    exact W.iret (v := (-1)) hx hb hr (fun t ht hW => ⟨⟨(-1), (), rfl, ⟨⟨(Int.le_trans zq76 zq70), (Int.le_trans zq71 zq72)⟩, (congrArg Prod.fst hFe).symm⟩, v1na0_0, v14na0_11, a0_30, a0_31, fa0_29, bfa0_29, (congrArg Prod.snd hFe), by rw [ht]; exact hP, va_K.moved hW.alike hK, hD⟩, hS.F ht⟩) hS.2.2 dX8_turnIn_17

set_option maxHeartbeats 4000000 in
set_option maxRecDepth 100000 in
theorem f_X8_called (l : Launch) (dC : Nat → ClassId) (dI : Nat → Nat → Nat) (sz : Nat) (a0 : Nat) (a0_0 : Int32) (a0g_1 a0g_2 a0g_3 a0g_4 a0g_5 a0g_6 a0g_7 a0g_8 a0g_9 a0g_10 a0g_12 a0g_13 a0g_16 a0g_18 a0g_19 a0g_20 a0g_21 a0g_22 a0g_23 a0g_24 a0g_25 a0g_26 a0g_27 a0g_28 a0g_32 a0g_33 a0g_34 a0g_35 a0g_36 a0g_37 a0g_38 a0g_39 : Value) (a0_11 : Int32) (a0_14 : Int32) (a0_15 : Nat) (a0_17 : Nat) (a0_29 : Nat) (a0_30 : Int32) (a0_31 : Int32) (ka0_17 : ClassId) (fa0_17 : Nat → Int32) (ka0_29 : ClassId) (fa0_29 : Nat → Int32) (ka0_15 : ClassId) (fa0_15 : Nat → Int32) (ba0_14_l : (1 : Int) ≤ a0_14.toInt) (ba0_14_u : a0_14.toInt ≤ (1 : Int)) (bfa0_17 : ((∀ k : Nat, 0 ≤ k → k ≤ 8 → (0 : Int) ≤ (fa0_17 k).toInt ∧ (fa0_17 k).toInt ≤ 8) ∧ (∀ k : Nat, 19 ≤ k → k ≤ 19 → (0 : Int) ≤ (fa0_17 k).toInt ∧ (fa0_17 k).toInt ≤ 8) ∧ (∀ k : Nat, 20 ≤ k → k ≤ 20 → (0 : Int) ≤ (fa0_17 k).toInt ∧ (fa0_17 k).toInt ≤ 19))) (bfa0_29 : (∀ k, (0 : Int) ≤ (fa0_29 k).toInt ∧ (fa0_29 k).toInt ≤ 8)) (bfa0_15 : ((∀ k : Nat, 0 ≤ k → k ≤ 0 → (2 : Int) ≤ (fa0_15 k).toInt ∧ (fa0_15 k).toInt ≤ 9) ∧ (∀ k : Nat, 1 ≤ k → k ≤ 1 → (1 : Int) ≤ (fa0_15 k).toInt ∧ (fa0_15 k).toInt ≤ 20) ∧ (∀ k : Nat, 2 ≤ k → k ≤ 2 → (0 : Int) ≤ (fa0_15 k).toInt ∧ (fa0_15 k).toInt ≤ 8) ∧ (∀ k : Nat, 3 ≤ k → k ≤ 3 → (0 : Int) ≤ (fa0_15 k).toInt ∧ (fa0_15 k).toInt ≤ 100) ∧ (∀ k : Nat, 4 ≤ k → k ≤ 4 → (0 : Int) ≤ (fa0_15 k).toInt ∧ (fa0_15 k).toInt ≤ 9) ∧ (∀ k : Nat, 5 ≤ k → k ≤ 5 → (0 : Int) ≤ (fa0_15 k).toInt ∧ (fa0_15 k).toInt ≤ 3) ∧ (∀ k : Nat, 6 ≤ k → k ≤ 6 → (0 : Int) ≤ (fa0_15 k).toInt ∧ (fa0_15 k).toInt ≤ 6) ∧ (∀ k : Nat, 7 ≤ k → k ≤ 9 → (0 : Int) ≤ (fa0_15 k).toInt ∧ (fa0_15 k).toInt ≤ 8) ∧ (∀ k : Nat, 12 ≤ k → k ≤ 29 → (0 : Int) ≤ (fa0_15 k).toInt ∧ (fa0_15 k).toInt ≤ 20) ∧ (∀ k : Nat, 30 ≤ k → k ≤ 35 → (0 : Int) ≤ (fa0_15 k).toInt ∧ (fa0_15 k).toInt ≤ 8) ∧ (∀ k : Nat, 36 ≤ k → k ≤ 47 → (0 : Int) ≤ (fa0_15 k).toInt ∧ (fa0_15 k).toInt ≤ 999))) : Met l yX8_called wsX8_called ({ frames := 2, cells := 0, slots := 0, locals := 44 }) (va_Pc [.ref a0] (ax_C dC dI sz [(a0, .inr (8, [Value.int a0_0, a0g_1, a0g_2, a0g_3, a0g_4, a0g_5, a0g_6, a0g_7, a0g_8, a0g_9, a0g_10, Value.int a0_11, a0g_12, a0g_13, Value.int a0_14, Value.ref a0_15, a0g_16, Value.ref a0_17, a0g_18, a0g_19, a0g_20, a0g_21, a0g_22, a0g_23, a0g_24, a0g_25, a0g_26, a0g_27, a0g_28, Value.ref a0_29, Value.int a0_30, Value.int a0_31, a0g_32, a0g_33, a0g_34, a0g_35, a0g_36, a0g_37, a0g_38, a0g_39])), (a0_17, .inl (ka0_17, 23, .inl (fa0_17))), (a0_29, .inl (ka0_29, 10, .inl (fa0_29))), (a0_15, .inl (ka0_15, 156, .inl (fa0_15)))] [(ka0_17, .int), (ka0_29, .int), (ka0_15, .int)] (fun _ => True))) (va_Qi (fun (r : Int32) (_ : Unit) => (True) ∧ r.toInt = (Ff_X8_called a0_14.toInt (fl_A fa0_17) (fl_A fa0_29) (fl_A fa0_15)).1) (fun (_ : Unit) (t : State) => ∃ na0_0 : Int32, ∃ na0_11 : Int32, ∃ na0_30 : Int32, ∃ na0_31 : Int32, ∃ nfa0_29 : Nat → Int32, (∀ k, (0 : Int) ≤ (nfa0_29 k).toInt ∧ (nfa0_29 k).toInt ≤ 8) ∧ ((Ff_X8_called a0_14.toInt (fl_A fa0_17) (fl_A fa0_29) (fl_A fa0_15)).2 = (na0_0.toInt, na0_11.toInt, na0_30.toInt, na0_31.toInt, (fl_A nfa0_29))) ∧ ax_B dC dI (va_A [(a0, .inr (8, [Value.int a0_0, a0g_1, a0g_2, a0g_3, a0g_4, a0g_5, a0g_6, a0g_7, a0g_8, a0g_9, a0g_10, Value.int a0_11, a0g_12, a0g_13, Value.int a0_14, Value.ref a0_15, a0g_16, Value.ref a0_17, a0g_18, a0g_19, a0g_20, a0g_21, a0g_22, a0g_23, a0g_24, a0g_25, a0g_26, a0g_27, a0g_28, Value.ref a0_29, Value.int a0_30, Value.int a0_31, a0g_32, a0g_33, a0g_34, a0g_35, a0g_36, a0g_37, a0g_38, a0g_39])), (a0_17, .inl (ka0_17, 23, .inl (fa0_17))), (a0_29, .inl (ka0_29, 10, .inl (fa0_29))), (a0_15, .inl (ka0_15, 156, .inl (fa0_15)))] sz) [(a0, .inr (8, [Value.int na0_0, a0g_1, a0g_2, a0g_3, a0g_4, a0g_5, a0g_6, a0g_7, a0g_8, a0g_9, a0g_10, Value.int na0_11, a0g_12, a0g_13, Value.int a0_14, Value.ref a0_15, a0g_16, Value.ref a0_17, a0g_18, a0g_19, a0g_20, a0g_21, a0g_22, a0g_23, a0g_24, a0g_25, a0g_26, a0g_27, a0g_28, Value.ref a0_29, Value.int na0_30, Value.int na0_31, a0g_32, a0g_33, a0g_34, a0g_35, a0g_36, a0g_37, a0g_38, a0g_39])), (a0_17, .inl (ka0_17, 23, .inl (fa0_17))), (a0_29, .inl (ka0_29, 10, .inl (nfa0_29))), (a0_15, .inl (ka0_15, 156, .inl (fa0_15)))] [(ka0_17, .int), (ka0_29, .int), (ka0_15, .int)] t) (va_A [(a0, .inr (8, [Value.int a0_0, a0g_1, a0g_2, a0g_3, a0g_4, a0g_5, a0g_6, a0g_7, a0g_8, a0g_9, a0g_10, Value.int a0_11, a0g_12, a0g_13, Value.int a0_14, Value.ref a0_15, a0g_16, Value.ref a0_17, a0g_18, a0g_19, a0g_20, a0g_21, a0g_22, a0g_23, a0g_24, a0g_25, a0g_26, a0g_27, a0g_28, Value.ref a0_29, Value.int a0_30, Value.int a0_31, a0g_32, a0g_33, a0g_34, a0g_35, a0g_36, a0g_37, a0g_38, a0g_39])), (a0_17, .inl (ka0_17, 23, .inl (fa0_17))), (a0_29, .inl (ka0_29, 10, .inl (fa0_29))), (a0_15, .inl (ka0_15, 156, .inl (fa0_15)))] sz)) 0 0 (va_A [(a0, .inr (8, [Value.int a0_0, a0g_1, a0g_2, a0g_3, a0g_4, a0g_5, a0g_6, a0g_7, a0g_8, a0g_9, a0g_10, Value.int a0_11, a0g_12, a0g_13, Value.int a0_14, Value.ref a0_15, a0g_16, Value.ref a0_17, a0g_18, a0g_19, a0g_20, a0g_21, a0g_22, a0g_23, a0g_24, a0g_25, a0g_26, a0g_27, a0g_28, Value.ref a0_29, Value.int a0_30, Value.int a0_31, a0g_32, a0g_33, a0g_34, a0g_35, a0g_36, a0g_37, a0g_38, a0g_39])), (a0_17, .inl (ka0_17, 23, .inl (fa0_17))), (a0_29, .inl (ka0_29, 10, .inl (fa0_29))), (a0_15, .inl (ka0_15, 156, .inl (fa0_15)))] sz) := by
  refine Met.ofW (cc := cX8_called) (maxL := 3) (ret := (some .int)) (by decide) rfl ?_
  intro p e s m args below meth c s₁ B hml hv
  obtain ⟨rfl, hsz, hP, hK, hD0, hE⟩ := hv
  have hx := B.exec
  have hb := B.bytes
  have hr := B.returns
  have hts := atoms_spec (ws := wsX8_called) B.pre
  have hown : s.vm.findClass RX8 = some m.cls := findClass_of_methodNamed B.named
  have hlocks := B.notSynchronized
  subst hsz
  have hD := hD0.self (sz := s.heap.size)
  generalize hAe : va_A [(a0, .inr (8, [Value.int a0_0, a0g_1, a0g_2, a0g_3, a0g_4, a0g_5, a0g_6, a0g_7, a0g_8, a0g_9, a0g_10, Value.int a0_11, a0g_12, a0g_13, Value.int a0_14, Value.ref a0_15, a0g_16, Value.ref a0_17, a0g_18, a0g_19, a0g_20, a0g_21, a0g_22, a0g_23, a0g_24, a0g_25, a0g_26, a0g_27, a0g_28, Value.ref a0_29, Value.int a0_30, Value.int a0_31, a0g_32, a0g_33, a0g_34, a0g_35, a0g_36, a0g_37, a0g_38, a0g_39])), (a0_17, .inl (ka0_17, 23, .inl (fa0_17))), (a0_29, .inl (ka0_29, 10, .inl (fa0_29))), (a0_15, .inl (ka0_15, 156, .inl (fa0_15)))] s.heap.size = A at hD ⊢
  have hA : ∀ q : Nat, s.heap.size ≤ q → A q := fun q h => by rw [← hAe]; exact Or.inr h
  have hS : va_S A s.heap s.heap [] := va_S.rf
  have hP : va_P (dC, dI) vwCl [(a0, .inr (8, [Value.int a0_0, a0g_1, a0g_2, a0g_3, a0g_4, a0g_5, a0g_6, a0g_7, a0g_8, a0g_9, a0g_10, Value.int a0_11, a0g_12, a0g_13, Value.int a0_14, Value.ref a0_15, a0g_16, Value.ref a0_17, a0g_18, a0g_19, a0g_20, a0g_21, a0g_22, a0g_23, a0g_24, a0g_25, a0g_26, a0g_27, a0g_28, Value.ref a0_29, Value.int a0_30, Value.int a0_31, a0g_32, a0g_33, a0g_34, a0g_35, a0g_36, a0g_37, a0g_38, a0g_39])), (a0_17, .inl (ka0_17, 23, .inl (fa0_17))), (a0_29, .inl (ka0_29, 10, .inl (fa0_29))), (a0_15, .inl (ka0_15, 156, .inl (fa0_15)))] s.heap := hP
  have hl := lv_entry ([.ref a0]) (n := 3) (Nat.le_of_ble_eq_true rfl)
  rw [lg_entry_eq]
  generalize (lg_sl ([.ref a0]) ++ List.replicate (3 - (lg_sl ([.ref a0])).length) Slot.unset).toArray = ls at hl ⊢
  have hl : lv_has ls 3 [(0, .ref a0)] := hl
  generalize hFX : Ff_X8_called a0_14.toInt (fl_A fa0_17) (fl_A fa0_29) (fl_A fa0_15) = FX at ⊢
  have hF0 := hFX.symm.trans (Ff_X8_called.eq_1 a0_14.toInt (fl_A fa0_17) (fl_A fa0_29) (fl_A fa0_15))
  refine ai_open (fun K hK0 => ?_)
  refine (hK0 _ _ _).mpr ?_
  refine lv_aload_n hx hb dX8_called_0 rfl (lv_at hl 0 rfl) ?_
  obtain ⟨hPc, hDc, hFc, hCc⟩ := zc_cut (wc := [(a0, .inr (8, [Value.int a0_0, a0g_1, a0g_2, a0g_3, a0g_4, a0g_5, a0g_6, a0g_7, a0g_8, a0g_9, a0g_10, Value.int a0_11, a0g_12, a0g_13, Value.int a0_14, Value.ref a0_15, a0g_16, Value.ref a0_17, a0g_18, a0g_19, a0g_20, a0g_21, a0g_22, a0g_23, a0g_24, a0g_25, a0g_26, a0g_27, a0g_28, Value.ref a0_29, Value.int a0_30, Value.int a0_31, a0g_32, a0g_33, a0g_34, a0g_35, a0g_36, a0g_37, a0g_38, a0g_39]))]) hP hD hS hA [0] (by decide +kernel) rfl
  have hKc := hK.sub (tys' := []) [] rfl
  refine va_callv (va_runV (As := []) (rest := []) ⟨hx, hb, hml, hown, hts⟩ (f_X8_good l dC dI s.heap.size a0 a0_0 a0g_1 a0g_2 a0g_3 a0g_4 a0g_5 a0g_6 a0g_7 a0g_8 a0g_9 a0g_10 a0g_12 a0g_13 (Value.int a0_14) (Value.ref a0_15) a0g_16 (Value.ref a0_17) a0g_18 a0g_19 a0g_20 a0g_21 a0g_22 a0g_23 a0g_24 a0g_25 a0g_26 a0g_27 a0g_28 (Value.ref a0_29) (Value.int a0_30) (Value.int a0_31) a0g_32 a0g_33 a0g_34 a0g_35 a0g_36 a0g_37 a0g_38 a0g_39 a0_11 ) (cwV 0 hts gX8_called_X8_good rfl rfl rfl zd_X8_good ⟨Nat.le_of_ble_eq_true rfl, Nat.le_of_ble_eq_true rfl⟩) ⟨ax_blind (fun _ _ _ _ _ => trivial), zr_8 hKc hPc (q0 := 0) rfl, ax_pre hPc hKc hDc (fun _ _ => trivial)⟩ rfl rfl hl.1 rfl (lv_room (Nat.le_of_ble_eq_true rfl)) dX8_called_1 ⟨Nat.le_of_ble_eq_true rfl, Nat.le_of_ble_eq_true rfl⟩) hS (fun q _ h => hFc q h) hFc (fun u t H locs ht hvm hw hB hz1 hk1 hS => ?_)
  obtain ⟨v1na0_0, v1na0_11, hraw1_0, hP1, hK1, hD1⟩ := hB
  rw [ht] at hP1
  obtain ⟨hP, hD⟩ := zc_back (w := [(a0, .inr (8, [Value.int v1na0_0, a0g_1, a0g_2, a0g_3, a0g_4, a0g_5, a0g_6, a0g_7, a0g_8, a0g_9, a0g_10, Value.int v1na0_11, a0g_12, a0g_13, Value.int a0_14, Value.ref a0_15, a0g_16, Value.ref a0_17, a0g_18, a0g_19, a0g_20, a0g_21, a0g_22, a0g_23, a0g_24, a0g_25, a0g_26, a0g_27, a0g_28, Value.ref a0_29, Value.int a0_30, Value.int a0_31, a0g_32, a0g_33, a0g_34, a0g_35, a0g_36, a0g_37, a0g_38, a0g_39])), (a0_17, .inl (ka0_17, 23, .inl (fa0_17))), (a0_29, .inl (ka0_29, 10, .inl (fa0_29))), (a0_15, .inl (ka0_15, 156, .inl (fa0_15)))]) hP hD hCc hk1 hFc hP1 hD1 [.inr 0, .inl 1, .inl 2, .inl 3] (by decide +kernel) rfl
  have hc1 : Ff_X8_good = (v1na0_0.toInt, v1na0_11.toInt) := hraw1_0
  have hF0 := hF0.trans (fl_c2_eq hc1)
  refine lv_aload_n hx hb dX8_called_4 rfl (lv_at hl 0 rfl) ?_
  refine va_get (D := (dC, dI)) (ci := 8) (v := .int a0_14) (C := RX8) (T := TX8) (N := 40) hx hb hts zi_X8_called_8 hown hK hP 0 rfl rfl 14 (by decide) (hts (.fieldLink RX8 173 "WaxTurnsModel" "hasGallery" "Z") (zm_X8_called_r1 (List.mem_of_getElem? (i := 0) rfl))) (fun _ h9 => h9) rfl dX8_called_5 ?_
  refine lv_if_ne (tgt := 17) hx hb dX8_called_8 (by decide) (fun c8 => ?_) (fun c8 => ?_)
  · have gc8 := ai_ne c8
    have hF0 := hF0.trans (if_neg (show ¬ (a0_14.toInt = 0) from  gc8))
    refine lv_aload_n hx hb dX8_called_17 rfl (lv_at hl 0 rfl) ?_
    obtain ⟨hPc, hDc, hFc, hCc⟩ := zc_cut (wc := [(a0, .inr (8, [Value.int v1na0_0, a0g_1, a0g_2, a0g_3, a0g_4, a0g_5, a0g_6, a0g_7, a0g_8, a0g_9, a0g_10, Value.int v1na0_11, a0g_12, a0g_13, Value.int a0_14, Value.ref a0_15, a0g_16, Value.ref a0_17, a0g_18, a0g_19, a0g_20, a0g_21, a0g_22, a0g_23, a0g_24, a0g_25, a0g_26, a0g_27, a0g_28, Value.ref a0_29, Value.int a0_30, Value.int a0_31, a0g_32, a0g_33, a0g_34, a0g_35, a0g_36, a0g_37, a0g_38, a0g_39])), (a0_17, .inl (ka0_17, 23, .inl (fa0_17))), (a0_29, .inl (ka0_29, 10, .inl (fa0_29))), (a0_15, .inl (ka0_15, 156, .inl (fa0_15)))]) hP hD hS hA [0, 1, 2, 3] (by decide +kernel) rfl
    have hKc := hK.sub (tys' := [(ka0_17, .int), (ka0_29, .int), (ka0_15, .int)]) [0, 1, 2] rfl
    refine va_callv (va_runV (As := []) (rest := []) ⟨hx, hb, hml, hown, hts⟩ (f_X8_goRound l dC dI H.size a0 (Value.int v1na0_0) a0g_1 a0g_2 a0g_3 a0g_4 a0g_5 a0g_6 a0g_7 a0g_8 a0g_9 a0g_10 (Value.int v1na0_11) a0g_12 a0g_13 (Value.int a0_14) a0g_16 a0g_18 a0g_19 a0g_20 a0g_21 a0g_22 a0g_23 a0g_24 a0g_25 a0g_26 a0g_27 a0g_28 a0g_32 a0g_33 a0g_34 a0g_35 a0g_36 a0g_37 a0g_38 a0g_39 a0_15 a0_17 a0_29 a0_30 a0_31 ka0_17 fa0_17 ka0_29 fa0_29 ka0_15 fa0_15 bfa0_17 bfa0_29 bfa0_15) (cwV 0 hts gX8_called_X8_goRound rfl rfl rfl zd_X8_goRound ⟨Nat.le_of_ble_eq_true rfl, Nat.le_of_ble_eq_true rfl⟩) ⟨ax_blind (fun _ _ _ _ _ => trivial), zr_8 hKc hPc (q0 := 0) rfl, ax_pre hPc hKc hDc (fun _ _ => trivial)⟩ rfl rfl hl.1 rfl (lv_room (Nat.le_of_ble_eq_true rfl)) dX8_called_18 ⟨Nat.le_of_ble_eq_true rfl, Nat.le_of_ble_eq_true rfl⟩) hS (fun q _ h => hFc q h) hFc (fun u t H locs ht hvm hw hB hz1 hk1 hS => ?_)
    obtain ⟨v18na0_30, v18na0_31, v18nfa0_29, bv18nfa0_29, hraw18_0, hraw18_1, hP1, hK1, hD1⟩ := hB
    rw [ht] at hP1
    obtain ⟨hP, hD⟩ := zc_back (w := [(a0, .inr (8, [Value.int v1na0_0, a0g_1, a0g_2, a0g_3, a0g_4, a0g_5, a0g_6, a0g_7, a0g_8, a0g_9, a0g_10, Value.int v1na0_11, a0g_12, a0g_13, Value.int a0_14, Value.ref a0_15, a0g_16, Value.ref a0_17, a0g_18, a0g_19, a0g_20, a0g_21, a0g_22, a0g_23, a0g_24, a0g_25, a0g_26, a0g_27, a0g_28, Value.ref a0_29, Value.int v18na0_30, Value.int v18na0_31, a0g_32, a0g_33, a0g_34, a0g_35, a0g_36, a0g_37, a0g_38, a0g_39])), (a0_17, .inl (ka0_17, 23, .inl (fa0_17))), (a0_29, .inl (ka0_29, 10, .inl (v18nfa0_29))), (a0_15, .inl (ka0_15, 156, .inl (fa0_15)))]) hP hD hCc hk1 hFc hP1 hD1 [.inr 0, .inr 1, .inr 2, .inr 3] (by decide +kernel) rfl
    have hc18 : Ff_X8_goRound (fl_A fa0_17) (fl_A fa0_29) (fl_A fa0_15) = (v18na0_30.toInt, v18na0_31.toInt, (fl_A v18nfa0_29)) := hraw18_1
    have hF0 := hF0.trans (fl_c3_eq hc18)
    refine lv_iconst (v := 0) hx hb dX8_called_21 zk_iconst_0 ?_
    refine lv_istore_n (lv' := [(1, .int 0), (0, .ref a0)]) hx hb dX8_called_22 rfl hl (by decide) rfl (fun ls hl => ?_)
    refine lv_iconst (v := 0) hx hb dX8_called_23 zk_iconst_0 ?_
    refine lv_istore_n (lv' := [(2, .int 0), (1, .int 0), (0, .ref a0)]) hx hb dX8_called_24 rfl hl (by decide) rfl (fun ls hl => ?_)
    have J25 : ∀ (n : Nat) (j25l2 : Int32) (j25l1 : Int32) (H : Heap) (locs : List Loc) (ls : Array Slot), (10 : Int) - j25l2.toInt ≤ (n : Int) → (0 : Int) ≤ j25l2.toInt → j25l2.toInt ≤ (9 : Int) → (FX = fl_wh (fun t9 => Sf_X8_called_25_1 v1na0_0.toInt v1na0_11.toInt v18na0_30.toInt v18na0_31.toInt (fl_A v18nfa0_29) t9.1 t9.2) (0, 0, 0, 0, 0, (fun _ => 0)) n (j25l2.toInt, j25l1.toInt)) → va_P (dC, dI) vwCl [(a0, .inr (8, [Value.int v1na0_0, a0g_1, a0g_2, a0g_3, a0g_4, a0g_5, a0g_6, a0g_7, a0g_8, a0g_9, a0g_10, Value.int v1na0_11, a0g_12, a0g_13, Value.int a0_14, Value.ref a0_15, a0g_16, Value.ref a0_17, a0g_18, a0g_19, a0g_20, a0g_21, a0g_22, a0g_23, a0g_24, a0g_25, a0g_26, a0g_27, a0g_28, Value.ref a0_29, Value.int v18na0_30, Value.int v18na0_31, a0g_32, a0g_33, a0g_34, a0g_35, a0g_36, a0g_37, a0g_38, a0g_39])), (a0_17, .inl (ka0_17, 23, .inl (fa0_17))), (a0_29, .inl (ka0_29, 10, .inl (v18nfa0_29))), (a0_15, .inl (ka0_15, 156, .inl (fa0_15)))] H → va_D A [(a0, .inr (8, [Value.int v1na0_0, a0g_1, a0g_2, a0g_3, a0g_4, a0g_5, a0g_6, a0g_7, a0g_8, a0g_9, a0g_10, Value.int v1na0_11, a0g_12, a0g_13, Value.int a0_14, Value.ref a0_15, a0g_16, Value.ref a0_17, a0g_18, a0g_19, a0g_20, a0g_21, a0g_22, a0g_23, a0g_24, a0g_25, a0g_26, a0g_27, a0g_28, Value.ref a0_29, Value.int v18na0_30, Value.int v18na0_31, a0g_32, a0g_33, a0g_34, a0g_35, a0g_36, a0g_37, a0g_38, a0g_39])), (a0_17, .inl (ka0_17, 23, .inl (fa0_17))), (a0_29, .inl (ka0_29, 10, .inl (v18nfa0_29))), (a0_15, .inl (ka0_15, 156, .inl (fa0_15)))] → va_S A s.heap H locs → lv_has ls 3 [(0, .ref a0), (1, .int j25l1), (2, .int j25l2)] → K H locs (F0 m 25 ls []) := by
      intro n
      induction n with
      | zero =>
        intro j25l2 j25l1 H locs ls hm bj25l2_l bj25l2_u hF0 hP hD hS hl
        have h8 := ai_min j25l2
        have h9 := ai_max j25l2
        exact absurd hm (by omega)
      | succ n ih25 =>
        intro j25l2 j25l1 H locs ls hm bj25l2_l bj25l2_u hF0 hP hD hS hl
        refine (hK0 _ _ _).mpr ?_
        have hm25 := hm
        obtain ⟨SX25, hSX25⟩ : ∃ q9, Sf_X8_called_25_1 v1na0_0.toInt v1na0_11.toInt v18na0_30.toInt v18na0_31.toInt (fl_A v18nfa0_29) j25l2.toInt j25l1.toInt = q9 := ⟨_, rfl⟩
        have hF1 := hSX25.symm.trans (Sf_X8_called_25_1.eq_1 v1na0_0.toInt v1na0_11.toInt v18na0_30.toInt v18na0_31.toInt (fl_A v18nfa0_29) j25l2.toInt j25l1.toInt)
        refine lv_iload_n hx hb dX8_called_25 rfl (lv_at hl 2 rfl) ?_
        refine lv_aload_n hx hb dX8_called_26 rfl (lv_at hl 0 rfl) ?_
        refine va_get (D := (dC, dI)) (ci := 8) (v := .int v18na0_30) (C := RX8) (T := TX8) (N := 40) hx hb hts zi_X8_called_8 hown hK hP 0 rfl rfl 30 (by decide) (hts (.fieldLink RX8 283 "WaxTurnsModel" "settled" "I") (zm_X8_called_r1 (List.mem_of_getElem? (i := 1) rfl))) (fun _ h9 => h9) rfl dX8_called_27 ?_
        refine lv_aload_n hx hb dX8_called_30 rfl (lv_at hl 0 rfl) ?_
        refine va_get (D := (dC, dI)) (ci := 8) (v := .int v18na0_31) (C := RX8) (T := TX8) (N := 40) hx hb hts zi_X8_called_8 hown hK hP 0 rfl rfl 31 (by decide) (hts (.fieldLink RX8 286 "WaxTurnsModel" "again" "I") (zm_X8_called_r1 (List.mem_of_getElem? (i := 2) rfl))) (fun _ h9 => h9) rfl dX8_called_31 ?_
        refine lv_iadd hx hb dX8_called_34 ?_
        refine lv_topi (fun x34 ex34 => ?_)
        have qx34 : x34.toInt = v18na0_30.toInt + v18na0_31.toInt := ai_add ex34 ⟨(by omega : (0 : Int) ≤ v18na0_30.toInt), (by omega : v18na0_30.toInt ≤ (8 : Int))⟩ ⟨(by omega : (1 : Int) ≤ v18na0_31.toInt), (by omega : v18na0_31.toInt ≤ (9 : Int))⟩ (by decide) (by decide)
        have bx34 : (1 : Int) ≤ x34.toInt ∧ x34.toInt ≤ 17 := ⟨by rw [qx34]; exact Int.add_le_add (by omega : (0 : Int) ≤ v18na0_30.toInt) (by omega : (1 : Int) ≤ v18na0_31.toInt), by rw [qx34]; exact Int.add_le_add (by omega : v18na0_30.toInt ≤ (8 : Int)) (by omega : v18na0_31.toInt ≤ (9 : Int))⟩
        have hF1 := hF1.trans (fl_lt_eq (show x34.toInt = v18na0_30.toInt + v18na0_31.toInt from qx34))
        have u34z_x34 : x34.toInt ≤ (9 : Int) := by omega
        refine lv_icmp_ge (tgt := 55) hx hb dX8_called_35 (by decide) (fun c35 => ?_) (fun c35 => ?_)
        · have gc35 := ai_le c35
          have u35t_x34 : x34.toInt ≤ (9 : Int) := u34z_x34
          have l35t_j25l2 : (1 : Int) ≤ j25l2.toInt := Int.le_trans bx34.1 gc35
          have hF1 := hF1.trans (if_pos (show x34.toInt ≤ j25l2.toInt from gc35))
          have hF0 := hF0.trans (fl_wh_r (hSX25.trans hF1))
          refine lv_iload_n hx hb dX8_called_55 rfl (lv_at hl 1 rfl) ?_
          have hFe : FX = (j25l1.toInt, v1na0_0.toInt, v1na0_11.toInt, v18na0_30.toInt, v18na0_31.toInt, (fl_A v18nfa0_29)) := hF0
          exact W.iret (v := j25l1) hx hb hr (fun t ht hW => ⟨⟨j25l1, (), rfl, ⟨trivial, (congrArg Prod.fst hFe).symm⟩, v1na0_0, v1na0_11, v18na0_30, v18na0_31, v18nfa0_29, bv18nfa0_29, (congrArg Prod.snd hFe), by rw [ht]; exact hP, va_K.moved hW.alike hK, hD⟩, hS.F ht⟩) hS.2.2 dX8_called_56
        · have gc35 := ai_nle c35
          have u35f_j25l2 : j25l2.toInt ≤ (8 : Int) := ai_lthi gc35 u34z_x34
          have l35f_x34 : (1 : Int) ≤ x34.toInt := bx34.1
          have hF1 := hF1.trans (if_neg (show ¬ (x34.toInt ≤ j25l2.toInt) from Int.not_le.mpr gc35))
          refine lv_iload_n hx hb dX8_called_38 rfl (lv_at hl 1 rfl) ?_
          refine lv_iconst (v := 1) hx hb dX8_called_39 zk_iconst_1 ?_
          refine lv_aload_n hx hb dX8_called_40 rfl (lv_at hl 0 rfl) ?_
          refine va_get (D := (dC, dI)) (ci := 8) (v := .ref a0_29) (C := RX8) (T := TX8) (N := 40) hx hb hts zi_X8_called_8 hown hK hP 0 rfl rfl 29 (by decide) (hts (.fieldLink RX8 44 "WaxTurnsModel" "row" "[I") (zm_X8_called_r1 (List.mem_of_getElem? (i := 3) rfl))) (fun _ h9 => h9) rfl dX8_called_41 ?_
          refine lv_iload_n hx hb dX8_called_44 rfl (lv_at hl 2 rfl) ?_
          refine va_iald hx hb hK hP 2 1 rfl rfl (ai_in bj25l2_l u35f_j25l2 (by decide) (by decide)) dX8_called_45 ?_
          refine lv_topi (fun x45 ex45 => ?_)
          have bx45 : (0 : Int) ≤ x45.toInt ∧ x45.toInt ≤ 8 := by rw [ex45]; exact bv18nfa0_29 _
          have fqx45 := congrArg Int32.toInt ex45
          have hF1 := hF1.trans (fl_lt_eq (show x45.toInt = (fl_A v18nfa0_29) (j25l2.toInt.toNat) from fqx45))
          refine lv_ishl hx hb dX8_called_46 ?_
          refine lv_topi (fun x46 ex46 => ?_)
          have bx46 : (1 : Int) ≤ x46.toInt ∧ x46.toInt ≤ 512 := sh_1 ex46 bx45.1 (Int.le_trans bx45.2 zq22)
          have fqx46 := fl_shl_eq ex46
          have hF1 := hF1.trans (fl_lt_eq (show x46.toInt = fl_shl 1 x45.toInt from fqx46))
          refine lv_ior hx hb dX8_called_47 ?_
          refine lv_topi (fun x47 ex47 => ?_)
          have fqx47 := fl_or_eq ex47
          have hF1 := hF1.trans (fl_lt_eq (show x47.toInt = fl_or j25l1.toInt x46.toInt from fqx47))
          refine lv_istore_n (lv' := [(1, .int x47), (0, .ref a0), (2, .int j25l2)]) hx hb dX8_called_48 rfl hl (by decide) rfl (fun ls hl => ?_)
          obtain ⟨x49, ex49⟩ : ∃ y : Int32, y = j25l2 + Int32.ofInt 1 := ⟨_, rfl⟩
          have qx49 : x49.toInt = j25l2.toInt + 1 := ai_inc ex49 (by decide) (by decide) u35f_j25l2 (by decide)
          have bx49 : (1 : Int) ≤ x49.toInt ∧ x49.toInt ≤ 9 := ⟨by rw [qx49]; exact Int.add_le_add bj25l2_l (Int.le_refl _), by rw [qx49]; exact Int.add_le_add u35f_j25l2 (Int.le_refl _)⟩
          refine lv_iinc (v := x49) (lv' := [(2, .int x49), (1, .int x47), (0, .ref a0)]) hx hb dX8_called_49 hl (k := 2) rfl ex49.symm (by decide) rfl (fun ls hl => ?_)
          have hF1 := hF1.trans (fl_lt_eq (show x49.toInt = j25l2.toInt + 1 from qx49))
          refine lv_goto (tgt := 25) hx hb dX8_called_52 (by decide) ?_
          exact (hK0 _ _ _).mp (ih25 x49 x47 _ _ _ (by have h0 := qx49; omega) (Int.le_trans zq4 bx49.1) bx49.2 (hF0.trans (fl_wh_l (hSX25.trans hF1))) hP hD hS (lv_sub hl [2, 1, 0] rfl))
    exact (hK0 _ _ _).mp (J25 10 0 0 _ _ _ (by have h1 : (0 : Int) ≤ (0 : Int32).toInt := zq5; have h2 : (0 : Int32).toInt ≤ (0 : Int) := zq6; omega) zq5 (Int.le_trans zq6 zq7) (by rw [show (0 : Int32).toInt = 0 from by decide]; exact hF0) hP hD hS (lv_sub hl [2, 1, 0] rfl))
  · have gc8 := ai_eq c8
    have u8f_a0_14 : a0_14.toInt ≤ (0 : Int) := Int.le_trans (Int.le_of_eq gc8) zq6
    have l8f_a0_14 : (1 : Int) ≤ a0_14.toInt := ba0_14_l
    exact absurd (Int.le_trans l8f_a0_14 u8f_a0_14) (by decide)

set_option maxHeartbeats 4000000 in
set_option maxRecDepth 100000 in
theorem f0_X8_why (l : Launch) (dC : Nat → ClassId) (dI : Nat → Nat → Nat) (sz : Nat) (a0 : Nat) (a1 : Int32) (a2 : Int32) (a0g_0 a0g_1 a0g_2 a0g_3 a0g_4 a0g_5 a0g_6 a0g_7 a0g_8 a0g_9 a0g_10 a0g_11 a0g_12 a0g_13 a0g_14 a0g_15 a0g_16 a0g_17 a0g_18 a0g_19 a0g_20 a0g_21 a0g_22 a0g_23 a0g_24 a0g_25 a0g_26 a0g_27 a0g_28 a0g_29 a0g_30 a0g_31 a0g_32 a0g_33 a0g_34 a0g_35 a0g_36 a0g_37 a0g_38 a0g_39 : Value) (ba1_l : (0 : Int) ≤ a1.toInt) (ba1_u : a1.toInt ≤ (1 : Int)) (ba2_l : (0 : Int) ≤ a2.toInt) (ba2_u : a2.toInt ≤ (1 : Int)) : Met l yX8_why wsX8_why ({ frames := 0, cells := 0, slots := 0, locals := 0 }) (va_Pc [.ref a0, .int a1, .int a2] (ax_C dC dI sz [(a0, .inr (8, [a0g_0, a0g_1, a0g_2, a0g_3, a0g_4, a0g_5, a0g_6, a0g_7, a0g_8, a0g_9, a0g_10, a0g_11, a0g_12, a0g_13, a0g_14, a0g_15, a0g_16, a0g_17, a0g_18, a0g_19, a0g_20, a0g_21, a0g_22, a0g_23, a0g_24, a0g_25, a0g_26, a0g_27, a0g_28, a0g_29, a0g_30, a0g_31, a0g_32, a0g_33, a0g_34, a0g_35, a0g_36, a0g_37, a0g_38, a0g_39]))] [] (fun _ => True))) (va_Qi (fun (r : Int32) (_ : Unit) => ((r = 2 ∧ (1 : Int) ≤ a1.toInt ∧ a1.toInt ≤ (1 : Int) ∧ (0 : Int) ≤ a2.toInt ∧ a2.toInt ≤ (0 : Int)) ∨ (r = 1 ∧ (0 : Int) ≤ a1.toInt ∧ a1.toInt ≤ (0 : Int)) ∨ (r = 0 ∧ (1 : Int) ≤ a1.toInt ∧ a1.toInt ≤ (1 : Int) ∧ (1 : Int) ≤ a2.toInt ∧ a2.toInt ≤ (1 : Int))) ∧ r.toInt = Ff0_X8_why a1.toInt a2.toInt) (fun (_ : Unit) (t : State) => ax_B dC dI (va_A [(a0, .inr (8, [a0g_0, a0g_1, a0g_2, a0g_3, a0g_4, a0g_5, a0g_6, a0g_7, a0g_8, a0g_9, a0g_10, a0g_11, a0g_12, a0g_13, a0g_14, a0g_15, a0g_16, a0g_17, a0g_18, a0g_19, a0g_20, a0g_21, a0g_22, a0g_23, a0g_24, a0g_25, a0g_26, a0g_27, a0g_28, a0g_29, a0g_30, a0g_31, a0g_32, a0g_33, a0g_34, a0g_35, a0g_36, a0g_37, a0g_38, a0g_39]))] sz) [(a0, .inr (8, [a0g_0, a0g_1, a0g_2, a0g_3, a0g_4, a0g_5, a0g_6, a0g_7, a0g_8, a0g_9, a0g_10, a0g_11, a0g_12, a0g_13, a0g_14, a0g_15, a0g_16, a0g_17, a0g_18, a0g_19, a0g_20, a0g_21, a0g_22, a0g_23, a0g_24, a0g_25, a0g_26, a0g_27, a0g_28, a0g_29, a0g_30, a0g_31, a0g_32, a0g_33, a0g_34, a0g_35, a0g_36, a0g_37, a0g_38, a0g_39]))] [] t) (va_A [(a0, .inr (8, [a0g_0, a0g_1, a0g_2, a0g_3, a0g_4, a0g_5, a0g_6, a0g_7, a0g_8, a0g_9, a0g_10, a0g_11, a0g_12, a0g_13, a0g_14, a0g_15, a0g_16, a0g_17, a0g_18, a0g_19, a0g_20, a0g_21, a0g_22, a0g_23, a0g_24, a0g_25, a0g_26, a0g_27, a0g_28, a0g_29, a0g_30, a0g_31, a0g_32, a0g_33, a0g_34, a0g_35, a0g_36, a0g_37, a0g_38, a0g_39]))] sz)) 0 0 (va_A [(a0, .inr (8, [a0g_0, a0g_1, a0g_2, a0g_3, a0g_4, a0g_5, a0g_6, a0g_7, a0g_8, a0g_9, a0g_10, a0g_11, a0g_12, a0g_13, a0g_14, a0g_15, a0g_16, a0g_17, a0g_18, a0g_19, a0g_20, a0g_21, a0g_22, a0g_23, a0g_24, a0g_25, a0g_26, a0g_27, a0g_28, a0g_29, a0g_30, a0g_31, a0g_32, a0g_33, a0g_34, a0g_35, a0g_36, a0g_37, a0g_38, a0g_39]))] sz) := by
  refine Met.ofW (cc := cX8_why) (maxL := 3) (ret := (some .int)) (by decide) rfl ?_
  intro p e s m args below meth c s₁ B hml hv
  obtain ⟨rfl, hsz, hP, hK, hD0, hE⟩ := hv
  have hx := B.exec
  have hb := B.bytes
  have hr := B.returns
  have hts := atoms_spec (ws := wsX8_why) B.pre
  have hown : s.vm.findClass RX8 = some m.cls := findClass_of_methodNamed B.named
  have hlocks := B.notSynchronized
  subst hsz
  have hD := hD0.self (sz := s.heap.size)
  generalize hAe : va_A [(a0, .inr (8, [a0g_0, a0g_1, a0g_2, a0g_3, a0g_4, a0g_5, a0g_6, a0g_7, a0g_8, a0g_9, a0g_10, a0g_11, a0g_12, a0g_13, a0g_14, a0g_15, a0g_16, a0g_17, a0g_18, a0g_19, a0g_20, a0g_21, a0g_22, a0g_23, a0g_24, a0g_25, a0g_26, a0g_27, a0g_28, a0g_29, a0g_30, a0g_31, a0g_32, a0g_33, a0g_34, a0g_35, a0g_36, a0g_37, a0g_38, a0g_39]))] s.heap.size = A at hD ⊢
  have hA : ∀ q : Nat, s.heap.size ≤ q → A q := fun q h => by rw [← hAe]; exact Or.inr h
  have hS : va_S A s.heap s.heap [] := va_S.rf
  have hP : va_P (dC, dI) vwCl [(a0, .inr (8, [a0g_0, a0g_1, a0g_2, a0g_3, a0g_4, a0g_5, a0g_6, a0g_7, a0g_8, a0g_9, a0g_10, a0g_11, a0g_12, a0g_13, a0g_14, a0g_15, a0g_16, a0g_17, a0g_18, a0g_19, a0g_20, a0g_21, a0g_22, a0g_23, a0g_24, a0g_25, a0g_26, a0g_27, a0g_28, a0g_29, a0g_30, a0g_31, a0g_32, a0g_33, a0g_34, a0g_35, a0g_36, a0g_37, a0g_38, a0g_39]))] s.heap := hP
  have hl := lv_entry ([.ref a0, .int a1, .int a2]) (n := 3) (Nat.le_of_ble_eq_true rfl)
  rw [lg_entry_eq]
  generalize (lg_sl ([.ref a0, .int a1, .int a2]) ++ List.replicate (3 - (lg_sl ([.ref a0, .int a1, .int a2])).length) Slot.unset).toArray = ls at hl ⊢
  have hl : lv_has ls 3 [(0, .ref a0), (1, .int a1), (2, .int a2)] := hl
  generalize hFX : Ff0_X8_why a1.toInt a2.toInt = FX at ⊢
  have hF0 := hFX.symm.trans (Ff0_X8_why.eq_1 a1.toInt a2.toInt)
  refine lv_iload_n hx hb dX8_why_0 rfl (lv_at hl 1 rfl) ?_
  refine lv_if_ne (tgt := 8) hx hb dX8_why_1 (by decide) (fun c1 => ?_) (fun c1 => ?_)
  · have gc1 := ai_ne c1
    have l1t_a1 : (1 : Int) ≤ a1.toInt := (by have h1 := ba1_l; have h2 : (0 : Int32).toInt = 0 := (by decide); rw [h2] at gc1; omega)
    have hF0 := hF0.trans (if_neg (show ¬ (a1.toInt = 0) from  gc1))
    refine lv_iload_n hx hb dX8_why_8 rfl (lv_at hl 2 rfl) ?_
    refine lv_if_eq (tgt := 16) hx hb dX8_why_9 (by decide) (fun c9 => ?_) (fun c9 => ?_)
    · have gc9 := ai_eq c9
      have u9t_a2 : a2.toInt ≤ (0 : Int) := Int.le_trans (Int.le_of_eq gc9) zq6
      have l9t_a2 : (0 : Int) ≤ a2.toInt := ba2_l
      have hF0 := hF0.trans (if_pos (show a2.toInt = 0 from gc9))
      refine lv_iconst (v := 2) hx hb dX8_why_16 zk_iconst_2 ?_
      have hFe : FX = 2 := hF0
      exact W.iret (v := 2) hx hb hr (fun t ht hW => ⟨⟨2, (), rfl, ⟨(Or.inl ⟨rfl, l1t_a1, ba1_u, l9t_a2, u9t_a2⟩), hFe.symm⟩, by rw [ht]; exact hP, va_K.moved hW.alike hK, hD⟩, hS.F ht⟩) hS.2.2 dX8_why_17
    · have gc9 := ai_ne c9
      have l9f_a2 : (1 : Int) ≤ a2.toInt := (by have h1 := ba2_l; have h2 : (0 : Int32).toInt = 0 := (by decide); rw [h2] at gc9; omega)
      have hF0 := hF0.trans (if_neg (show ¬ (a2.toInt = 0) from  gc9))
      refine lv_iconst (v := 0) hx hb dX8_why_12 zk_iconst_0 ?_
      refine lv_goto (tgt := 17) hx hb dX8_why_13 (by decide) ?_
      have hFe : FX = 0 := hF0
      exact W.iret (v := 0) hx hb hr (fun t ht hW => ⟨⟨0, (), rfl, ⟨(Or.inr (Or.inr (⟨rfl, l1t_a1, ba1_u, l9f_a2, ba2_u⟩))), hFe.symm⟩, by rw [ht]; exact hP, va_K.moved hW.alike hK, hD⟩, hS.F ht⟩) hS.2.2 dX8_why_17
  · have gc1 := ai_eq c1
    have u1f_a1 : a1.toInt ≤ (0 : Int) := Int.le_trans (Int.le_of_eq gc1) zq6
    have l1f_a1 : (0 : Int) ≤ a1.toInt := ba1_l
    have hF0 := hF0.trans (if_pos (show a1.toInt = 0 from gc1))
    refine lv_iconst (v := 1) hx hb dX8_why_4 zk_iconst_1 ?_
    refine lv_goto (tgt := 17) hx hb dX8_why_5 (by decide) ?_
    have hFe : FX = 1 := hF0
    exact W.iret (v := 1) hx hb hr (fun t ht hW => ⟨⟨1, (), rfl, ⟨(Or.inr (Or.inl ⟨rfl, l1f_a1, u1f_a1⟩)), hFe.symm⟩, by rw [ht]; exact hP, va_K.moved hW.alike hK, hD⟩, hS.F ht⟩) hS.2.2 dX8_why_17

set_option maxHeartbeats 4000000 in
set_option maxRecDepth 100000 in
theorem f0_X8_isFigure (l : Launch) (dC : Nat → ClassId) (dI : Nat → Nat → Nat) (sz : Nat) (a0 : Nat) (a1 : Int32) (a0g_0 a0g_1 a0g_2 a0g_3 a0g_4 a0g_5 a0g_6 a0g_7 a0g_8 a0g_9 a0g_10 a0g_11 a0g_12 a0g_13 a0g_15 a0g_16 a0g_17 a0g_18 a0g_19 a0g_20 a0g_21 a0g_22 a0g_23 a0g_24 a0g_25 a0g_26 a0g_27 a0g_28 a0g_29 a0g_30 a0g_31 a0g_32 a0g_33 a0g_34 a0g_35 a0g_36 a0g_37 a0g_38 a0g_39 : Value) (a0_14 : Int32) (ba0_14_l : (0 : Int) ≤ a0_14.toInt) (ba0_14_u : a0_14.toInt ≤ (0 : Int)) : Met l yX8_isFigure wsX8_isFigure ({ frames := 0, cells := 0, slots := 0, locals := 0 }) (va_Pc [.ref a0, .int a1] (ax_C dC dI sz [(a0, .inr (8, [a0g_0, a0g_1, a0g_2, a0g_3, a0g_4, a0g_5, a0g_6, a0g_7, a0g_8, a0g_9, a0g_10, a0g_11, a0g_12, a0g_13, Value.int a0_14, a0g_15, a0g_16, a0g_17, a0g_18, a0g_19, a0g_20, a0g_21, a0g_22, a0g_23, a0g_24, a0g_25, a0g_26, a0g_27, a0g_28, a0g_29, a0g_30, a0g_31, a0g_32, a0g_33, a0g_34, a0g_35, a0g_36, a0g_37, a0g_38, a0g_39]))] [] (fun _ => True))) (va_Qi (fun (r : Int32) (_ : Unit) => (r = 0) ∧ r.toInt = Ff0_X8_isFigure a0_14.toInt) (fun (_ : Unit) (t : State) => ax_B dC dI (va_A [(a0, .inr (8, [a0g_0, a0g_1, a0g_2, a0g_3, a0g_4, a0g_5, a0g_6, a0g_7, a0g_8, a0g_9, a0g_10, a0g_11, a0g_12, a0g_13, Value.int a0_14, a0g_15, a0g_16, a0g_17, a0g_18, a0g_19, a0g_20, a0g_21, a0g_22, a0g_23, a0g_24, a0g_25, a0g_26, a0g_27, a0g_28, a0g_29, a0g_30, a0g_31, a0g_32, a0g_33, a0g_34, a0g_35, a0g_36, a0g_37, a0g_38, a0g_39]))] sz) [(a0, .inr (8, [a0g_0, a0g_1, a0g_2, a0g_3, a0g_4, a0g_5, a0g_6, a0g_7, a0g_8, a0g_9, a0g_10, a0g_11, a0g_12, a0g_13, Value.int a0_14, a0g_15, a0g_16, a0g_17, a0g_18, a0g_19, a0g_20, a0g_21, a0g_22, a0g_23, a0g_24, a0g_25, a0g_26, a0g_27, a0g_28, a0g_29, a0g_30, a0g_31, a0g_32, a0g_33, a0g_34, a0g_35, a0g_36, a0g_37, a0g_38, a0g_39]))] [] t) (va_A [(a0, .inr (8, [a0g_0, a0g_1, a0g_2, a0g_3, a0g_4, a0g_5, a0g_6, a0g_7, a0g_8, a0g_9, a0g_10, a0g_11, a0g_12, a0g_13, Value.int a0_14, a0g_15, a0g_16, a0g_17, a0g_18, a0g_19, a0g_20, a0g_21, a0g_22, a0g_23, a0g_24, a0g_25, a0g_26, a0g_27, a0g_28, a0g_29, a0g_30, a0g_31, a0g_32, a0g_33, a0g_34, a0g_35, a0g_36, a0g_37, a0g_38, a0g_39]))] sz)) 0 0 (va_A [(a0, .inr (8, [a0g_0, a0g_1, a0g_2, a0g_3, a0g_4, a0g_5, a0g_6, a0g_7, a0g_8, a0g_9, a0g_10, a0g_11, a0g_12, a0g_13, Value.int a0_14, a0g_15, a0g_16, a0g_17, a0g_18, a0g_19, a0g_20, a0g_21, a0g_22, a0g_23, a0g_24, a0g_25, a0g_26, a0g_27, a0g_28, a0g_29, a0g_30, a0g_31, a0g_32, a0g_33, a0g_34, a0g_35, a0g_36, a0g_37, a0g_38, a0g_39]))] sz) := by
  refine Met.ofW (cc := cX8_isFigure) (maxL := 2) (ret := (some .boolean)) (by decide) rfl ?_
  intro p e s m args below meth c s₁ B hml hv
  obtain ⟨rfl, hsz, hP, hK, hD0, hE⟩ := hv
  have hx := B.exec
  have hb := B.bytes
  have hr := B.returns
  have hts := atoms_spec (ws := wsX8_isFigure) B.pre
  have hown : s.vm.findClass RX8 = some m.cls := findClass_of_methodNamed B.named
  have hlocks := B.notSynchronized
  subst hsz
  have hD := hD0.self (sz := s.heap.size)
  generalize hAe : va_A [(a0, .inr (8, [a0g_0, a0g_1, a0g_2, a0g_3, a0g_4, a0g_5, a0g_6, a0g_7, a0g_8, a0g_9, a0g_10, a0g_11, a0g_12, a0g_13, Value.int a0_14, a0g_15, a0g_16, a0g_17, a0g_18, a0g_19, a0g_20, a0g_21, a0g_22, a0g_23, a0g_24, a0g_25, a0g_26, a0g_27, a0g_28, a0g_29, a0g_30, a0g_31, a0g_32, a0g_33, a0g_34, a0g_35, a0g_36, a0g_37, a0g_38, a0g_39]))] s.heap.size = A at hD ⊢
  have hA : ∀ q : Nat, s.heap.size ≤ q → A q := fun q h => by rw [← hAe]; exact Or.inr h
  have hS : va_S A s.heap s.heap [] := va_S.rf
  have hP : va_P (dC, dI) vwCl [(a0, .inr (8, [a0g_0, a0g_1, a0g_2, a0g_3, a0g_4, a0g_5, a0g_6, a0g_7, a0g_8, a0g_9, a0g_10, a0g_11, a0g_12, a0g_13, Value.int a0_14, a0g_15, a0g_16, a0g_17, a0g_18, a0g_19, a0g_20, a0g_21, a0g_22, a0g_23, a0g_24, a0g_25, a0g_26, a0g_27, a0g_28, a0g_29, a0g_30, a0g_31, a0g_32, a0g_33, a0g_34, a0g_35, a0g_36, a0g_37, a0g_38, a0g_39]))] s.heap := hP
  have hl := lv_entry ([.ref a0, .int a1]) (n := 2) (Nat.le_of_ble_eq_true rfl)
  rw [lg_entry_eq]
  generalize (lg_sl ([.ref a0, .int a1]) ++ List.replicate (2 - (lg_sl ([.ref a0, .int a1])).length) Slot.unset).toArray = ls at hl ⊢
  have hl : lv_has ls 2 [(0, .ref a0), (1, .int a1)] := hl
  generalize hFX : Ff0_X8_isFigure a0_14.toInt = FX at ⊢
  have hF0 := hFX.symm.trans (Ff0_X8_isFigure.eq_1 a0_14.toInt)
  refine lv_aload_n hx hb dX8_isFigure_0 rfl (lv_at hl 0 rfl) ?_
  refine va_get (D := (dC, dI)) (ci := 8) (v := .int a0_14) (C := RX8) (T := TX8) (N := 40) hx hb hts zi_X8_isFigure_8 hown hK hP 0 rfl rfl 14 (by decide) (hts (.fieldLink RX8 173 "WaxTurnsModel" "hasGallery" "Z") (List.mem_cons_of_mem _ (List.mem_append_left _ (List.mem_of_getElem? (i := 0) rfl)))) (fun _ h9 => h9) rfl dX8_isFigure_1 ?_
  refine lv_if_eq (tgt := 27) hx hb dX8_isFigure_4 (by decide) (fun c4 => ?_) (fun c4 => ?_)
  · have gc4 := ai_eq c4
    have u4t_a0_14 : a0_14.toInt ≤ (0 : Int) := ba0_14_u
    have l4t_a0_14 : (0 : Int) ≤ a0_14.toInt := ba0_14_l
    have hF0 := hF0.trans (if_pos (show a0_14.toInt = 0 from gc4))
    refine lv_iconst (v := 0) hx hb dX8_isFigure_27 zk_iconst_0 ?_
    have hFe : FX = 0 := hF0
    exact W.zret (v := 0) hx hb hr rfl (fun t ht hW => ⟨⟨0, (), rfl, ⟨rfl, hFe.symm⟩, by rw [ht]; exact hP, va_K.moved hW.alike hK, hD⟩, hS.F ht⟩) hS.2.2 dX8_isFigure_28
  · have gc4 := ai_ne c4
    have l4f_a0_14 : (1 : Int) ≤ a0_14.toInt := (by have h1 := ba0_14_l; have h2 : (0 : Int32).toInt = 0 := (by decide); rw [h2] at gc4; omega)
    have u4f_a0_14 : a0_14.toInt ≤ (-1 : Int) := (by have h1 := ba0_14_u; have h2 : (0 : Int32).toInt = 0 := (by decide); rw [h2] at gc4; omega)
    exact absurd (Int.le_trans l4f_a0_14 u4f_a0_14) (by decide)

set_option maxHeartbeats 4000000 in
set_option maxRecDepth 100000 in
theorem f0_X8_turnOf (l : Launch) (dC : Nat → ClassId) (dI : Nat → Nat → Nat) (sz : Nat) (a0 : Nat) (a1 : Int32) (a0_0 : Int32) (a0g_1 a0g_2 a0g_3 a0g_4 a0g_5 a0g_6 a0g_7 a0g_8 a0g_9 a0g_10 a0g_12 a0g_13 a0g_15 a0g_16 a0g_17 a0g_18 a0g_19 a0g_20 a0g_21 a0g_22 a0g_23 a0g_24 a0g_25 a0g_26 a0g_27 a0g_28 a0g_29 a0g_30 a0g_31 a0g_32 a0g_33 a0g_34 a0g_35 a0g_36 a0g_37 a0g_38 a0g_39 : Value) (a0_11 : Int32) (a0_14 : Int32) (ba0_14_l : (0 : Int) ≤ a0_14.toInt) (ba0_14_u : a0_14.toInt ≤ (0 : Int)) : Met l yX8_turnOf wsX8_turnOf ({ frames := 1, cells := 0, slots := 0, locals := 22 }) (va_Pc [.ref a0, .int a1] (ax_C dC dI sz [(a0, .inr (8, [Value.int a0_0, a0g_1, a0g_2, a0g_3, a0g_4, a0g_5, a0g_6, a0g_7, a0g_8, a0g_9, a0g_10, Value.int a0_11, a0g_12, a0g_13, Value.int a0_14, a0g_15, a0g_16, a0g_17, a0g_18, a0g_19, a0g_20, a0g_21, a0g_22, a0g_23, a0g_24, a0g_25, a0g_26, a0g_27, a0g_28, a0g_29, a0g_30, a0g_31, a0g_32, a0g_33, a0g_34, a0g_35, a0g_36, a0g_37, a0g_38, a0g_39]))] [] (fun _ => True))) (va_Qi (fun (r : Int32) (_ : Unit) => (r = (-1)) ∧ r.toInt = (Ff0_X8_turnOf a1.toInt a0_14.toInt).1) (fun (_ : Unit) (t : State) => ∃ na0_0 : Int32, ∃ na0_11 : Int32, ((Ff0_X8_turnOf a1.toInt a0_14.toInt).2 = (na0_0.toInt, na0_11.toInt)) ∧ ax_B dC dI (va_A [(a0, .inr (8, [Value.int a0_0, a0g_1, a0g_2, a0g_3, a0g_4, a0g_5, a0g_6, a0g_7, a0g_8, a0g_9, a0g_10, Value.int a0_11, a0g_12, a0g_13, Value.int a0_14, a0g_15, a0g_16, a0g_17, a0g_18, a0g_19, a0g_20, a0g_21, a0g_22, a0g_23, a0g_24, a0g_25, a0g_26, a0g_27, a0g_28, a0g_29, a0g_30, a0g_31, a0g_32, a0g_33, a0g_34, a0g_35, a0g_36, a0g_37, a0g_38, a0g_39]))] sz) [(a0, .inr (8, [Value.int na0_0, a0g_1, a0g_2, a0g_3, a0g_4, a0g_5, a0g_6, a0g_7, a0g_8, a0g_9, a0g_10, Value.int na0_11, a0g_12, a0g_13, Value.int a0_14, a0g_15, a0g_16, a0g_17, a0g_18, a0g_19, a0g_20, a0g_21, a0g_22, a0g_23, a0g_24, a0g_25, a0g_26, a0g_27, a0g_28, a0g_29, a0g_30, a0g_31, a0g_32, a0g_33, a0g_34, a0g_35, a0g_36, a0g_37, a0g_38, a0g_39]))] [] t) (va_A [(a0, .inr (8, [Value.int a0_0, a0g_1, a0g_2, a0g_3, a0g_4, a0g_5, a0g_6, a0g_7, a0g_8, a0g_9, a0g_10, Value.int a0_11, a0g_12, a0g_13, Value.int a0_14, a0g_15, a0g_16, a0g_17, a0g_18, a0g_19, a0g_20, a0g_21, a0g_22, a0g_23, a0g_24, a0g_25, a0g_26, a0g_27, a0g_28, a0g_29, a0g_30, a0g_31, a0g_32, a0g_33, a0g_34, a0g_35, a0g_36, a0g_37, a0g_38, a0g_39]))] sz)) 0 0 (va_A [(a0, .inr (8, [Value.int a0_0, a0g_1, a0g_2, a0g_3, a0g_4, a0g_5, a0g_6, a0g_7, a0g_8, a0g_9, a0g_10, Value.int a0_11, a0g_12, a0g_13, Value.int a0_14, a0g_15, a0g_16, a0g_17, a0g_18, a0g_19, a0g_20, a0g_21, a0g_22, a0g_23, a0g_24, a0g_25, a0g_26, a0g_27, a0g_28, a0g_29, a0g_30, a0g_31, a0g_32, a0g_33, a0g_34, a0g_35, a0g_36, a0g_37, a0g_38, a0g_39]))] sz) := by
  refine Met.ofW (cc := cX8_turnOf) (maxL := 3) (ret := (some .int)) (by decide) rfl ?_
  intro p e s m args below meth c s₁ B hml hv
  obtain ⟨rfl, hsz, hP, hK, hD0, hE⟩ := hv
  have hx := B.exec
  have hb := B.bytes
  have hr := B.returns
  have hts := atoms_spec (ws := wsX8_turnOf) B.pre
  have hown : s.vm.findClass RX8 = some m.cls := findClass_of_methodNamed B.named
  have hlocks := B.notSynchronized
  subst hsz
  have hD := hD0.self (sz := s.heap.size)
  generalize hAe : va_A [(a0, .inr (8, [Value.int a0_0, a0g_1, a0g_2, a0g_3, a0g_4, a0g_5, a0g_6, a0g_7, a0g_8, a0g_9, a0g_10, Value.int a0_11, a0g_12, a0g_13, Value.int a0_14, a0g_15, a0g_16, a0g_17, a0g_18, a0g_19, a0g_20, a0g_21, a0g_22, a0g_23, a0g_24, a0g_25, a0g_26, a0g_27, a0g_28, a0g_29, a0g_30, a0g_31, a0g_32, a0g_33, a0g_34, a0g_35, a0g_36, a0g_37, a0g_38, a0g_39]))] s.heap.size = A at hD ⊢
  have hA : ∀ q : Nat, s.heap.size ≤ q → A q := fun q h => by rw [← hAe]; exact Or.inr h
  have hS : va_S A s.heap s.heap [] := va_S.rf
  have hP : va_P (dC, dI) vwCl [(a0, .inr (8, [Value.int a0_0, a0g_1, a0g_2, a0g_3, a0g_4, a0g_5, a0g_6, a0g_7, a0g_8, a0g_9, a0g_10, Value.int a0_11, a0g_12, a0g_13, Value.int a0_14, a0g_15, a0g_16, a0g_17, a0g_18, a0g_19, a0g_20, a0g_21, a0g_22, a0g_23, a0g_24, a0g_25, a0g_26, a0g_27, a0g_28, a0g_29, a0g_30, a0g_31, a0g_32, a0g_33, a0g_34, a0g_35, a0g_36, a0g_37, a0g_38, a0g_39]))] s.heap := hP
  have hl := lv_entry ([.ref a0, .int a1]) (n := 3) (Nat.le_of_ble_eq_true rfl)
  rw [lg_entry_eq]
  generalize (lg_sl ([.ref a0, .int a1]) ++ List.replicate (3 - (lg_sl ([.ref a0, .int a1])).length) Slot.unset).toArray = ls at hl ⊢
  have hl : lv_has ls 3 [(0, .ref a0), (1, .int a1)] := hl
  generalize hFX : Ff0_X8_turnOf a1.toInt a0_14.toInt = FX at ⊢
  have hF0 := hFX.symm.trans (Ff0_X8_turnOf.eq_1 a1.toInt a0_14.toInt)
  refine lv_aload_n hx hb dX8_turnOf_0 rfl (lv_at hl 0 rfl) ?_
  obtain ⟨hPc, hDc, hFc, hCc⟩ := zc_cut (wc := [(a0, .inr (8, [Value.int a0_0, a0g_1, a0g_2, a0g_3, a0g_4, a0g_5, a0g_6, a0g_7, a0g_8, a0g_9, a0g_10, Value.int a0_11, a0g_12, a0g_13, Value.int a0_14, a0g_15, a0g_16, a0g_17, a0g_18, a0g_19, a0g_20, a0g_21, a0g_22, a0g_23, a0g_24, a0g_25, a0g_26, a0g_27, a0g_28, a0g_29, a0g_30, a0g_31, a0g_32, a0g_33, a0g_34, a0g_35, a0g_36, a0g_37, a0g_38, a0g_39]))]) hP hD hS hA [0] (by decide +kernel) rfl
  have hKc := hK.sub (tys' := []) [] rfl
  refine va_callv (va_runV (As := []) (rest := []) ⟨hx, hb, hml, hown, hts⟩ (f_X8_good l dC dI s.heap.size a0 a0_0 a0g_1 a0g_2 a0g_3 a0g_4 a0g_5 a0g_6 a0g_7 a0g_8 a0g_9 a0g_10 a0g_12 a0g_13 (Value.int a0_14) a0g_15 a0g_16 a0g_17 a0g_18 a0g_19 a0g_20 a0g_21 a0g_22 a0g_23 a0g_24 a0g_25 a0g_26 a0g_27 a0g_28 a0g_29 a0g_30 a0g_31 a0g_32 a0g_33 a0g_34 a0g_35 a0g_36 a0g_37 a0g_38 a0g_39 a0_11 ) (cwV 0 hts gX8_turnOf_X8_good rfl rfl rfl zd_X8_good ⟨Nat.le_of_ble_eq_true rfl, Nat.le_of_ble_eq_true rfl⟩) ⟨ax_blind (fun _ _ _ _ _ => trivial), zr_8 hKc hPc (q0 := 0) rfl, ax_pre hPc hKc hDc (fun _ _ => trivial)⟩ rfl rfl hl.1 rfl (lv_room (Nat.le_of_ble_eq_true rfl)) dX8_turnOf_1 ⟨Nat.le_of_ble_eq_true rfl, Nat.le_of_ble_eq_true rfl⟩) hS (fun q _ h => hFc q h) hFc (fun u t H locs ht hvm hw hB hz1 hk1 hS => ?_)
  obtain ⟨v1na0_0, v1na0_11, hraw1_0, hP1, hK1, hD1⟩ := hB
  rw [ht] at hP1
  obtain ⟨hP, hD⟩ := zc_back (w := [(a0, .inr (8, [Value.int v1na0_0, a0g_1, a0g_2, a0g_3, a0g_4, a0g_5, a0g_6, a0g_7, a0g_8, a0g_9, a0g_10, Value.int v1na0_11, a0g_12, a0g_13, Value.int a0_14, a0g_15, a0g_16, a0g_17, a0g_18, a0g_19, a0g_20, a0g_21, a0g_22, a0g_23, a0g_24, a0g_25, a0g_26, a0g_27, a0g_28, a0g_29, a0g_30, a0g_31, a0g_32, a0g_33, a0g_34, a0g_35, a0g_36, a0g_37, a0g_38, a0g_39]))]) hP hD hCc hk1 hFc hP1 hD1 [.inr 0] (by decide +kernel) rfl
  have hc1 : Ff_X8_good = (v1na0_0.toInt, v1na0_11.toInt) := hraw1_0
  have hF0 := hF0.trans (fl_c2_eq hc1)
  refine lv_aload_n hx hb dX8_turnOf_4 rfl (lv_at hl 0 rfl) ?_
  refine lv_aload_n hx hb dX8_turnOf_5 rfl (lv_at hl 0 rfl) ?_
  refine va_get (D := (dC, dI)) (ci := 8) (v := .int a0_14) (C := RX8) (T := TX8) (N := 40) hx hb hts zi_X8_turnOf_8 hown hK hP 0 rfl rfl 14 (by decide) (hts (.fieldLink RX8 173 "WaxTurnsModel" "hasGallery" "Z") (zm_X8_turnOf_r1 (List.mem_of_getElem? (i := 0) rfl))) (fun _ h9 => h9) rfl dX8_turnOf_6 ?_
  refine lv_iload_n hx hb dX8_turnOf_9 rfl (lv_at hl 1 rfl) ?_
  refine lv_iconst (v := 0) hx hb dX8_turnOf_10 zk_iconst_0 ?_
  refine lv_ldcw (v := 2000000000) hx hb hown (hts (.constant RX8 289 (2000000000)) (zm_X8_turnOf_r1 (List.mem_of_getElem? (i := 1) rfl))) dX8_turnOf_11 ?_
  obtain ⟨hPc, hDc, hFc, hCc⟩ := zc_cut (wc := []) hP hD hS hA [] (by decide +kernel) rfl
  have hKc := hK.sub (tys' := []) [] rfl
  refine va_calli (va_runS (As := [.int a1, .int 0, .int 2000000000]) (rest := [.int a0_14, .ref a0]) ⟨hx, hb, hml, hown, hts⟩ (f_X8_in l dC dI H.size a1 0 2000000000 ) (va_cwS 3 hts gX8_turnOf_X8_in rfl rfl rfl zd_X8_in.2 ⟨Nat.le_of_ble_eq_true rfl, Nat.le_of_ble_eq_true rfl⟩) ⟨ax_blind (fun _ _ _ _ _ => trivial), ax_pre hPc hKc hDc (fun _ _ => trivial)⟩ rfl rfl hl.1 rfl (lv_room (Nat.le_of_ble_eq_true rfl)) dX8_turnOf_14 ⟨Nat.le_of_ble_eq_true rfl, Nat.le_of_ble_eq_true rfl⟩) hS (fun q _ h => hFc q h) hFc (fun r14 u t H locs ht hvm hw hB hz1 hk1 hS => ?_)
  obtain ⟨hP1, hK1, hD1⟩ := hB
  rw [ht] at hP1
  obtain ⟨hP, hD⟩ := zc_back (w := [(a0, .inr (8, [Value.int v1na0_0, a0g_1, a0g_2, a0g_3, a0g_4, a0g_5, a0g_6, a0g_7, a0g_8, a0g_9, a0g_10, Value.int v1na0_11, a0g_12, a0g_13, Value.int a0_14, a0g_15, a0g_16, a0g_17, a0g_18, a0g_19, a0g_20, a0g_21, a0g_22, a0g_23, a0g_24, a0g_25, a0g_26, a0g_27, a0g_28, a0g_29, a0g_30, a0g_31, a0g_32, a0g_33, a0g_34, a0g_35, a0g_36, a0g_37, a0g_38, a0g_39]))]) hP hD hCc hk1 hFc hP1 hD1 [.inl 0] (by decide +kernel) rfl
  obtain ⟨hw, hfr14⟩ := hw
  rw [show (0 : Int32).toInt = 0 from by decide, show (2000000000 : Int32).toInt = 2000000000 from by decide] at hfr14
  have hc14 : Ff_X8_in a1.toInt 0 2000000000 = r14.toInt := hfr14.symm
  have hF0 := hF0.trans (fl_lt_eq hc14.symm)
  rcases hw with hw | hw
  · obtain ⟨hw, h14⟩ := hw
    subst hw
    have l14k0_a1 : (0 : Int) ≤ a1.toInt := Int.le_trans zq5 h14.1
    have u14k0_a1 : a1.toInt ≤ (2000000000 : Int) := Int.le_trans h14.2 zq73
    have hF0 := hF0.trans (if_pos (by decide))
    obtain ⟨hPc, hDc, hFc, hCc⟩ := zc_cut (wc := [(a0, .inr (8, [Value.int v1na0_0, a0g_1, a0g_2, a0g_3, a0g_4, a0g_5, a0g_6, a0g_7, a0g_8, a0g_9, a0g_10, Value.int v1na0_11, a0g_12, a0g_13, Value.int a0_14, a0g_15, a0g_16, a0g_17, a0g_18, a0g_19, a0g_20, a0g_21, a0g_22, a0g_23, a0g_24, a0g_25, a0g_26, a0g_27, a0g_28, a0g_29, a0g_30, a0g_31, a0g_32, a0g_33, a0g_34, a0g_35, a0g_36, a0g_37, a0g_38, a0g_39]))]) hP hD hS hA [0] (by decide +kernel) rfl
    have hKc := hK.sub (tys' := []) [] rfl
    refine va_calli (va_runV (As := [.int a0_14, .int 1]) (rest := []) ⟨hx, hb, hml, hown, hts⟩ (f0_X8_why l dC dI H.size a0 a0_14 1 (Value.int v1na0_0) a0g_1 a0g_2 a0g_3 a0g_4 a0g_5 a0g_6 a0g_7 a0g_8 a0g_9 a0g_10 (Value.int v1na0_11) a0g_12 a0g_13 (Value.int a0_14) a0g_15 a0g_16 a0g_17 a0g_18 a0g_19 a0g_20 a0g_21 a0g_22 a0g_23 a0g_24 a0g_25 a0g_26 a0g_27 a0g_28 a0g_29 a0g_30 a0g_31 a0g_32 a0g_33 a0g_34 a0g_35 a0g_36 a0g_37 a0g_38 a0g_39 ba0_14_l (Int.le_trans ba0_14_u zq4) (Int.le_trans zq4 zq1) zq0) (cwV 2 hts gX8_turnOf_X8_why rfl rfl rfl zd_X8_why ⟨Nat.le_of_ble_eq_true rfl, Nat.le_of_ble_eq_true rfl⟩) ⟨ax_blind (fun _ _ _ _ _ => trivial), zr_8 hKc hPc (q0 := 0) rfl, ax_pre hPc hKc hDc (fun _ _ => trivial)⟩ rfl rfl hl.1 rfl (lv_room (Nat.le_of_ble_eq_true rfl)) dX8_turnOf_17 ⟨Nat.le_of_ble_eq_true rfl, Nat.le_of_ble_eq_true rfl⟩) hS (fun q _ h => hFc q h) hFc (fun r17 u t H locs ht hvm hw hB hz1 hk1 hS => ?_)
    obtain ⟨hP1, hK1, hD1⟩ := hB
    rw [ht] at hP1
    obtain ⟨hP, hD⟩ := zc_back (w := [(a0, .inr (8, [Value.int v1na0_0, a0g_1, a0g_2, a0g_3, a0g_4, a0g_5, a0g_6, a0g_7, a0g_8, a0g_9, a0g_10, Value.int v1na0_11, a0g_12, a0g_13, Value.int a0_14, a0g_15, a0g_16, a0g_17, a0g_18, a0g_19, a0g_20, a0g_21, a0g_22, a0g_23, a0g_24, a0g_25, a0g_26, a0g_27, a0g_28, a0g_29, a0g_30, a0g_31, a0g_32, a0g_33, a0g_34, a0g_35, a0g_36, a0g_37, a0g_38, a0g_39]))]) hP hD hCc hk1 hFc hP1 hD1 [.inr 0] (by decide +kernel) rfl
    obtain ⟨hw, hfr17⟩ := hw
    rw [show (1 : Int32).toInt = 1 from by decide] at hfr17
    have hc17 : Ff0_X8_why a0_14.toInt 1 = r17.toInt := hfr17.symm
    have hF0 := hF0.trans (fl_lt_eq hc17.symm)
    rcases hw with hw | hw | hw
    · obtain ⟨hw, h17_0, h17_1, h17_2, h17_3⟩ := hw
      subst hw
      have l17k0_a0_14 : (1 : Int) ≤ a0_14.toInt := h17_0
      have u17k0_a0_14 : a0_14.toInt ≤ (0 : Int) := ba0_14_u
      exact absurd (Int.le_trans l17k0_a0_14 u17k0_a0_14) (by decide)
    · obtain ⟨hw, h17_0, h17_1⟩ := hw
      subst hw
      have l17k1_a0_14 : (0 : Int) ≤ a0_14.toInt := ba0_14_l
      have u17k1_a0_14 : a0_14.toInt ≤ (0 : Int) := ba0_14_u
      have hF0 := hF0.trans (if_neg (by decide))
      have hF0 := hF0.trans (if_pos (by decide))
      refine lv_istore_n (lv' := [(2, .int 1), (0, .ref a0), (1, .int a1)]) hx hb dX8_turnOf_20 rfl hl (by decide) rfl (fun ls hl => ?_)
      refine lv_iload_n hx hb dX8_turnOf_21 rfl (lv_at hl 0 rfl) ?_
      refine lv_if_eq (tgt := 31) hx hb dX8_turnOf_22 (by decide) (fun c22 => absurd c22 (by decide +kernel)) (fun _ => ?_)
      refine lv_aload_n hx hb dX8_turnOf_25 rfl (lv_at hl 1 rfl) ?_
      refine lv_iload_n hx hb dX8_turnOf_26 rfl (lv_at hl 0 rfl) ?_
      obtain ⟨hPc, hDc, hFc, hCc⟩ := zc_cut (wc := [(a0, .inr (8, [Value.int v1na0_0, a0g_1, a0g_2, a0g_3, a0g_4, a0g_5, a0g_6, a0g_7, a0g_8, a0g_9, a0g_10, Value.int v1na0_11, a0g_12, a0g_13, Value.int a0_14, a0g_15, a0g_16, a0g_17, a0g_18, a0g_19, a0g_20, a0g_21, a0g_22, a0g_23, a0g_24, a0g_25, a0g_26, a0g_27, a0g_28, a0g_29, a0g_30, a0g_31, a0g_32, a0g_33, a0g_34, a0g_35, a0g_36, a0g_37, a0g_38, a0g_39]))]) hP hD hS hA [0] (by decide +kernel) rfl
      have hKc := hK.sub (tys' := []) [] rfl
      refine va_calli (va_runV (As := [.int 1]) (rest := []) ⟨hx, hb, hml, hown, hts⟩ (f_X8_no l dC dI H.size a0 1 (Value.int v1na0_0) a0g_1 a0g_2 a0g_3 a0g_4 a0g_5 a0g_6 a0g_7 a0g_8 a0g_9 a0g_10 a0g_12 a0g_13 (Value.int a0_14) a0g_15 a0g_16 a0g_17 a0g_18 a0g_19 a0g_20 a0g_21 a0g_22 a0g_23 a0g_24 a0g_25 a0g_26 a0g_27 a0g_28 a0g_29 a0g_30 a0g_31 a0g_32 a0g_33 a0g_34 a0g_35 a0g_36 a0g_37 a0g_38 a0g_39 v1na0_11 ) (cwV 1 hts gX8_turnOf_X8_no rfl rfl rfl zd_X8_no ⟨Nat.le_of_ble_eq_true rfl, Nat.le_of_ble_eq_true rfl⟩) ⟨ax_blind (fun _ _ _ _ _ => trivial), zr_8 hKc hPc (q0 := 0) rfl, ax_pre hPc hKc hDc (fun _ _ => trivial)⟩ rfl rfl hl.1 rfl (lv_room (Nat.le_of_ble_eq_true rfl)) dX8_turnOf_27 ⟨Nat.le_of_ble_eq_true rfl, Nat.le_of_ble_eq_true rfl⟩) hS (fun q _ h => hFc q h) hFc (fun r27 u t H locs ht hvm hw hB hz1 hk1 hS => ?_)
      obtain ⟨v27na0_11, hraw27_0, hP1, hK1, hD1⟩ := hB
      rw [ht] at hP1
      obtain ⟨hP, hD⟩ := zc_back (w := [(a0, .inr (8, [Value.int v1na0_0, a0g_1, a0g_2, a0g_3, a0g_4, a0g_5, a0g_6, a0g_7, a0g_8, a0g_9, a0g_10, Value.int v27na0_11, a0g_12, a0g_13, Value.int a0_14, a0g_15, a0g_16, a0g_17, a0g_18, a0g_19, a0g_20, a0g_21, a0g_22, a0g_23, a0g_24, a0g_25, a0g_26, a0g_27, a0g_28, a0g_29, a0g_30, a0g_31, a0g_32, a0g_33, a0g_34, a0g_35, a0g_36, a0g_37, a0g_38, a0g_39]))]) hP hD hCc hk1 hFc hP1 hD1 [.inr 0] (by decide +kernel) rfl
      obtain ⟨hw, hfr27⟩ := hw
      rw [show (1 : Int32).toInt = 1 from by decide] at hfr27 hraw27_0
      have hc27 : Ff_X8_no 1 = (r27.toInt, v27na0_11.toInt) := Prod.ext hfr27.symm hraw27_0
      have hF0 := hF0.trans (fl_c2_eq hc27)
      have hw : r27 = (-1) := hw
      have hw := hw.symm
      subst hw
      have hFe : FX = ((-1), v1na0_0.toInt, v27na0_11.toInt) := hF0
      exact W.iret (v := (-1)) hx hb hr (fun t ht hW => ⟨⟨(-1), (), rfl, ⟨rfl, (congrArg Prod.fst hFe).symm⟩, v1na0_0, v27na0_11, (congrArg Prod.snd hFe), by rw [ht]; exact hP, va_K.moved hW.alike hK, hD⟩, hS.F ht⟩) hS.2.2 dX8_turnOf_30
    · obtain ⟨hw, h17_0, h17_1, h17_2, h17_3⟩ := hw
      subst hw
      have l17k2_a0_14 : (1 : Int) ≤ a0_14.toInt := h17_0
      have u17k2_a0_14 : a0_14.toInt ≤ (0 : Int) := ba0_14_u
      exact absurd (Int.le_trans l17k2_a0_14 u17k2_a0_14) (by decide)
  · obtain ⟨hw, h14⟩ := hw
    subst hw
    have hF0 := hF0.trans (if_neg (by decide))
    obtain ⟨hPc, hDc, hFc, hCc⟩ := zc_cut (wc := [(a0, .inr (8, [Value.int v1na0_0, a0g_1, a0g_2, a0g_3, a0g_4, a0g_5, a0g_6, a0g_7, a0g_8, a0g_9, a0g_10, Value.int v1na0_11, a0g_12, a0g_13, Value.int a0_14, a0g_15, a0g_16, a0g_17, a0g_18, a0g_19, a0g_20, a0g_21, a0g_22, a0g_23, a0g_24, a0g_25, a0g_26, a0g_27, a0g_28, a0g_29, a0g_30, a0g_31, a0g_32, a0g_33, a0g_34, a0g_35, a0g_36, a0g_37, a0g_38, a0g_39]))]) hP hD hS hA [0] (by decide +kernel) rfl
    have hKc := hK.sub (tys' := []) [] rfl
    refine va_calli (va_runV (As := [.int a0_14, .int 0]) (rest := []) ⟨hx, hb, hml, hown, hts⟩ (f0_X8_why l dC dI H.size a0 a0_14 0 (Value.int v1na0_0) a0g_1 a0g_2 a0g_3 a0g_4 a0g_5 a0g_6 a0g_7 a0g_8 a0g_9 a0g_10 (Value.int v1na0_11) a0g_12 a0g_13 (Value.int a0_14) a0g_15 a0g_16 a0g_17 a0g_18 a0g_19 a0g_20 a0g_21 a0g_22 a0g_23 a0g_24 a0g_25 a0g_26 a0g_27 a0g_28 a0g_29 a0g_30 a0g_31 a0g_32 a0g_33 a0g_34 a0g_35 a0g_36 a0g_37 a0g_38 a0g_39 ba0_14_l (Int.le_trans ba0_14_u zq4) zq5 (Int.le_trans zq6 zq4)) (cwV 2 hts gX8_turnOf_X8_why rfl rfl rfl zd_X8_why ⟨Nat.le_of_ble_eq_true rfl, Nat.le_of_ble_eq_true rfl⟩) ⟨ax_blind (fun _ _ _ _ _ => trivial), zr_8 hKc hPc (q0 := 0) rfl, ax_pre hPc hKc hDc (fun _ _ => trivial)⟩ rfl rfl hl.1 rfl (lv_room (Nat.le_of_ble_eq_true rfl)) dX8_turnOf_17 ⟨Nat.le_of_ble_eq_true rfl, Nat.le_of_ble_eq_true rfl⟩) hS (fun q _ h => hFc q h) hFc (fun r17 u t H locs ht hvm hw hB hz1 hk1 hS => ?_)
    obtain ⟨hP1, hK1, hD1⟩ := hB
    rw [ht] at hP1
    obtain ⟨hP, hD⟩ := zc_back (w := [(a0, .inr (8, [Value.int v1na0_0, a0g_1, a0g_2, a0g_3, a0g_4, a0g_5, a0g_6, a0g_7, a0g_8, a0g_9, a0g_10, Value.int v1na0_11, a0g_12, a0g_13, Value.int a0_14, a0g_15, a0g_16, a0g_17, a0g_18, a0g_19, a0g_20, a0g_21, a0g_22, a0g_23, a0g_24, a0g_25, a0g_26, a0g_27, a0g_28, a0g_29, a0g_30, a0g_31, a0g_32, a0g_33, a0g_34, a0g_35, a0g_36, a0g_37, a0g_38, a0g_39]))]) hP hD hCc hk1 hFc hP1 hD1 [.inr 0] (by decide +kernel) rfl
    obtain ⟨hw, hfr17⟩ := hw
    rw [show (0 : Int32).toInt = 0 from by decide] at hfr17
    have hc17 : Ff0_X8_why a0_14.toInt 0 = r17.toInt := hfr17.symm
    have hF0 := hF0.trans (fl_lt_eq hc17.symm)
    rcases hw with hw | hw | hw
    · obtain ⟨hw, h17_0, h17_1, h17_2, h17_3⟩ := hw
      subst hw
      have l17k0_a0_14 : (1 : Int) ≤ a0_14.toInt := h17_0
      have u17k0_a0_14 : a0_14.toInt ≤ (0 : Int) := ba0_14_u
      exact absurd (Int.le_trans l17k0_a0_14 u17k0_a0_14) (by decide)
    · obtain ⟨hw, h17_0, h17_1⟩ := hw
      subst hw
      have l17k1_a0_14 : (0 : Int) ≤ a0_14.toInt := ba0_14_l
      have u17k1_a0_14 : a0_14.toInt ≤ (0 : Int) := ba0_14_u
      have hF0 := hF0.trans (if_neg (by decide))
      have hF0 := hF0.trans (if_pos (by decide))
      refine lv_istore_n (lv' := [(2, .int 1), (0, .ref a0), (1, .int a1)]) hx hb dX8_turnOf_20 rfl hl (by decide) rfl (fun ls hl => ?_)
      refine lv_iload_n hx hb dX8_turnOf_21 rfl (lv_at hl 0 rfl) ?_
      refine lv_if_eq (tgt := 31) hx hb dX8_turnOf_22 (by decide) (fun c22 => absurd c22 (by decide +kernel)) (fun _ => ?_)
      refine lv_aload_n hx hb dX8_turnOf_25 rfl (lv_at hl 1 rfl) ?_
      refine lv_iload_n hx hb dX8_turnOf_26 rfl (lv_at hl 0 rfl) ?_
      obtain ⟨hPc, hDc, hFc, hCc⟩ := zc_cut (wc := [(a0, .inr (8, [Value.int v1na0_0, a0g_1, a0g_2, a0g_3, a0g_4, a0g_5, a0g_6, a0g_7, a0g_8, a0g_9, a0g_10, Value.int v1na0_11, a0g_12, a0g_13, Value.int a0_14, a0g_15, a0g_16, a0g_17, a0g_18, a0g_19, a0g_20, a0g_21, a0g_22, a0g_23, a0g_24, a0g_25, a0g_26, a0g_27, a0g_28, a0g_29, a0g_30, a0g_31, a0g_32, a0g_33, a0g_34, a0g_35, a0g_36, a0g_37, a0g_38, a0g_39]))]) hP hD hS hA [0] (by decide +kernel) rfl
      have hKc := hK.sub (tys' := []) [] rfl
      refine va_calli (va_runV (As := [.int 1]) (rest := []) ⟨hx, hb, hml, hown, hts⟩ (f_X8_no l dC dI H.size a0 1 (Value.int v1na0_0) a0g_1 a0g_2 a0g_3 a0g_4 a0g_5 a0g_6 a0g_7 a0g_8 a0g_9 a0g_10 a0g_12 a0g_13 (Value.int a0_14) a0g_15 a0g_16 a0g_17 a0g_18 a0g_19 a0g_20 a0g_21 a0g_22 a0g_23 a0g_24 a0g_25 a0g_26 a0g_27 a0g_28 a0g_29 a0g_30 a0g_31 a0g_32 a0g_33 a0g_34 a0g_35 a0g_36 a0g_37 a0g_38 a0g_39 v1na0_11 ) (cwV 1 hts gX8_turnOf_X8_no rfl rfl rfl zd_X8_no ⟨Nat.le_of_ble_eq_true rfl, Nat.le_of_ble_eq_true rfl⟩) ⟨ax_blind (fun _ _ _ _ _ => trivial), zr_8 hKc hPc (q0 := 0) rfl, ax_pre hPc hKc hDc (fun _ _ => trivial)⟩ rfl rfl hl.1 rfl (lv_room (Nat.le_of_ble_eq_true rfl)) dX8_turnOf_27 ⟨Nat.le_of_ble_eq_true rfl, Nat.le_of_ble_eq_true rfl⟩) hS (fun q _ h => hFc q h) hFc (fun r27 u t H locs ht hvm hw hB hz1 hk1 hS => ?_)
      obtain ⟨v27na0_11, hraw27_0, hP1, hK1, hD1⟩ := hB
      rw [ht] at hP1
      obtain ⟨hP, hD⟩ := zc_back (w := [(a0, .inr (8, [Value.int v1na0_0, a0g_1, a0g_2, a0g_3, a0g_4, a0g_5, a0g_6, a0g_7, a0g_8, a0g_9, a0g_10, Value.int v27na0_11, a0g_12, a0g_13, Value.int a0_14, a0g_15, a0g_16, a0g_17, a0g_18, a0g_19, a0g_20, a0g_21, a0g_22, a0g_23, a0g_24, a0g_25, a0g_26, a0g_27, a0g_28, a0g_29, a0g_30, a0g_31, a0g_32, a0g_33, a0g_34, a0g_35, a0g_36, a0g_37, a0g_38, a0g_39]))]) hP hD hCc hk1 hFc hP1 hD1 [.inr 0] (by decide +kernel) rfl
      obtain ⟨hw, hfr27⟩ := hw
      rw [show (1 : Int32).toInt = 1 from by decide] at hfr27 hraw27_0
      have hc27 : Ff_X8_no 1 = (r27.toInt, v27na0_11.toInt) := Prod.ext hfr27.symm hraw27_0
      have hF0 := hF0.trans (fl_c2_eq hc27)
      have hw : r27 = (-1) := hw
      have hw := hw.symm
      subst hw
      have hFe : FX = ((-1), v1na0_0.toInt, v27na0_11.toInt) := hF0
      exact W.iret (v := (-1)) hx hb hr (fun t ht hW => ⟨⟨(-1), (), rfl, ⟨rfl, (congrArg Prod.fst hFe).symm⟩, v1na0_0, v27na0_11, (congrArg Prod.snd hFe), by rw [ht]; exact hP, va_K.moved hW.alike hK, hD⟩, hS.F ht⟩) hS.2.2 dX8_turnOf_30
    · obtain ⟨hw, h17_0, h17_1, h17_2, h17_3⟩ := hw
      subst hw
      have l17k2_a0_14 : (1 : Int) ≤ a0_14.toInt := h17_0
      have u17k2_a0_14 : a0_14.toInt ≤ (0 : Int) := ba0_14_u
      exact absurd (Int.le_trans l17k2_a0_14 u17k2_a0_14) (by decide)

set_option maxHeartbeats 4000000 in
set_option maxRecDepth 100000 in
theorem f0_X8_turnIn (l : Launch) (dC : Nat → ClassId) (dI : Nat → Nat → Nat) (sz : Nat) (a0 : Nat) (a1 : Int32) (a0_0 : Int32) (a0g_1 a0g_2 a0g_3 a0g_4 a0g_5 a0g_6 a0g_7 a0g_8 a0g_9 a0g_10 a0g_12 a0g_13 a0g_15 a0g_16 a0g_17 a0g_18 a0g_19 a0g_20 a0g_21 a0g_22 a0g_23 a0g_24 a0g_25 a0g_26 a0g_27 a0g_28 a0g_29 a0g_30 a0g_31 a0g_32 a0g_33 a0g_34 a0g_35 a0g_36 a0g_37 a0g_38 a0g_39 : Value) (a0_11 : Int32) (a0_14 : Int32) (ba0_14_l : (0 : Int) ≤ a0_14.toInt) (ba0_14_u : a0_14.toInt ≤ (0 : Int)) : Met l yX8_turnIn wsX8_turnIn ({ frames := 1, cells := 0, slots := 0, locals := 21 }) (va_Pc [.ref a0, .int a1] (ax_C dC dI sz [(a0, .inr (8, [Value.int a0_0, a0g_1, a0g_2, a0g_3, a0g_4, a0g_5, a0g_6, a0g_7, a0g_8, a0g_9, a0g_10, Value.int a0_11, a0g_12, a0g_13, Value.int a0_14, a0g_15, a0g_16, a0g_17, a0g_18, a0g_19, a0g_20, a0g_21, a0g_22, a0g_23, a0g_24, a0g_25, a0g_26, a0g_27, a0g_28, a0g_29, a0g_30, a0g_31, a0g_32, a0g_33, a0g_34, a0g_35, a0g_36, a0g_37, a0g_38, a0g_39]))] [] (fun _ => True))) (va_Qi (fun (r : Int32) (_ : Unit) => (r = (-1)) ∧ r.toInt = (Ff0_X8_turnIn a0_14.toInt).1) (fun (_ : Unit) (t : State) => ∃ na0_0 : Int32, ∃ na0_11 : Int32, ((Ff0_X8_turnIn a0_14.toInt).2 = (na0_0.toInt, na0_11.toInt)) ∧ ax_B dC dI (va_A [(a0, .inr (8, [Value.int a0_0, a0g_1, a0g_2, a0g_3, a0g_4, a0g_5, a0g_6, a0g_7, a0g_8, a0g_9, a0g_10, Value.int a0_11, a0g_12, a0g_13, Value.int a0_14, a0g_15, a0g_16, a0g_17, a0g_18, a0g_19, a0g_20, a0g_21, a0g_22, a0g_23, a0g_24, a0g_25, a0g_26, a0g_27, a0g_28, a0g_29, a0g_30, a0g_31, a0g_32, a0g_33, a0g_34, a0g_35, a0g_36, a0g_37, a0g_38, a0g_39]))] sz) [(a0, .inr (8, [Value.int na0_0, a0g_1, a0g_2, a0g_3, a0g_4, a0g_5, a0g_6, a0g_7, a0g_8, a0g_9, a0g_10, Value.int na0_11, a0g_12, a0g_13, Value.int a0_14, a0g_15, a0g_16, a0g_17, a0g_18, a0g_19, a0g_20, a0g_21, a0g_22, a0g_23, a0g_24, a0g_25, a0g_26, a0g_27, a0g_28, a0g_29, a0g_30, a0g_31, a0g_32, a0g_33, a0g_34, a0g_35, a0g_36, a0g_37, a0g_38, a0g_39]))] [] t) (va_A [(a0, .inr (8, [Value.int a0_0, a0g_1, a0g_2, a0g_3, a0g_4, a0g_5, a0g_6, a0g_7, a0g_8, a0g_9, a0g_10, Value.int a0_11, a0g_12, a0g_13, Value.int a0_14, a0g_15, a0g_16, a0g_17, a0g_18, a0g_19, a0g_20, a0g_21, a0g_22, a0g_23, a0g_24, a0g_25, a0g_26, a0g_27, a0g_28, a0g_29, a0g_30, a0g_31, a0g_32, a0g_33, a0g_34, a0g_35, a0g_36, a0g_37, a0g_38, a0g_39]))] sz)) 0 0 (va_A [(a0, .inr (8, [Value.int a0_0, a0g_1, a0g_2, a0g_3, a0g_4, a0g_5, a0g_6, a0g_7, a0g_8, a0g_9, a0g_10, Value.int a0_11, a0g_12, a0g_13, Value.int a0_14, a0g_15, a0g_16, a0g_17, a0g_18, a0g_19, a0g_20, a0g_21, a0g_22, a0g_23, a0g_24, a0g_25, a0g_26, a0g_27, a0g_28, a0g_29, a0g_30, a0g_31, a0g_32, a0g_33, a0g_34, a0g_35, a0g_36, a0g_37, a0g_38, a0g_39]))] sz) := by
  refine Met.ofW (cc := cX8_turnIn) (maxL := 3) (ret := (some .int)) (by decide) rfl ?_
  intro p e s m args below meth c s₁ B hml hv
  obtain ⟨rfl, hsz, hP, hK, hD0, hE⟩ := hv
  have hx := B.exec
  have hb := B.bytes
  have hr := B.returns
  have hts := atoms_spec (ws := wsX8_turnIn) B.pre
  have hown : s.vm.findClass RX8 = some m.cls := findClass_of_methodNamed B.named
  have hlocks := B.notSynchronized
  subst hsz
  have hD := hD0.self (sz := s.heap.size)
  generalize hAe : va_A [(a0, .inr (8, [Value.int a0_0, a0g_1, a0g_2, a0g_3, a0g_4, a0g_5, a0g_6, a0g_7, a0g_8, a0g_9, a0g_10, Value.int a0_11, a0g_12, a0g_13, Value.int a0_14, a0g_15, a0g_16, a0g_17, a0g_18, a0g_19, a0g_20, a0g_21, a0g_22, a0g_23, a0g_24, a0g_25, a0g_26, a0g_27, a0g_28, a0g_29, a0g_30, a0g_31, a0g_32, a0g_33, a0g_34, a0g_35, a0g_36, a0g_37, a0g_38, a0g_39]))] s.heap.size = A at hD ⊢
  have hA : ∀ q : Nat, s.heap.size ≤ q → A q := fun q h => by rw [← hAe]; exact Or.inr h
  have hS : va_S A s.heap s.heap [] := va_S.rf
  have hP : va_P (dC, dI) vwCl [(a0, .inr (8, [Value.int a0_0, a0g_1, a0g_2, a0g_3, a0g_4, a0g_5, a0g_6, a0g_7, a0g_8, a0g_9, a0g_10, Value.int a0_11, a0g_12, a0g_13, Value.int a0_14, a0g_15, a0g_16, a0g_17, a0g_18, a0g_19, a0g_20, a0g_21, a0g_22, a0g_23, a0g_24, a0g_25, a0g_26, a0g_27, a0g_28, a0g_29, a0g_30, a0g_31, a0g_32, a0g_33, a0g_34, a0g_35, a0g_36, a0g_37, a0g_38, a0g_39]))] s.heap := hP
  have hl := lv_entry ([.ref a0, .int a1]) (n := 3) (Nat.le_of_ble_eq_true rfl)
  rw [lg_entry_eq]
  generalize (lg_sl ([.ref a0, .int a1]) ++ List.replicate (3 - (lg_sl ([.ref a0, .int a1])).length) Slot.unset).toArray = ls at hl ⊢
  have hl : lv_has ls 3 [(0, .ref a0), (1, .int a1)] := hl
  generalize hFX : Ff0_X8_turnIn a0_14.toInt = FX at ⊢
  have hF0 := hFX.symm.trans (Ff0_X8_turnIn.eq_1 a0_14.toInt)
  refine ai_open (fun K hK0 => ?_)
  refine (hK0 _ _ _).mpr ?_
  refine lv_aload_n hx hb dX8_turnIn_0 rfl (lv_at hl 0 rfl) ?_
  obtain ⟨hPc, hDc, hFc, hCc⟩ := zc_cut (wc := [(a0, .inr (8, [Value.int a0_0, a0g_1, a0g_2, a0g_3, a0g_4, a0g_5, a0g_6, a0g_7, a0g_8, a0g_9, a0g_10, Value.int a0_11, a0g_12, a0g_13, Value.int a0_14, a0g_15, a0g_16, a0g_17, a0g_18, a0g_19, a0g_20, a0g_21, a0g_22, a0g_23, a0g_24, a0g_25, a0g_26, a0g_27, a0g_28, a0g_29, a0g_30, a0g_31, a0g_32, a0g_33, a0g_34, a0g_35, a0g_36, a0g_37, a0g_38, a0g_39]))]) hP hD hS hA [0] (by decide +kernel) rfl
  have hKc := hK.sub (tys' := []) [] rfl
  refine va_callv (va_runV (As := []) (rest := []) ⟨hx, hb, hml, hown, hts⟩ (f_X8_good l dC dI s.heap.size a0 a0_0 a0g_1 a0g_2 a0g_3 a0g_4 a0g_5 a0g_6 a0g_7 a0g_8 a0g_9 a0g_10 a0g_12 a0g_13 (Value.int a0_14) a0g_15 a0g_16 a0g_17 a0g_18 a0g_19 a0g_20 a0g_21 a0g_22 a0g_23 a0g_24 a0g_25 a0g_26 a0g_27 a0g_28 a0g_29 a0g_30 a0g_31 a0g_32 a0g_33 a0g_34 a0g_35 a0g_36 a0g_37 a0g_38 a0g_39 a0_11 ) (cwV 0 hts gX8_turnIn_X8_good rfl rfl rfl zd_X8_good ⟨Nat.le_of_ble_eq_true rfl, Nat.le_of_ble_eq_true rfl⟩) ⟨ax_blind (fun _ _ _ _ _ => trivial), zr_8 hKc hPc (q0 := 0) rfl, ax_pre hPc hKc hDc (fun _ _ => trivial)⟩ rfl rfl hl.1 rfl (lv_room (Nat.le_of_ble_eq_true rfl)) dX8_turnIn_1 ⟨Nat.le_of_ble_eq_true rfl, Nat.le_of_ble_eq_true rfl⟩) hS (fun q _ h => hFc q h) hFc (fun u t H locs ht hvm hw hB hz1 hk1 hS => ?_)
  obtain ⟨v1na0_0, v1na0_11, hraw1_0, hP1, hK1, hD1⟩ := hB
  rw [ht] at hP1
  obtain ⟨hP, hD⟩ := zc_back (w := [(a0, .inr (8, [Value.int v1na0_0, a0g_1, a0g_2, a0g_3, a0g_4, a0g_5, a0g_6, a0g_7, a0g_8, a0g_9, a0g_10, Value.int v1na0_11, a0g_12, a0g_13, Value.int a0_14, a0g_15, a0g_16, a0g_17, a0g_18, a0g_19, a0g_20, a0g_21, a0g_22, a0g_23, a0g_24, a0g_25, a0g_26, a0g_27, a0g_28, a0g_29, a0g_30, a0g_31, a0g_32, a0g_33, a0g_34, a0g_35, a0g_36, a0g_37, a0g_38, a0g_39]))]) hP hD hCc hk1 hFc hP1 hD1 [.inr 0] (by decide +kernel) rfl
  have hc1 : Ff_X8_good = (v1na0_0.toInt, v1na0_11.toInt) := hraw1_0
  have hF0 := hF0.trans (fl_c2_eq hc1)
  refine lv_aload_n hx hb dX8_turnIn_4 rfl (lv_at hl 0 rfl) ?_
  refine lv_iload_n hx hb dX8_turnIn_5 rfl (lv_at hl 1 rfl) ?_
  obtain ⟨hPc, hDc, hFc, hCc⟩ := zc_cut (wc := [(a0, .inr (8, [Value.int v1na0_0, a0g_1, a0g_2, a0g_3, a0g_4, a0g_5, a0g_6, a0g_7, a0g_8, a0g_9, a0g_10, Value.int v1na0_11, a0g_12, a0g_13, Value.int a0_14, a0g_15, a0g_16, a0g_17, a0g_18, a0g_19, a0g_20, a0g_21, a0g_22, a0g_23, a0g_24, a0g_25, a0g_26, a0g_27, a0g_28, a0g_29, a0g_30, a0g_31, a0g_32, a0g_33, a0g_34, a0g_35, a0g_36, a0g_37, a0g_38, a0g_39]))]) hP hD hS hA [0] (by decide +kernel) rfl
  have hKc := hK.sub (tys' := []) [] rfl
  refine va_calli (va_runV (As := [.int a1]) (rest := []) ⟨hx, hb, hml, hown, hts⟩ (f0_X8_isFigure l dC dI H.size a0 a1 (Value.int v1na0_0) a0g_1 a0g_2 a0g_3 a0g_4 a0g_5 a0g_6 a0g_7 a0g_8 a0g_9 a0g_10 (Value.int v1na0_11) a0g_12 a0g_13 a0g_15 a0g_16 a0g_17 a0g_18 a0g_19 a0g_20 a0g_21 a0g_22 a0g_23 a0g_24 a0g_25 a0g_26 a0g_27 a0g_28 a0g_29 a0g_30 a0g_31 a0g_32 a0g_33 a0g_34 a0g_35 a0g_36 a0g_37 a0g_38 a0g_39 a0_14 ba0_14_l ba0_14_u) (cwV 1 hts gX8_turnIn_X8_isFigure rfl rfl rfl zd_X8_isFigure ⟨Nat.le_of_ble_eq_true rfl, Nat.le_of_ble_eq_true rfl⟩) ⟨ax_blind (fun _ _ _ _ _ => trivial), zr_8 hKc hPc (q0 := 0) rfl, ax_pre hPc hKc hDc (fun _ _ => trivial)⟩ rfl rfl hl.1 rfl (lv_room (Nat.le_of_ble_eq_true rfl)) dX8_turnIn_6 ⟨Nat.le_of_ble_eq_true rfl, Nat.le_of_ble_eq_true rfl⟩) hS (fun q _ h => hFc q h) hFc (fun r6 u t H locs ht hvm hw hB hz1 hk1 hS => ?_)
  obtain ⟨hP1, hK1, hD1⟩ := hB
  rw [ht] at hP1
  obtain ⟨hP, hD⟩ := zc_back (w := [(a0, .inr (8, [Value.int v1na0_0, a0g_1, a0g_2, a0g_3, a0g_4, a0g_5, a0g_6, a0g_7, a0g_8, a0g_9, a0g_10, Value.int v1na0_11, a0g_12, a0g_13, Value.int a0_14, a0g_15, a0g_16, a0g_17, a0g_18, a0g_19, a0g_20, a0g_21, a0g_22, a0g_23, a0g_24, a0g_25, a0g_26, a0g_27, a0g_28, a0g_29, a0g_30, a0g_31, a0g_32, a0g_33, a0g_34, a0g_35, a0g_36, a0g_37, a0g_38, a0g_39]))]) hP hD hCc hk1 hFc hP1 hD1 [.inr 0] (by decide +kernel) rfl
  obtain ⟨hw, hfr6⟩ := hw
  have hc6 : Ff0_X8_isFigure a0_14.toInt = r6.toInt := hfr6.symm
  have hF0 := hF0.trans (fl_lt_eq hc6.symm)
  have hw : r6 = 0 := hw
  have hw := hw.symm
  subst hw
  refine lv_if_ne (tgt := 18) hx hb dX8_turnIn_9 (by decide) (fun c9 => absurd (by decide +kernel) c9) (fun _ => ?_)
  refine lv_aload_n hx hb dX8_turnIn_12 rfl (lv_at hl 0 rfl) ?_
  refine lv_iconst (v := 1) hx hb dX8_turnIn_13 zk_iconst_1 ?_
  obtain ⟨hPc, hDc, hFc, hCc⟩ := zc_cut (wc := [(a0, .inr (8, [Value.int v1na0_0, a0g_1, a0g_2, a0g_3, a0g_4, a0g_5, a0g_6, a0g_7, a0g_8, a0g_9, a0g_10, Value.int v1na0_11, a0g_12, a0g_13, Value.int a0_14, a0g_15, a0g_16, a0g_17, a0g_18, a0g_19, a0g_20, a0g_21, a0g_22, a0g_23, a0g_24, a0g_25, a0g_26, a0g_27, a0g_28, a0g_29, a0g_30, a0g_31, a0g_32, a0g_33, a0g_34, a0g_35, a0g_36, a0g_37, a0g_38, a0g_39]))]) hP hD hS hA [0] (by decide +kernel) rfl
  have hKc := hK.sub (tys' := []) [] rfl
  refine va_calli (va_runV (As := [.int 1]) (rest := []) ⟨hx, hb, hml, hown, hts⟩ (f_X8_no l dC dI H.size a0 1 (Value.int v1na0_0) a0g_1 a0g_2 a0g_3 a0g_4 a0g_5 a0g_6 a0g_7 a0g_8 a0g_9 a0g_10 a0g_12 a0g_13 (Value.int a0_14) a0g_15 a0g_16 a0g_17 a0g_18 a0g_19 a0g_20 a0g_21 a0g_22 a0g_23 a0g_24 a0g_25 a0g_26 a0g_27 a0g_28 a0g_29 a0g_30 a0g_31 a0g_32 a0g_33 a0g_34 a0g_35 a0g_36 a0g_37 a0g_38 a0g_39 v1na0_11 ) (cwV 1 hts gX8_turnIn_X8_no rfl rfl rfl zd_X8_no ⟨Nat.le_of_ble_eq_true rfl, Nat.le_of_ble_eq_true rfl⟩) ⟨ax_blind (fun _ _ _ _ _ => trivial), zr_8 hKc hPc (q0 := 0) rfl, ax_pre hPc hKc hDc (fun _ _ => trivial)⟩ rfl rfl hl.1 rfl (lv_room (Nat.le_of_ble_eq_true rfl)) dX8_turnIn_14 ⟨Nat.le_of_ble_eq_true rfl, Nat.le_of_ble_eq_true rfl⟩) hS (fun q _ h => hFc q h) hFc (fun r14 u t H locs ht hvm hw hB hz1 hk1 hS => ?_)
  obtain ⟨v14na0_11, hraw14_0, hP1, hK1, hD1⟩ := hB
  rw [ht] at hP1
  obtain ⟨hP, hD⟩ := zc_back (w := [(a0, .inr (8, [Value.int v1na0_0, a0g_1, a0g_2, a0g_3, a0g_4, a0g_5, a0g_6, a0g_7, a0g_8, a0g_9, a0g_10, Value.int v14na0_11, a0g_12, a0g_13, Value.int a0_14, a0g_15, a0g_16, a0g_17, a0g_18, a0g_19, a0g_20, a0g_21, a0g_22, a0g_23, a0g_24, a0g_25, a0g_26, a0g_27, a0g_28, a0g_29, a0g_30, a0g_31, a0g_32, a0g_33, a0g_34, a0g_35, a0g_36, a0g_37, a0g_38, a0g_39]))]) hP hD hCc hk1 hFc hP1 hD1 [.inr 0] (by decide +kernel) rfl
  obtain ⟨hw, hfr14⟩ := hw
  rw [show (1 : Int32).toInt = 1 from by decide] at hfr14 hraw14_0
  have hc14 : Ff_X8_no 1 = (r14.toInt, v14na0_11.toInt) := Prod.ext hfr14.symm hraw14_0
  have hF0 := hF0.trans (fl_c2_eq hc14)
  have hw : r14 = (-1) := hw
  have hw := hw.symm
  subst hw
  have hFe : FX = ((-1), v1na0_0.toInt, v14na0_11.toInt) := hF0
  exact W.iret (v := (-1)) hx hb hr (fun t ht hW => ⟨⟨(-1), (), rfl, ⟨rfl, (congrArg Prod.fst hFe).symm⟩, v1na0_0, v14na0_11, (congrArg Prod.snd hFe), by rw [ht]; exact hP, va_K.moved hW.alike hK, hD⟩, hS.F ht⟩) hS.2.2 dX8_turnIn_17
