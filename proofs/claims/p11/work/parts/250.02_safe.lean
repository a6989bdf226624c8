set_option maxHeartbeats 4000000 in
set_option maxRecDepth 100000 in
theorem c_X8_aliveBy (l : Launch) (dC : Nat → ClassId) (dI : Nat → Nat → Nat) (sz : Nat) (a0 : Nat) (a1 : Int32) (a2 : Int32) (a0_0 : Int32) (a0g_1 a0g_2 a0g_3 a0g_4 a0g_5 a0g_6 a0g_7 a0g_8 a0g_9 a0g_10 a0g_12 a0g_13 a0g_16 a0g_17 a0g_18 a0g_19 a0g_20 a0g_21 a0g_22 a0g_23 a0g_24 a0g_25 a0g_26 a0g_27 a0g_28 a0g_29 a0g_30 a0g_31 a0g_32 a0g_33 a0g_36 a0g_37 a0g_38 a0g_39 : Value) (a0_11 : Int32) (a0_14 : Int32) (a0_15 : Nat) (a0_34 : Nat) (a0_35 : Nat) (ka0_15 : ClassId) (fa0_15 : Nat → Int32) (ka0_35 : ClassId) (fa0_35 : Nat → Int32) (ka0_34 : ClassId) (fa0_34 : Nat → Int32) (ba0_14_l : (1 : Int) ≤ a0_14.toInt) (ba0_14_u : a0_14.toInt ≤ (1 : Int)) (bfa0_15 : ((∀ k : Nat, 0 ≤ k → k ≤ 0 → (2 : Int) ≤ (fa0_15 k).toInt ∧ (fa0_15 k).toInt ≤ 9) ∧ (∀ k : Nat, 1 ≤ k → k ≤ 1 → (1 : Int) ≤ (fa0_15 k).toInt ∧ (fa0_15 k).toInt ≤ 20) ∧ (∀ k : Nat, 2 ≤ k → k ≤ 2 → (0 : Int) ≤ (fa0_15 k).toInt ∧ (fa0_15 k).toInt ≤ 8) ∧ (∀ k : Nat, 3 ≤ k → k ≤ 3 → (0 : Int) ≤ (fa0_15 k).toInt ∧ (fa0_15 k).toInt ≤ 100) ∧ (∀ k : Nat, 4 ≤ k → k ≤ 4 → (0 : Int) ≤ (fa0_15 k).toInt ∧ (fa0_15 k).toInt ≤ 9) ∧ (∀ k : Nat, 5 ≤ k → k ≤ 5 → (0 : Int) ≤ (fa0_15 k).toInt ∧ (fa0_15 k).toInt ≤ 3) ∧ (∀ k : Nat, 6 ≤ k → k ≤ 6 → (0 : Int) ≤ (fa0_15 k).toInt ∧ (fa0_15 k).toInt ≤ 6) ∧ (∀ k : Nat, 7 ≤ k → k ≤ 9 → (0 : Int) ≤ (fa0_15 k).toInt ∧ (fa0_15 k).toInt ≤ 8) ∧ (∀ k : Nat, 12 ≤ k → k ≤ 29 → (0 : Int) ≤ (fa0_15 k).toInt ∧ (fa0_15 k).toInt ≤ 20) ∧ (∀ k : Nat, 30 ≤ k → k ≤ 35 → (0 : Int) ≤ (fa0_15 k).toInt ∧ (fa0_15 k).toInt ≤ 8) ∧ (∀ k : Nat, 36 ≤ k → k ≤ 47 → (0 : Int) ≤ (fa0_15 k).toInt ∧ (fa0_15 k).toInt ≤ 999))) : Met l yX8_aliveBy wsX8_aliveBy ({ frames := 4, cells := 0, slots := 0, locals := 94 }) (va_Pc [.ref a0, .int a1, .int a2] (ax_C dC dI sz [(a0, .inr (8, [Value.int a0_0, a0g_1, a0g_2, a0g_3, a0g_4, a0g_5, a0g_6, a0g_7, a0g_8, a0g_9, a0g_10, Value.int a0_11, a0g_12, a0g_13, Value.int a0_14, Value.ref a0_15, a0g_16, a0g_17, a0g_18, a0g_19, a0g_20, a0g_21, a0g_22, a0g_23, a0g_24, a0g_25, a0g_26, a0g_27, a0g_28, a0g_29, a0g_30, a0g_31, a0g_32, a0g_33, Value.ref a0_34, Value.ref a0_35, a0g_36, a0g_37, a0g_38, a0g_39])), (a0_15, .inl (ka0_15, 156, .inl (fa0_15))), (a0_35, .inl (ka0_35, 9, .inl (fa0_35))), (a0_34, .inl (ka0_34, 9, .inl (fa0_34)))] [(ka0_15, .int), (ka0_35, .int), (ka0_34, .int)] (fun _ => True))) (va_Qi (fun (r : Int32) (_ : Unit) => True) (fun (_ : Unit) (t : State) => ∃ na0_0 : Int32, ∃ na0_11 : Int32, ∃ nfa0_35 : Nat → Int32, ∃ nfa0_34 : Nat → Int32, ax_B dC dI (va_A [(a0, .inr (8, [Value.int a0_0, a0g_1, a0g_2, a0g_3, a0g_4, a0g_5, a0g_6, a0g_7, a0g_8, a0g_9, a0g_10, Value.int a0_11, a0g_12, a0g_13, Value.int a0_14, Value.ref a0_15, a0g_16, a0g_17, a0g_18, a0g_19, a0g_20, a0g_21, a0g_22, a0g_23, a0g_24, a0g_25, a0g_26, a0g_27, a0g_28, a0g_29, a0g_30, a0g_31, a0g_32, a0g_33, Value.ref a0_34, Value.ref a0_35, a0g_36, a0g_37, a0g_38, a0g_39])), (a0_15, .inl (ka0_15, 156, .inl (fa0_15))), (a0_35, .inl (ka0_35, 9, .inl (fa0_35))), (a0_34, .inl (ka0_34, 9, .inl (fa0_34)))] sz) [(a0, .inr (8, [Value.int na0_0, a0g_1, a0g_2, a0g_3, a0g_4, a0g_5, a0g_6, a0g_7, a0g_8, a0g_9, a0g_10, Value.int na0_11, a0g_12, a0g_13, Value.int a0_14, Value.ref a0_15, a0g_16, a0g_17, a0g_18, a0g_19, a0g_20, a0g_21, a0g_22, a0g_23, a0g_24, a0g_25, a0g_26, a0g_27, a0g_28, a0g_29, a0g_30, a0g_31, a0g_32, a0g_33, Value.ref a0_34, Value.ref a0_35, a0g_36, a0g_37, a0g_38, a0g_39])), (a0_15, .inl (ka0_15, 156, .inl (fa0_15))), (a0_35, .inl (ka0_35, 9, .inl (nfa0_35))), (a0_34, .inl (ka0_34, 9, .inl (nfa0_34)))] [(ka0_15, .int), (ka0_35, .int), (ka0_34, .int)] t) (va_A [(a0, .inr (8, [Value.int a0_0, a0g_1, a0g_2, a0g_3, a0g_4, a0g_5, a0g_6, a0g_7, a0g_8, a0g_9, a0g_10, Value.int a0_11, a0g_12, a0g_13, Value.int a0_14, Value.ref a0_15, a0g_16, a0g_17, a0g_18, a0g_19, a0g_20, a0g_21, a0g_22, a0g_23, a0g_24, a0g_25, a0g_26, a0g_27, a0g_28, a0g_29, a0g_30, a0g_31, a0g_32, a0g_33, Value.ref a0_34, Value.ref a0_35, a0g_36, a0g_37, a0g_38, a0g_39])), (a0_15, .inl (ka0_15, 156, .inl (fa0_15))), (a0_35, .inl (ka0_35, 9, .inl (fa0_35))), (a0_34, .inl (ka0_34, 9, .inl (fa0_34)))] sz)) 0 0 (va_A [(a0, .inr (8, [Value.int a0_0, a0g_1, a0g_2, a0g_3, a0g_4, a0g_5, a0g_6, a0g_7, a0g_8, a0g_9, a0g_10, Value.int a0_11, a0g_12, a0g_13, Value.int a0_14, Value.ref a0_15, a0g_16, a0g_17, a0g_18, a0g_19, a0g_20, a0g_21, a0g_22, a0g_23, a0g_24, a0g_25, a0g_26, a0g_27, a0g_28, a0g_29, a0g_30, a0g_31, a0g_32, a0g_33, Value.ref a0_34, Value.ref a0_35, a0g_36, a0g_37, a0g_38, a0g_39])), (a0_15, .inl (ka0_15, 156, .inl (fa0_15))), (a0_35, .inl (ka0_35, 9, .inl (fa0_35))), (a0_34, .inl (ka0_34, 9, .inl (fa0_34)))] sz) := by
  refine Met.ofW (cc := cX8_aliveBy) (maxL := 4) (ret := (some .int)) (by decide) rfl ?_
  intro p e s m args below meth c s₁ B hml hv
  obtain ⟨rfl, hsz, hP, hK, hD0, hE⟩ := hv
  have hx := B.exec
  have hb := B.bytes
  have hr := B.returns
  have hts := atoms_spec (ws := wsX8_aliveBy) B.pre
  have hown : s.vm.findClass RX8 = some m.cls := findClass_of_methodNamed B.named
  have hlocks := B.notSynchronized
  subst hsz
  have hD := hD0.self (sz := s.heap.size)
  generalize hAe : va_A [(a0, .inr (8, [Value.int a0_0, a0g_1, a0g_2, a0g_3, a0g_4, a0g_5, a0g_6, a0g_7, a0g_8, a0g_9, a0g_10, Value.int a0_11, a0g_12, a0g_13, Value.int a0_14, Value.ref a0_15, a0g_16, a0g_17, a0g_18, a0g_19, a0g_20, a0g_21, a0g_22, a0g_23, a0g_24, a0g_25, a0g_26, a0g_27, a0g_28, a0g_29, a0g_30, a0g_31, a0g_32, a0g_33, Value.ref a0_34, Value.ref a0_35, a0g_36, a0g_37, a0g_38, a0g_39])), (a0_15, .inl (ka0_15, 156, .inl (fa0_15))), (a0_35, .inl (ka0_35, 9, .inl (fa0_35))), (a0_34, .inl (ka0_34, 9, .inl (fa0_34)))] s.heap.size = A at hD ⊢
  have hA : ∀ q : Nat, s.heap.size ≤ q → A q := fun q h => by rw [← hAe]; exact Or.inr h
  have hS : va_S A s.heap s.heap [] := va_S.rf
  have hP : va_P (dC, dI) vwCl [(a0, .inr (8, [Value.int a0_0, a0g_1, a0g_2, a0g_3, a0g_4, a0g_5, a0g_6, a0g_7, a0g_8, a0g_9, a0g_10, Value.int a0_11, a0g_12, a0g_13, Value.int a0_14, Value.ref a0_15, a0g_16, a0g_17, a0g_18, a0g_19, a0g_20, a0g_21, a0g_22, a0g_23, a0g_24, a0g_25, a0g_26, a0g_27, a0g_28, a0g_29, a0g_30, a0g_31, a0g_32, a0g_33, Value.ref a0_34, Value.ref a0_35, a0g_36, a0g_37, a0g_38, a0g_39])), (a0_15, .inl (ka0_15, 156, .inl (fa0_15))), (a0_35, .inl (ka0_35, 9, .inl (fa0_35))), (a0_34, .inl (ka0_34, 9, .inl (fa0_34)))] s.heap := hP
  have hl := lv_entry ([.ref a0, .int a1, .int a2]) (n := 4) (Nat.le_of_ble_eq_true rfl)
  rw [lg_entry_eq]
  generalize (lg_sl ([.ref a0, .int a1, .int a2]) ++ List.replicate (4 - (lg_sl ([.ref a0, .int a1, .int a2])).length) Slot.unset).toArray = ls at hl ⊢
  have hl : lv_has ls 4 [(0, .ref a0), (1, .int a1), (2, .int a2)] := hl
  refine lv_aload_n hx hb dX8_aliveBy_0 rfl (lv_at hl 0 rfl) ?_
  obtain ⟨hPc, hDc, hFc, hCc⟩ := zc_cut (wc := [(a0, .inr (8, [Value.int a0_0, a0g_1, a0g_2, a0g_3, a0g_4, a0g_5, a0g_6, a0g_7, a0g_8, a0g_9, a0g_10, Value.int a0_11, a0g_12, a0g_13, Value.int a0_14, Value.ref a0_15, a0g_16, a0g_17, a0g_18, a0g_19, a0g_20, a0g_21, a0g_22, a0g_23, a0g_24, a0g_25, a0g_26, a0g_27, a0g_28, a0g_29, a0g_30, a0g_31, a0g_32, a0g_33, Value.ref a0_34, Value.ref a0_35, a0g_36, a0g_37, a0g_38, a0g_39]))]) hP hD hS hA [0] (by decide +kernel) rfl
  have hKc := hK.sub (tys' := []) [] rfl
  refine va_callv (va_runV (As := []) (rest := []) ⟨hx, hb, hml, hown, hts⟩ (c_X8_good l dC dI s.heap.size a0 a0_0 a0g_1 a0g_2 a0g_3 a0g_4 a0g_5 a0g_6 a0g_7 a0g_8 a0g_9 a0g_10 a0g_12 a0g_13 (Value.int a0_14) (Value.ref a0_15) a0g_16 a0g_17 a0g_18 a0g_19 a0g_20 a0g_21 a0g_22 a0g_23 a0g_24 a0g_25 a0g_26 a0g_27 a0g_28 a0g_29 a0g_30 a0g_31 a0g_32 a0g_33 (Value.ref a0_34) (Value.ref a0_35) a0g_36 a0g_37 a0g_38 a0g_39 a0_11 ) (cwV 0 hts gX8_aliveBy_X8_good rfl rfl rfl zd_X8_good ⟨Nat.le_of_ble_eq_true rfl, Nat.le_of_ble_eq_true rfl⟩) ⟨ax_blind (fun _ _ _ _ _ => trivial), zr_8 hKc hPc (q0 := 0) rfl, ax_pre hPc hKc hDc (fun _ _ => trivial)⟩ rfl rfl hl.1 rfl (lv_room (Nat.le_of_ble_eq_true rfl)) dX8_aliveBy_1 ⟨Nat.le_of_ble_eq_true rfl, Nat.le_of_ble_eq_true rfl⟩) hS (fun q _ h => hFc q h) hFc (fun u t H locs ht hvm hw hB hz1 hk1 hS => ?_)
  obtain ⟨v1na0_0, v1na0_11, hP1, hK1, hD1⟩ := hB
  rw [ht] at hP1
  obtain ⟨hP, hD⟩ := zc_back (w := [(a0, .inr (8, [Value.int v1na0_0, a0g_1, a0g_2, a0g_3, a0g_4, a0g_5, a0g_6, a0g_7, a0g_8, a0g_9, a0g_10, Value.int v1na0_11, a0g_12, a0g_13, Value.int a0_14, Value.ref a0_15, a0g_16, a0g_17, a0g_18, a0g_19, a0g_20, a0g_21, a0g_22, a0g_23, a0g_24, a0g_25, a0g_26, a0g_27, a0g_28, a0g_29, a0g_30, a0g_31, a0g_32, a0g_33, Value.ref a0_34, Value.ref a0_35, a0g_36, a0g_37, a0g_38, a0g_39])), (a0_15, .inl (ka0_15, 156, .inl (fa0_15))), (a0_35, .inl (ka0_35, 9, .inl (fa0_35))), (a0_34, .inl (ka0_34, 9, .inl (fa0_34)))]) hP hD hCc hk1 hFc hP1 hD1 [.inr 0, .inl 1, .inl 2, .inl 3] (by decide +kernel) rfl
  refine lv_aload_n hx hb dX8_aliveBy_4 rfl (lv_at hl 0 rfl) ?_
  refine lv_aload_n hx hb dX8_aliveBy_5 rfl (lv_at hl 0 rfl) ?_
  refine lv_iload_n hx hb dX8_aliveBy_6 rfl (lv_at hl 1 rfl) ?_
  obtain ⟨hPc, hDc, hFc, hCc⟩ := zc_cut (wc := [(a0, .inr (8, [Value.int v1na0_0, a0g_1, a0g_2, a0g_3, a0g_4, a0g_5, a0g_6, a0g_7, a0g_8, a0g_9, a0g_10, Value.int v1na0_11, a0g_12, a0g_13, Value.int a0_14, Value.ref a0_15, a0g_16, a0g_17, a0g_18, a0g_19, a0g_20, a0g_21, a0g_22, a0g_23, a0g_24, a0g_25, a0g_26, a0g_27, a0g_28, a0g_29, a0g_30, a0g_31, a0g_32, a0g_33, Value.ref a0_34, Value.ref a0_35, a0g_36, a0g_37, a0g_38, a0g_39])), (a0_15, .inl (ka0_15, 156, .inl (fa0_15)))]) hP hD hS hA [0, 1] (by decide +kernel) rfl
  have hKc := hK.sub (tys' := [(ka0_15, .int)]) [0] rfl
  refine va_calli (va_runV (As := [.int a1]) (rest := [.ref a0]) ⟨hx, hb, hml, hown, hts⟩ (c_X8_isFigure l dC dI H.size a0 a1 (Value.int v1na0_0) a0g_1 a0g_2 a0g_3 a0g_4 a0g_5 a0g_6 a0g_7 a0g_8 a0g_9 a0g_10 (Value.int v1na0_11) a0g_12 a0g_13 a0g_16 a0g_17 a0g_18 a0g_19 a0g_20 a0g_21 a0g_22 a0g_23 a0g_24 a0g_25 a0g_26 a0g_27 a0g_28 a0g_29 a0g_30 a0g_31 a0g_32 a0g_33 (Value.ref a0_34) (Value.ref a0_35) a0g_36 a0g_37 a0g_38 a0g_39 a0_14 a0_15 ka0_15 fa0_15 ba0_14_l ba0_14_u bfa0_15) (cwV 1 hts gX8_aliveBy_X8_isFigure rfl rfl rfl zd_X8_isFigure ⟨Nat.le_of_ble_eq_true rfl, Nat.le_of_ble_eq_true rfl⟩) ⟨ax_blind (fun _ _ _ _ _ => trivial), zr_8 hKc hPc (q0 := 0) rfl, ax_pre hPc hKc hDc (fun _ _ => trivial)⟩ rfl rfl hl.1 rfl (lv_room (Nat.le_of_ble_eq_true rfl)) dX8_aliveBy_7 ⟨Nat.le_of_ble_eq_true rfl, Nat.le_of_ble_eq_true rfl⟩) hS (fun q _ h => hFc q h) hFc (fun r7 u t H locs ht hvm hw hB hz1 hk1 hS => ?_)
  obtain ⟨hP1, hK1, hD1⟩ := hB
  rw [ht] at hP1
  obtain ⟨hP, hD⟩ := zc_back (w := [(a0, .inr (8, [Value.int v1na0_0, a0g_1, a0g_2, a0g_3, a0g_4, a0g_5, a0g_6, a0g_7, a0g_8, a0g_9, a0g_10, Value.int v1na0_11, a0g_12, a0g_13, Value.int a0_14, Value.ref a0_15, a0g_16, a0g_17, a0g_18, a0g_19, a0g_20, a0g_21, a0g_22, a0g_23, a0g_24, a0g_25, a0g_26, a0g_27, a0g_28, a0g_29, a0g_30, a0g_31, a0g_32, a0g_33, Value.ref a0_34, Value.ref a0_35, a0g_36, a0g_37, a0g_38, a0g_39])), (a0_15, .inl (ka0_15, 156, .inl (fa0_15))), (a0_35, .inl (ka0_35, 9, .inl (fa0_35))), (a0_34, .inl (ka0_34, 9, .inl (fa0_34)))]) hP hD hCc hk1 hFc hP1 hD1 [.inr 0, .inr 1, .inl 2, .inl 3] (by decide +kernel) rfl
  rcases hw with hw | hw
  · obtain ⟨hw, h7_0, h7_1⟩ := hw
    subst hw
    have l7k0_a1 : (0 : Int) ≤ a1.toInt := h7_0
    have u7k0_a1 : a1.toInt ≤ (8 : Int) := h7_1
    refine lv_iload_n hx hb dX8_aliveBy_10 rfl (lv_at hl 2 rfl) ?_
    refine lv_iconst (v := 0) hx hb dX8_aliveBy_11 zk_iconst_0 ?_
    refine lv_sipush (v := 999) hx hb dX8_aliveBy_12 zk_sipush_999 ?_
    obtain ⟨hPc, hDc, hFc, hCc⟩ := zc_cut (wc := []) hP hD hS hA [] (by decide +kernel) rfl
    have hKc := hK.sub (tys' := []) [] rfl
    refine va_calli (va_runS (As := [.int a2, .int 0, .int 999]) (rest := [.int 1, .ref a0]) ⟨hx, hb, hml, hown, hts⟩ (c_X8_in l dC dI H.size a2 0 999 ) (va_cwS 3 hts gX8_aliveBy_X8_in rfl rfl rfl zd_X8_in.2 ⟨Nat.le_of_ble_eq_true rfl, Nat.le_of_ble_eq_true rfl⟩) ⟨ax_blind (fun _ _ _ _ _ => trivial), ax_pre hPc hKc hDc (fun _ _ => trivial)⟩ rfl rfl hl.1 rfl (lv_room (Nat.le_of_ble_eq_true rfl)) dX8_aliveBy_15 ⟨Nat.le_of_ble_eq_true rfl, Nat.le_of_ble_eq_true rfl⟩) hS (fun q _ h => hFc q h) hFc (fun r15 u t H locs ht hvm hw hB hz1 hk1 hS => ?_)
    obtain ⟨hP1, hK1, hD1⟩ := hB
    rw [ht] at hP1
    obtain ⟨hP, hD⟩ := zc_back (w := [(a0, .inr (8, [Value.int v1na0_0, a0g_1, a0g_2, a0g_3, a0g_4, a0g_5, a0g_6, a0g_7, a0g_8, a0g_9, a0g_10, Value.int v1na0_11, a0g_12, a0g_13, Value.int a0_14, Value.ref a0_15, a0g_16, a0g_17, a0g_18, a0g_19, a0g_20, a0g_21, a0g_22, a0g_23, a0g_24, a0g_25, a0g_26, a0g_27, a0g_28, a0g_29, a0g_30, a0g_31, a0g_32, a0g_33, Value.ref a0_34, Value.ref a0_35, a0g_36, a0g_37, a0g_38, a0g_39])), (a0_15, .inl (ka0_15, 156, .inl (fa0_15))), (a0_35, .inl (ka0_35, 9, .inl (fa0_35))), (a0_34, .inl (ka0_34, 9, .inl (fa0_34)))]) hP hD hCc hk1 hFc hP1 hD1 [.inl 0, .inl 1, .inl 2, .inl 3] (by decide +kernel) rfl
    rcases hw with hw | hw
    · obtain ⟨hw, h15⟩ := hw
      subst hw
      have l15k0_a2 : (0 : Int) ≤ a2.toInt := Int.le_trans zq5 h15.1
      have u15k0_a2 : a2.toInt ≤ (999 : Int) := Int.le_trans h15.2 zq79
      obtain ⟨hPc, hDc, hFc, hCc⟩ := zc_cut (wc := [(a0, .inr (8, [Value.int v1na0_0, a0g_1, a0g_2, a0g_3, a0g_4, a0g_5, a0g_6, a0g_7, a0g_8, a0g_9, a0g_10, Value.int v1na0_11, a0g_12, a0g_13, Value.int a0_14, Value.ref a0_15, a0g_16, a0g_17, a0g_18, a0g_19, a0g_20, a0g_21, a0g_22, a0g_23, a0g_24, a0g_25, a0g_26, a0g_27, a0g_28, a0g_29, a0g_30, a0g_31, a0g_32, a0g_33, Value.ref a0_34, Value.ref a0_35, a0g_36, a0g_37, a0g_38, a0g_39]))]) hP hD hS hA [0] (by decide +kernel) rfl
      have hKc := hK.sub (tys' := []) [] rfl
      refine va_calli (va_runV (As := [.int 1, .int 1]) (rest := []) ⟨hx, hb, hml, hown, hts⟩ (c_X8_whyB l dC dI H.size a0 1 1 (Value.int v1na0_0) a0g_1 a0g_2 a0g_3 a0g_4 a0g_5 a0g_6 a0g_7 a0g_8 a0g_9 a0g_10 (Value.int v1na0_11) a0g_12 a0g_13 (Value.int a0_14) (Value.ref a0_15) a0g_16 a0g_17 a0g_18 a0g_19 a0g_20 a0g_21 a0g_22 a0g_23 a0g_24 a0g_25 a0g_26 a0g_27 a0g_28 a0g_29 a0g_30 a0g_31 a0g_32 a0g_33 (Value.ref a0_34) (Value.ref a0_35) a0g_36 a0g_37 a0g_38 a0g_39 (Int.le_trans zq4 zq1) zq0 (Int.le_trans zq4 zq1) zq0) (cwV 2 hts gX8_aliveBy_X8_why rfl rfl rfl zd_X8_why ⟨Nat.le_of_ble_eq_true rfl, Nat.le_of_ble_eq_true rfl⟩) ⟨ax_blind (fun _ _ _ _ _ => trivial), zr_8 hKc hPc (q0 := 0) rfl, ax_pre hPc hKc hDc (fun _ _ => trivial)⟩ rfl rfl hl.1 rfl (lv_room (Nat.le_of_ble_eq_true rfl)) dX8_aliveBy_18 ⟨Nat.le_of_ble_eq_true rfl, Nat.le_of_ble_eq_true rfl⟩) hS (fun q _ h => hFc q h) hFc (fun r18 u t H locs ht hvm hw hB hz1 hk1 hS => ?_)
      obtain ⟨hP1, hK1, hD1⟩ := hB
      rw [ht] at hP1
      obtain ⟨hP, hD⟩ := zc_back (w := [(a0, .inr (8, [Value.int v1na0_0, a0g_1, a0g_2, a0g_3, a0g_4, a0g_5, a0g_6, a0g_7, a0g_8, a0g_9, a0g_10, Value.int v1na0_11, a0g_12, a0g_13, Value.int a0_14, Value.ref a0_15, a0g_16, a0g_17, a0g_18, a0g_19, a0g_20, a0g_21, a0g_22, a0g_23, a0g_24, a0g_25, a0g_26, a0g_27, a0g_28, a0g_29, a0g_30, a0g_31, a0g_32, a0g_33, Value.ref a0_34, Value.ref a0_35, a0g_36, a0g_37, a0g_38, a0g_39])), (a0_15, .inl (ka0_15, 156, .inl (fa0_15))), (a0_35, .inl (ka0_35, 9, .inl (fa0_35))), (a0_34, .inl (ka0_34, 9, .inl (fa0_34)))]) hP hD hCc hk1 hFc hP1 hD1 [.inr 0, .inl 1, .inl 2, .inl 3] (by decide +kernel) rfl
      rcases hw with hw | hw | hw
      · obtain ⟨hw, h18_0, h18_1, h18_2, h18_3⟩ := hw
        subst hw
        exact absurd h18_3 (by decide)
      · obtain ⟨hw, h18_0, h18_1⟩ := hw
        subst hw
        exact absurd h18_1 (by decide)
      · obtain ⟨hw, h18_0, h18_1, h18_2, h18_3⟩ := hw
        subst hw
        refine lv_istore_n (lv' := [(3, .int 0), (0, .ref a0), (1, .int a1), (2, .int a2)]) hx hb dX8_aliveBy_21 rfl hl (by decide) rfl (fun ls hl => ?_)
        refine lv_iload_n hx hb dX8_aliveBy_22 rfl (lv_at hl 0 rfl) ?_
        refine lv_if_eq (tgt := 32) hx hb dX8_aliveBy_23 (by decide) (fun _ => ?_) (fun c23 => absurd (by decide +kernel) c23)
        refine lv_aload_n hx hb dX8_aliveBy_32 rfl (lv_at hl 1 rfl) ?_
        refine lv_iload_n hx hb dX8_aliveBy_33 rfl (lv_at hl 3 rfl) ?_
        refine lv_aload_n hx hb dX8_aliveBy_34 rfl (lv_at hl 1 rfl) ?_
        refine va_get (D := (dC, dI)) (ci := 8) (v := .ref a0_15) (C := RX8) (T := TX8) (N := 40) hx hb hts zi_X8_aliveBy_8 hown hK hP 0 rfl rfl 15 (by decide) (hts (.fieldLink RX8 20 "WaxTurnsModel" "\x72" "[I") (zm_X8_aliveBy_r1 (List.mem_of_getElem? (i := 0) rfl))) (fun _ h9 => h9) rfl dX8_aliveBy_35 ?_
        refine lv_iconst (v := 1) hx hb dX8_aliveBy_38 zk_iconst_1 ?_
        refine va_iald hx hb hK hP 1 0 rfl rfl (by unfold vp_in; decide +kernel) dX8_aliveBy_39 ?_
        refine lv_topi (fun x39 ex39 => ?_)
        have bx39 : (1 : Int) ≤ x39.toInt ∧ x39.toInt ≤ 20 := by rw [ex39]; exact ai_rd bfa0_15.2.1 zq1 zq0 (by decide) (by decide) (by decide)
        refine lv_idiv hx hb dX8_aliveBy_40 (ai_nz bx39.1 (by decide)) ?_
        refine lv_topi (fun x40 ex40 => ?_)
        have qx40 := ai_div ex40 ⟨l15k0_a2, u15k0_a2⟩ (Int.lt_of_lt_of_le zq19 bx39.1)
        obtain ⟨hPc, hDc, hFc, hCc⟩ := zc_cut (wc := [(a0, .inr (8, [Value.int v1na0_0, a0g_1, a0g_2, a0g_3, a0g_4, a0g_5, a0g_6, a0g_7, a0g_8, a0g_9, a0g_10, Value.int v1na0_11, a0g_12, a0g_13, Value.int a0_14, Value.ref a0_15, a0g_16, a0g_17, a0g_18, a0g_19, a0g_20, a0g_21, a0g_22, a0g_23, a0g_24, a0g_25, a0g_26, a0g_27, a0g_28, a0g_29, a0g_30, a0g_31, a0g_32, a0g_33, Value.ref a0_34, Value.ref a0_35, a0g_36, a0g_37, a0g_38, a0g_39])), (a0_35, .inl (ka0_35, 9, .inl (fa0_35))), (a0_15, .inl (ka0_15, 156, .inl (fa0_15))), (a0_34, .inl (ka0_34, 9, .inl (fa0_34)))]) hP hD hS hA [0, 2, 1, 3] (by decide +kernel) rfl
        have hKc := hK.sub (tys' := [(ka0_35, .int), (ka0_15, .int), (ka0_34, .int)]) [1, 0, 2] rfl
        refine va_callv (va_runV (As := [.int x40]) (rest := []) ⟨hx, hb, hml, hown, hts⟩ (c_X8_layOften l dC dI H.size a0 x40 (Value.int v1na0_0) a0g_1 a0g_2 a0g_3 a0g_4 a0g_5 a0g_6 a0g_7 a0g_8 a0g_9 a0g_10 (Value.int v1na0_11) a0g_12 a0g_13 (Value.int a0_14) a0g_16 a0g_17 a0g_18 a0g_19 a0g_20 a0g_21 a0g_22 a0g_23 a0g_24 a0g_25 a0g_26 a0g_27 a0g_28 a0g_29 a0g_30 a0g_31 a0g_32 a0g_33 a0g_36 a0g_37 a0g_38 a0g_39 a0_15 a0_34 a0_35 ka0_35 fa0_35 ka0_15 fa0_15 ka0_34 fa0_34 qx40.2.1 qx40.2.2 bfa0_15) (cwV 1 hts gX8_aliveBy_X8_layOften rfl rfl rfl zd_X8_layOften ⟨Nat.le_of_ble_eq_true rfl, Nat.le_of_ble_eq_true rfl⟩) ⟨ax_blind (fun _ _ _ _ _ => trivial), zr_8 hKc hPc (q0 := 0) rfl, ax_pre hPc hKc hDc (fun _ _ => trivial)⟩ rfl rfl hl.1 rfl (lv_room (Nat.le_of_ble_eq_true rfl)) dX8_aliveBy_41 ⟨Nat.le_of_ble_eq_true rfl, Nat.le_of_ble_eq_true rfl⟩) hS (fun q _ h => hFc q h) hFc (fun u t H locs ht hvm hw hB hz1 hk1 hS => ?_)
        obtain ⟨v41nfa0_35, v41nfa0_34, hP1, hK1, hD1⟩ := hB
        rw [ht] at hP1
        obtain ⟨hP, hD⟩ := zc_back (w := [(a0, .inr (8, [Value.int v1na0_0, a0g_1, a0g_2, a0g_3, a0g_4, a0g_5, a0g_6, a0g_7, a0g_8, a0g_9, a0g_10, Value.int v1na0_11, a0g_12, a0g_13, Value.int a0_14, Value.ref a0_15, a0g_16, a0g_17, a0g_18, a0g_19, a0g_20, a0g_21, a0g_22, a0g_23, a0g_24, a0g_25, a0g_26, a0g_27, a0g_28, a0g_29, a0g_30, a0g_31, a0g_32, a0g_33, Value.ref a0_34, Value.ref a0_35, a0g_36, a0g_37, a0g_38, a0g_39])), (a0_15, .inl (ka0_15, 156, .inl (fa0_15))), (a0_35, .inl (ka0_35, 9, .inl (v41nfa0_35))), (a0_34, .inl (ka0_34, 9, .inl (v41nfa0_34)))]) hP hD hCc hk1 hFc hP1 hD1 [.inr 0, .inr 2, .inr 1, .inr 3] (by decide +kernel) rfl
        refine lv_aload_n hx hb dX8_aliveBy_44 rfl (lv_at hl 1 rfl) ?_
        refine va_get (D := (dC, dI)) (ci := 8) (v := .ref a0_35) (C := RX8) (T := TX8) (N := 40) hx hb hts zi_X8_aliveBy_8 hown hK hP 0 rfl rfl 35 (by decide) (hts (.fieldLink RX8 56 "WaxTurnsModel" "often" "[I") (zm_X8_aliveBy_r1 (List.mem_of_getElem? (i := 1) rfl))) (fun _ h9 => h9) rfl dX8_aliveBy_45 ?_
        refine lv_iload_n hx hb dX8_aliveBy_48 rfl (lv_at hl 2 rfl) ?_
        refine va_iald hx hb hK hP 2 1 rfl rfl (ai_in l7k0_a1 u7k0_a1 (by decide) (by decide)) dX8_aliveBy_49 ?_
        refine lv_topi (fun x49 ex49 => ?_)
        exact W.iret (v := x49) hx hb hr (fun t ht hW => ⟨⟨x49, (), rfl, trivial, v1na0_0, v1na0_11, v41nfa0_35, v41nfa0_34, by rw [ht]; exact hP, va_K.moved hW.alike hK, hD⟩, hS.F ht⟩) hS.2.2 dX8_aliveBy_50
    · obtain ⟨hw, h15⟩ := hw
      subst hw
      obtain ⟨hPc, hDc, hFc, hCc⟩ := zc_cut (wc := [(a0, .inr (8, [Value.int v1na0_0, a0g_1, a0g_2, a0g_3, a0g_4, a0g_5, a0g_6, a0g_7, a0g_8, a0g_9, a0g_10, Value.int v1na0_11, a0g_12, a0g_13, Value.int a0_14, Value.ref a0_15, a0g_16, a0g_17, a0g_18, a0g_19, a0g_20, a0g_21, a0g_22, a0g_23, a0g_24, a0g_25, a0g_26, a0g_27, a0g_28, a0g_29, a0g_30, a0g_31, a0g_32, a0g_33, Value.ref a0_34, Value.ref a0_35, a0g_36, a0g_37, a0g_38, a0g_39]))]) hP hD hS hA [0] (by decide +kernel) rfl
      have hKc := hK.sub (tys' := []) [] rfl
      refine va_calli (va_runV (As := [.int 1, .int 0]) (rest := []) ⟨hx, hb, hml, hown, hts⟩ (c_X8_whyB l dC dI H.size a0 1 0 (Value.int v1na0_0) a0g_1 a0g_2 a0g_3 a0g_4 a0g_5 a0g_6 a0g_7 a0g_8 a0g_9 a0g_10 (Value.int v1na0_11) a0g_12 a0g_13 (Value.int a0_14) (Value.ref a0_15) a0g_16 a0g_17 a0g_18 a0g_19 a0g_20 a0g_21 a0g_22 a0g_23 a0g_24 a0g_25 a0g_26 a0g_27 a0g_28 a0g_29 a0g_30 a0g_31 a0g_32 a0g_33 (Value.ref a0_34) (Value.ref a0_35) a0g_36 a0g_37 a0g_38 a0g_39 (Int.le_trans zq4 zq1) zq0 zq5 (Int.le_trans zq6 zq4)) (cwV 2 hts gX8_aliveBy_X8_why rfl rfl rfl zd_X8_why ⟨Nat.le_of_ble_eq_true rfl, Nat.le_of_ble_eq_true rfl⟩) ⟨ax_blind (fun _ _ _ _ _ => trivial), zr_8 hKc hPc (q0 := 0) rfl, ax_pre hPc hKc hDc (fun _ _ => trivial)⟩ rfl rfl hl.1 rfl (lv_room (Nat.le_of_ble_eq_true rfl)) dX8_aliveBy_18 ⟨Nat.le_of_ble_eq_true rfl, Nat.le_of_ble_eq_true rfl⟩) hS (fun q _ h => hFc q h) hFc (fun r18 u t H locs ht hvm hw hB hz1 hk1 hS => ?_)
      obtain ⟨hP1, hK1, hD1⟩ := hB
      rw [ht] at hP1
      obtain ⟨hP, hD⟩ := zc_back (w := [(a0, .inr (8, [Value.int v1na0_0, a0g_1, a0g_2, a0g_3, a0g_4, a0g_5, a0g_6, a0g_7, a0g_8, a0g_9, a0g_10, Value.int v1na0_11, a0g_12, a0g_13, Value.int a0_14, Value.ref a0_15, a0g_16, a0g_17, a0g_18, a0g_19, a0g_20, a0g_21, a0g_22, a0g_23, a0g_24, a0g_25, a0g_26, a0g_27, a0g_28, a0g_29, a0g_30, a0g_31, a0g_32, a0g_33, Value.ref a0_34, Value.ref a0_35, a0g_36, a0g_37, a0g_38, a0g_39])), (a0_15, .inl (ka0_15, 156, .inl (fa0_15))), (a0_35, .inl (ka0_35, 9, .inl (fa0_35))), (a0_34, .inl (ka0_34, 9, .inl (fa0_34)))]) hP hD hCc hk1 hFc hP1 hD1 [.inr 0, .inl 1, .inl 2, .inl 3] (by decide +kernel) rfl
      rcases hw with hw | hw | hw
      · obtain ⟨hw, h18_0, h18_1, h18_2, h18_3⟩ := hw
        subst hw
        refine lv_istore_n (lv' := [(3, .int 2), (0, .ref a0), (1, .int a1), (2, .int a2)]) hx hb dX8_aliveBy_21 rfl hl (by decide) rfl (fun ls hl => ?_)
        refine lv_iload_n hx hb dX8_aliveBy_22 rfl (lv_at hl 0 rfl) ?_
        refine lv_if_eq (tgt := 32) hx hb dX8_aliveBy_23 (by decide) (fun c23 => absurd c23 (by decide +kernel)) (fun _ => ?_)
        refine lv_aload_n hx hb dX8_aliveBy_26 rfl (lv_at hl 1 rfl) ?_
        refine lv_iload_n hx hb dX8_aliveBy_27 rfl (lv_at hl 0 rfl) ?_
        obtain ⟨hPc, hDc, hFc, hCc⟩ := zc_cut (wc := [(a0, .inr (8, [Value.int v1na0_0, a0g_1, a0g_2, a0g_3, a0g_4, a0g_5, a0g_6, a0g_7, a0g_8, a0g_9, a0g_10, Value.int v1na0_11, a0g_12, a0g_13, Value.int a0_14, Value.ref a0_15, a0g_16, a0g_17, a0g_18, a0g_19, a0g_20, a0g_21, a0g_22, a0g_23, a0g_24, a0g_25, a0g_26, a0g_27, a0g_28, a0g_29, a0g_30, a0g_31, a0g_32, a0g_33, Value.ref a0_34, Value.ref a0_35, a0g_36, a0g_37, a0g_38, a0g_39]))]) hP hD hS hA [0] (by decide +kernel) rfl
        have hKc := hK.sub (tys' := []) [] rfl
        refine va_calli (va_runV (As := [.int 2]) (rest := []) ⟨hx, hb, hml, hown, hts⟩ (c_X8_no l dC dI H.size a0 2 (Value.int v1na0_0) a0g_1 a0g_2 a0g_3 a0g_4 a0g_5 a0g_6 a0g_7 a0g_8 a0g_9 a0g_10 a0g_12 a0g_13 (Value.int a0_14) (Value.ref a0_15) a0g_16 a0g_17 a0g_18 a0g_19 a0g_20 a0g_21 a0g_22 a0g_23 a0g_24 a0g_25 a0g_26 a0g_27 a0g_28 a0g_29 a0g_30 a0g_31 a0g_32 a0g_33 (Value.ref a0_34) (Value.ref a0_35) a0g_36 a0g_37 a0g_38 a0g_39 v1na0_11 ) (cwV 1 hts gX8_aliveBy_X8_no rfl rfl rfl zd_X8_no ⟨Nat.le_of_ble_eq_true rfl, Nat.le_of_ble_eq_true rfl⟩) ⟨ax_blind (fun _ _ _ _ _ => trivial), zr_8 hKc hPc (q0 := 0) rfl, ax_pre hPc hKc hDc (fun _ _ => trivial)⟩ rfl rfl hl.1 rfl (lv_room (Nat.le_of_ble_eq_true rfl)) dX8_aliveBy_28 ⟨Nat.le_of_ble_eq_true rfl, Nat.le_of_ble_eq_true rfl⟩) hS (fun q _ h => hFc q h) hFc (fun r28 u t H locs ht hvm hw hB hz1 hk1 hS => ?_)
        obtain ⟨v28na0_11, hP1, hK1, hD1⟩ := hB
        rw [ht] at hP1
        obtain ⟨hP, hD⟩ := zc_back (w := [(a0, .inr (8, [Value.int v1na0_0, a0g_1, a0g_2, a0g_3, a0g_4, a0g_5, a0g_6, a0g_7, a0g_8, a0g_9, a0g_10, Value.int v28na0_11, a0g_12, a0g_13, Value.int a0_14, Value.ref a0_15, a0g_16, a0g_17, a0g_18, a0g_19, a0g_20, a0g_21, a0g_22, a0g_23, a0g_24, a0g_25, a0g_26, a0g_27, a0g_28, a0g_29, a0g_30, a0g_31, a0g_32, a0g_33, Value.ref a0_34, Value.ref a0_35, a0g_36, a0g_37, a0g_38, a0g_39])), (a0_15, .inl (ka0_15, 156, .inl (fa0_15))), (a0_35, .inl (ka0_35, 9, .inl (fa0_35))), (a0_34, .inl (ka0_34, 9, .inl (fa0_34)))]) hP hD hCc hk1 hFc hP1 hD1 [.inr 0, .inl 1, .inl 2, .inl 3] (by decide +kernel) rfl
        have hw : r28 = (-1) := hw
        have hw := hw.symm
        subst hw
        exact W.iret (v := (-1)) hx hb hr (fun t ht hW => ⟨⟨(-1), (), rfl, trivial, v1na0_0, v28na0_11, fa0_35, fa0_34, by rw [ht]; exact hP, va_K.moved hW.alike hK, hD⟩, hS.F ht⟩) hS.2.2 dX8_aliveBy_31
      · obtain ⟨hw, h18_0, h18_1⟩ := hw
        subst hw
        exact absurd h18_1 (by decide)
      · obtain ⟨hw, h18_0, h18_1, h18_2, h18_3⟩ := hw
        subst hw
        exact absurd h18_2 (by decide)
  · subst hw
    refine lv_iload_n hx hb dX8_aliveBy_10 rfl (lv_at hl 2 rfl) ?_
    refine lv_iconst (v := 0) hx hb dX8_aliveBy_11 zk_iconst_0 ?_
    refine lv_sipush (v := 999) hx hb dX8_aliveBy_12 zk_sipush_999 ?_
    obtain ⟨hPc, hDc, hFc, hCc⟩ := zc_cut (wc := []) hP hD hS hA [] (by decide +kernel) rfl
    have hKc := hK.sub (tys' := []) [] rfl
    refine va_calli (va_runS (As := [.int a2, .int 0, .int 999]) (rest := [.int 0, .ref a0]) ⟨hx, hb, hml, hown, hts⟩ (c_X8_in l dC dI H.size a2 0 999 ) (va_cwS 3 hts gX8_aliveBy_X8_in rfl rfl rfl zd_X8_in.2 ⟨Nat.le_of_ble_eq_true rfl, Nat.le_of_ble_eq_true rfl⟩) ⟨ax_blind (fun _ _ _ _ _ => trivial), ax_pre hPc hKc hDc (fun _ _ => trivial)⟩ rfl rfl hl.1 rfl (lv_room (Nat.le_of_ble_eq_true rfl)) dX8_aliveBy_15 ⟨Nat.le_of_ble_eq_true rfl, Nat.le_of_ble_eq_true rfl⟩) hS (fun q _ h => hFc q h) hFc (fun r15 u t H locs ht hvm hw hB hz1 hk1 hS => ?_)
    obtain ⟨hP1, hK1, hD1⟩ := hB
    rw [ht] at hP1
    obtain ⟨hP, hD⟩ := zc_back (w := [(a0, .inr (8, [Value.int v1na0_0, a0g_1, a0g_2, a0g_3, a0g_4, a0g_5, a0g_6, a0g_7, a0g_8, a0g_9, a0g_10, Value.int v1na0_11, a0g_12, a0g_13, Value.int a0_14, Value.ref a0_15, a0g_16, a0g_17, a0g_18, a0g_19, a0g_20, a0g_21, a0g_22, a0g_23, a0g_24, a0g_25, a0g_26, a0g_27, a0g_28, a0g_29, a0g_30, a0g_31, a0g_32, a0g_33, Value.ref a0_34, Value.ref a0_35, a0g_36, a0g_37, a0g_38, a0g_39])), (a0_15, .inl (ka0_15, 156, .inl (fa0_15))), (a0_35, .inl (ka0_35, 9, .inl (fa0_35))), (a0_34, .inl (ka0_34, 9, .inl (fa0_34)))]) hP hD hCc hk1 hFc hP1 hD1 [.inl 0, .inl 1, .inl 2, .inl 3] (by decide +kernel) rfl
    rcases hw with hw | hw
    · obtain ⟨hw, h15⟩ := hw
      subst hw
      have l15k0_a2 : (0 : Int) ≤ a2.toInt := Int.le_trans zq5 h15.1
      have u15k0_a2 : a2.toInt ≤ (999 : Int) := Int.le_trans h15.2 zq79
      obtain ⟨hPc, hDc, hFc, hCc⟩ := zc_cut (wc := [(a0, .inr (8, [Value.int v1na0_0, a0g_1, a0g_2, a0g_3, a0g_4, a0g_5, a0g_6, a0g_7, a0g_8, a0g_9, a0g_10, Value.int v1na0_11, a0g_12, a0g_13, Value.int a0_14, Value.ref a0_15, a0g_16, a0g_17, a0g_18, a0g_19, a0g_20, a0g_21, a0g_22, a0g_23, a0g_24, a0g_25, a0g_26, a0g_27, a0g_28, a0g_29, a0g_30, a0g_31, a0g_32, a0g_33, Value.ref a0_34, Value.ref a0_35, a0g_36, a0g_37, a0g_38, a0g_39]))]) hP hD hS hA [0] (by decide +kernel) rfl
      have hKc := hK.sub (tys' := []) [] rfl
      refine va_calli (va_runV (As := [.int 0, .int 1]) (rest := []) ⟨hx, hb, hml, hown, hts⟩ (c_X8_whyB l dC dI H.size a0 0 1 (Value.int v1na0_0) a0g_1 a0g_2 a0g_3 a0g_4 a0g_5 a0g_6 a0g_7 a0g_8 a0g_9 a0g_10 (Value.int v1na0_11) a0g_12 a0g_13 (Value.int a0_14) (Value.ref a0_15) a0g_16 a0g_17 a0g_18 a0g_19 a0g_20 a0g_21 a0g_22 a0g_23 a0g_24 a0g_25 a0g_26 a0g_27 a0g_28 a0g_29 a0g_30 a0g_31 a0g_32 a0g_33 (Value.ref a0_34) (Value.ref a0_35) a0g_36 a0g_37 a0g_38 a0g_39 zq5 (Int.le_trans zq6 zq4) (Int.le_trans zq4 zq1) zq0) (cwV 2 hts gX8_aliveBy_X8_why rfl rfl rfl zd_X8_why ⟨Nat.le_of_ble_eq_true rfl, Nat.le_of_ble_eq_true rfl⟩) ⟨ax_blind (fun _ _ _ _ _ => trivial), zr_8 hKc hPc (q0 := 0) rfl, ax_pre hPc hKc hDc (fun _ _ => trivial)⟩ rfl rfl hl.1 rfl (lv_room (Nat.le_of_ble_eq_true rfl)) dX8_aliveBy_18 ⟨Nat.le_of_ble_eq_true rfl, Nat.le_of_ble_eq_true rfl⟩) hS (fun q _ h => hFc q h) hFc (fun r18 u t H locs ht hvm hw hB hz1 hk1 hS => ?_)
      obtain ⟨hP1, hK1, hD1⟩ := hB
      rw [ht] at hP1
      obtain ⟨hP, hD⟩ := zc_back (w := [(a0, .inr (8, [Value.int v1na0_0, a0g_1, a0g_2, a0g_3, a0g_4, a0g_5, a0g_6, a0g_7, a0g_8, a0g_9, a0g_10, Value.int v1na0_11, a0g_12, a0g_13, Value.int a0_14, Value.ref a0_15, a0g_16, a0g_17, a0g_18, a0g_19, a0g_20, a0g_21, a0g_22, a0g_23, a0g_24, a0g_25, a0g_26, a0g_27, a0g_28, a0g_29, a0g_30, a0g_31, a0g_32, a0g_33, Value.ref a0_34, Value.ref a0_35, a0g_36, a0g_37, a0g_38, a0g_39])), (a0_15, .inl (ka0_15, 156, .inl (fa0_15))), (a0_35, .inl (ka0_35, 9, .inl (fa0_35))), (a0_34, .inl (ka0_34, 9, .inl (fa0_34)))]) hP hD hCc hk1 hFc hP1 hD1 [.inr 0, .inl 1, .inl 2, .inl 3] (by decide +kernel) rfl
      rcases hw with hw | hw | hw
      · obtain ⟨hw, h18_0, h18_1, h18_2, h18_3⟩ := hw
        subst hw
        exact absurd h18_0 (by decide)
      · obtain ⟨hw, h18_0, h18_1⟩ := hw
        subst hw
        refine lv_istore_n (lv' := [(3, .int 1), (0, .ref a0), (1, .int a1), (2, .int a2)]) hx hb dX8_aliveBy_21 rfl hl (by decide) rfl (fun ls hl => ?_)
        refine lv_iload_n hx hb dX8_aliveBy_22 rfl (lv_at hl 0 rfl) ?_
        refine lv_if_eq (tgt := 32) hx hb dX8_aliveBy_23 (by decide) (fun c23 => absurd c23 (by decide +kernel)) (fun _ => ?_)
        refine lv_aload_n hx hb dX8_aliveBy_26 rfl (lv_at hl 1 rfl) ?_
        refine lv_iload_n hx hb dX8_aliveBy_27 rfl (lv_at hl 0 rfl) ?_
        obtain ⟨hPc, hDc, hFc, hCc⟩ := zc_cut (wc := [(a0, .inr (8, [Value.int v1na0_0, a0g_1, a0g_2, a0g_3, a0g_4, a0g_5, a0g_6, a0g_7, a0g_8, a0g_9, a0g_10, Value.int v1na0_11, a0g_12, a0g_13, Value.int a0_14, Value.ref a0_15, a0g_16, a0g_17, a0g_18, a0g_19, a0g_20, a0g_21, a0g_22, a0g_23, a0g_24, a0g_25, a0g_26, a0g_27, a0g_28, a0g_29, a0g_30, a0g_31, a0g_32, a0g_33, Value.ref a0_34, Value.ref a0_35, a0g_36, a0g_37, a0g_38, a0g_39]))]) hP hD hS hA [0] (by decide +kernel) rfl
        have hKc := hK.sub (tys' := []) [] rfl
        refine va_calli (va_runV (As := [.int 1]) (rest := []) ⟨hx, hb, hml, hown, hts⟩ (c_X8_no l dC dI H.size a0 1 (Value.int v1na0_0) a0g_1 a0g_2 a0g_3 a0g_4 a0g_5 a0g_6 a0g_7 a0g_8 a0g_9 a0g_10 a0g_12 a0g_13 (Value.int a0_14) (Value.ref a0_15) a0g_16 a0g_17 a0g_18 a0g_19 a0g_20 a0g_21 a0g_22 a0g_23 a0g_24 a0g_25 a0g_26 a0g_27 a0g_28 a0g_29 a0g_30 a0g_31 a0g_32 a0g_33 (Value.ref a0_34) (Value.ref a0_35) a0g_36 a0g_37 a0g_38 a0g_39 v1na0_11 ) (cwV 1 hts gX8_aliveBy_X8_no rfl rfl rfl zd_X8_no ⟨Nat.le_of_ble_eq_true rfl, Nat.le_of_ble_eq_true rfl⟩) ⟨ax_blind (fun _ _ _ _ _ => trivial), zr_8 hKc hPc (q0 := 0) rfl, ax_pre hPc hKc hDc (fun _ _ => trivial)⟩ rfl rfl hl.1 rfl (lv_room (Nat.le_of_ble_eq_true rfl)) dX8_aliveBy_28 ⟨Nat.le_of_ble_eq_true rfl, Nat.le_of_ble_eq_true rfl⟩) hS (fun q _ h => hFc q h) hFc (fun r28 u t H locs ht hvm hw hB hz1 hk1 hS => ?_)
        obtain ⟨v28na0_11, hP1, hK1, hD1⟩ := hB
        rw [ht] at hP1
        obtain ⟨hP, hD⟩ := zc_back (w := [(a0, .inr (8, [Value.int v1na0_0, a0g_1, a0g_2, a0g_3, a0g_4, a0g_5, a0g_6, a0g_7, a0g_8, a0g_9, a0g_10, Value.int v28na0_11, a0g_12, a0g_13, Value.int a0_14, Value.ref a0_15, a0g_16, a0g_17, a0g_18, a0g_19, a0g_20, a0g_21, a0g_22, a0g_23, a0g_24, a0g_25, a0g_26, a0g_27, a0g_28, a0g_29, a0g_30, a0g_31, a0g_32, a0g_33, Value.ref a0_34, Value.ref a0_35, a0g_36, a0g_37, a0g_38, a0g_39])), (a0_15, .inl (ka0_15, 156, .inl (fa0_15))), (a0_35, .inl (ka0_35, 9, .inl (fa0_35))), (a0_34, .inl (ka0_34, 9, .inl (fa0_34)))]) hP hD hCc hk1 hFc hP1 hD1 [.inr 0, .inl 1, .inl 2, .inl 3] (by decide +kernel) rfl
        have hw : r28 = (-1) := hw
        have hw := hw.symm
        subst hw
        exact W.iret (v := (-1)) hx hb hr (fun t ht hW => ⟨⟨(-1), (), rfl, trivial, v1na0_0, v28na0_11, fa0_35, fa0_34, by rw [ht]; exact hP, va_K.moved hW.alike hK, hD⟩, hS.F ht⟩) hS.2.2 dX8_aliveBy_31
      · obtain ⟨hw, h18_0, h18_1, h18_2, h18_3⟩ := hw
        subst hw
        exact absurd h18_0 (by decide)
    · obtain ⟨hw, h15⟩ := hw
      subst hw
      obtain ⟨hPc, hDc, hFc, hCc⟩ := zc_cut (wc := [(a0, .inr (8, [Value.int v1na0_0, a0g_1, a0g_2, a0g_3, a0g_4, a0g_5, a0g_6, a0g_7, a0g_8, a0g_9, a0g_10, Value.int v1na0_11, a0g_12, a0g_13, Value.int a0_14, Value.ref a0_15, a0g_16, a0g_17, a0g_18, a0g_19, a0g_20, a0g_21, a0g_22, a0g_23, a0g_24, a0g_25, a0g_26, a0g_27, a0g_28, a0g_29, a0g_30, a0g_31, a0g_32, a0g_33, Value.ref a0_34, Value.ref a0_35, a0g_36, a0g_37, a0g_38, a0g_39]))]) hP hD hS hA [0] (by decide +kernel) rfl
      have hKc := hK.sub (tys' := []) [] rfl
      refine va_calli (va_runV (As := [.int 0, .int 0]) (rest := []) ⟨hx, hb, hml, hown, hts⟩ (c_X8_whyB l dC dI H.size a0 0 0 (Value.int v1na0_0) a0g_1 a0g_2 a0g_3 a0g_4 a0g_5 a0g_6 a0g_7 a0g_8 a0g_9 a0g_10 (Value.int v1na0_11) a0g_12 a0g_13 (Value.int a0_14) (Value.ref a0_15) a0g_16 a0g_17 a0g_18 a0g_19 a0g_20 a0g_21 a0g_22 a0g_23 a0g_24 a0g_25 a0g_26 a0g_27 a0g_28 a0g_29 a0g_30 a0g_31 a0g_32 a0g_33 (Value.ref a0_34) (Value.ref a0_35) a0g_36 a0g_37 a0g_38 a0g_39 zq5 (Int.le_trans zq6 zq4) zq5 (Int.le_trans zq6 zq4)) (cwV 2 hts gX8_aliveBy_X8_why rfl rfl rfl zd_X8_why ⟨Nat.le_of_ble_eq_true rfl, Nat.le_of_ble_eq_true rfl⟩) ⟨ax_blind (fun _ _ _ _ _ => trivial), zr_8 hKc hPc (q0 := 0) rfl, ax_pre hPc hKc hDc (fun _ _ => trivial)⟩ rfl rfl hl.1 rfl (lv_room (Nat.le_of_ble_eq_true rfl)) dX8_aliveBy_18 ⟨Nat.le_of_ble_eq_true rfl, Nat.le_of_ble_eq_true rfl⟩) hS (fun q _ h => hFc q h) hFc (fun r18 u t H locs ht hvm hw hB hz1 hk1 hS => ?_)
      obtain ⟨hP1, hK1, hD1⟩ := hB
      rw [ht] at hP1
      obtain ⟨hP, hD⟩ := zc_back (w := [(a0, .inr (8, [Value.int v1na0_0, a0g_1, a0g_2, a0g_3, a0g_4, a0g_5, a0g_6, a0g_7, a0g_8, a0g_9, a0g_10, Value.int v1na0_11, a0g_12, a0g_13, Value.int a0_14, Value.ref a0_15, a0g_16, a0g_17, a0g_18, a0g_19, a0g_20, a0g_21, a0g_22, a0g_23, a0g_24, a0g_25, a0g_26, a0g_27, a0g_28, a0g_29, a0g_30, a0g_31, a0g_32, a0g_33, Value.ref a0_34, Value.ref a0_35, a0g_36, a0g_37, a0g_38, a0g_39])), (a0_15, .inl (ka0_15, 156, .inl (fa0_15))), (a0_35, .inl (ka0_35, 9, .inl (fa0_35))), (a0_34, .inl (ka0_34, 9, .inl (fa0_34)))]) hP hD hCc hk1 hFc hP1 hD1 [.inr 0, .inl 1, .inl 2, .inl 3] (by decide +kernel) rfl
      rcases hw with hw | hw | hw
      · obtain ⟨hw, h18_0, h18_1, h18_2, h18_3⟩ := hw
        subst hw
        exact absurd h18_0 (by decide)
      · obtain ⟨hw, h18_0, h18_1⟩ := hw
        subst hw
        refine lv_istore_n (lv' := [(3, .int 1), (0, .ref a0), (1, .int a1), (2, .int a2)]) hx hb dX8_aliveBy_21 rfl hl (by decide) rfl (fun ls hl => ?_)
        refine lv_iload_n hx hb dX8_aliveBy_22 rfl (lv_at hl 0 rfl) ?_
        refine lv_if_eq (tgt := 32) hx hb dX8_aliveBy_23 (by decide) (fun c23 => absurd c23 (by decide +kernel)) (fun _ => ?_)
        refine lv_aload_n hx hb dX8_aliveBy_26 rfl (lv_at hl 1 rfl) ?_
        refine lv_iload_n hx hb dX8_aliveBy_27 rfl (lv_at hl 0 rfl) ?_
        obtain ⟨hPc, hDc, hFc, hCc⟩ := zc_cut (wc := [(a0, .inr (8, [Value.int v1na0_0, a0g_1, a0g_2, a0g_3, a0g_4, a0g_5, a0g_6, a0g_7, a0g_8, a0g_9, a0g_10, Value.int v1na0_11, a0g_12, a0g_13, Value.int a0_14, Value.ref a0_15, a0g_16, a0g_17, a0g_18, a0g_19, a0g_20, a0g_21, a0g_22, a0g_23, a0g_24, a0g_25, a0g_26, a0g_27, a0g_28, a0g_29, a0g_30, a0g_31, a0g_32, a0g_33, Value.ref a0_34, Value.ref a0_35, a0g_36, a0g_37, a0g_38, a0g_39]))]) hP hD hS hA [0] (by decide +kernel) rfl
        have hKc := hK.sub (tys' := []) [] rfl
        refine va_calli (va_runV (As := [.int 1]) (rest := []) ⟨hx, hb, hml, hown, hts⟩ (c_X8_no l dC dI H.size a0 1 (Value.int v1na0_0) a0g_1 a0g_2 a0g_3 a0g_4 a0g_5 a0g_6 a0g_7 a0g_8 a0g_9 a0g_10 a0g_12 a0g_13 (Value.int a0_14) (Value.ref a0_15) a0g_16 a0g_17 a0g_18 a0g_19 a0g_20 a0g_21 a0g_22 a0g_23 a0g_24 a0g_25 a0g_26 a0g_27 a0g_28 a0g_29 a0g_30 a0g_31 a0g_32 a0g_33 (Value.ref a0_34) (Value.ref a0_35) a0g_36 a0g_37 a0g_38 a0g_39 v1na0_11 ) (cwV 1 hts gX8_aliveBy_X8_no rfl rfl rfl zd_X8_no ⟨Nat.le_of_ble_eq_true rfl, Nat.le_of_ble_eq_true rfl⟩) ⟨ax_blind (fun _ _ _ _ _ => trivial), zr_8 hKc hPc (q0 := 0) rfl, ax_pre hPc hKc hDc (fun _ _ => trivial)⟩ rfl rfl hl.1 rfl (lv_room (Nat.le_of_ble_eq_true rfl)) dX8_aliveBy_28 ⟨Nat.le_of_ble_eq_true rfl, Nat.le_of_ble_eq_true rfl⟩) hS (fun q _ h => hFc q h) hFc (fun r28 u t H locs ht hvm hw hB hz1 hk1 hS => ?_)
        obtain ⟨v28na0_11, hP1, hK1, hD1⟩ := hB
        rw [ht] at hP1
        obtain ⟨hP, hD⟩ := zc_back (w := [(a0, .inr (8, [Value.int v1na0_0, a0g_1, a0g_2, a0g_3, a0g_4, a0g_5, a0g_6, a0g_7, a0g_8, a0g_9, a0g_10, Value.int v28na0_11, a0g_12, a0g_13, Value.int a0_14, Value.ref a0_15, a0g_16, a0g_17, a0g_18, a0g_19, a0g_20, a0g_21, a0g_22, a0g_23, a0g_24, a0g_25, a0g_26, a0g_27, a0g_28, a0g_29, a0g_30, a0g_31, a0g_32, a0g_33, Value.ref a0_34, Value.ref a0_35, a0g_36, a0g_37, a0g_38, a0g_39])), (a0_15, .inl (ka0_15, 156, .inl (fa0_15))), (a0_35, .inl (ka0_35, 9, .inl (fa0_35))), (a0_34, .inl (ka0_34, 9, .inl (fa0_34)))]) hP hD hCc hk1 hFc hP1 hD1 [.inr 0, .inl 1, .inl 2, .inl 3] (by decide +kernel) rfl
        have hw : r28 = (-1) := hw
        have hw := hw.symm
        subst hw
        exact W.iret (v := (-1)) hx hb hr (fun t ht hW => ⟨⟨(-1), (), rfl, trivial, v1na0_0, v28na0_11, fa0_35, fa0_34, by rw [ht]; exact hP, va_K.moved hW.alike hK, hD⟩, hS.F ht⟩) hS.2.2 dX8_aliveBy_31
      · obtain ⟨hw, h18_0, h18_1, h18_2, h18_3⟩ := hw
        subst hw
        exact absurd h18_0 (by decide)

set_option maxHeartbeats 4000000 in
set_option maxRecDepth 100000 in
theorem c_X8_lookOf (l : Launch) (dC : Nat → ClassId) (dI : Nat → Nat → Nat) (sz : Nat) (a0 : Nat) (a0g_0 a0g_1 a0g_2 a0g_3 a0g_4 a0g_5 a0g_6 a0g_7 a0g_8 a0g_9 a0g_10 a0g_11 a0g_12 a0g_13 a0g_14 a0g_16 a0g_17 a0g_18 a0g_19 a0g_20 a0g_21 a0g_22 a0g_23 a0g_24 a0g_25 a0g_26 a0g_27 a0g_28 a0g_29 a0g_30 a0g_31 a0g_32 a0g_33 a0g_37 a0g_38 a0g_39 : Value) (a0_15 : Nat) (a0_34 : Nat) (a0_35 : Nat) (a0_36 : Int32) (ka0_15 : ClassId) (fa0_15 : Nat → Int32) (ka0_35 : ClassId) (fa0_35 : Nat → Int32) (ka0_34 : ClassId) (fa0_34 : Nat → Int32) (bfa0_15 : ((∀ k : Nat, 0 ≤ k → k ≤ 0 → (2 : Int) ≤ (fa0_15 k).toInt ∧ (fa0_15 k).toInt ≤ 9) ∧ (∀ k : Nat, 1 ≤ k → k ≤ 1 → (1 : Int) ≤ (fa0_15 k).toInt ∧ (fa0_15 k).toInt ≤ 20) ∧ (∀ k : Nat, 2 ≤ k → k ≤ 2 → (0 : Int) ≤ (fa0_15 k).toInt ∧ (fa0_15 k).toInt ≤ 8) ∧ (∀ k : Nat, 3 ≤ k → k ≤ 3 → (0 : Int) ≤ (fa0_15 k).toInt ∧ (fa0_15 k).toInt ≤ 100) ∧ (∀ k : Nat, 4 ≤ k → k ≤ 4 → (0 : Int) ≤ (fa0_15 k).toInt ∧ (fa0_15 k).toInt ≤ 9) ∧ (∀ k : Nat, 5 ≤ k → k ≤ 5 → (0 : Int) ≤ (fa0_15 k).toInt ∧ (fa0_15 k).toInt ≤ 3) ∧ (∀ k : Nat, 6 ≤ k → k ≤ 6 → (0 : Int) ≤ (fa0_15 k).toInt ∧ (fa0_15 k).toInt ≤ 6) ∧ (∀ k : Nat, 7 ≤ k → k ≤ 9 → (0 : Int) ≤ (fa0_15 k).toInt ∧ (fa0_15 k).toInt ≤ 8) ∧ (∀ k : Nat, 12 ≤ k → k ≤ 29 → (0 : Int) ≤ (fa0_15 k).toInt ∧ (fa0_15 k).toInt ≤ 20) ∧ (∀ k : Nat, 30 ≤ k → k ≤ 35 → (0 : Int) ≤ (fa0_15 k).toInt ∧ (fa0_15 k).toInt ≤ 8) ∧ (∀ k : Nat, 36 ≤ k → k ≤ 47 → (0 : Int) ≤ (fa0_15 k).toInt ∧ (fa0_15 k).toInt ≤ 999))) : Met l yX8_lookOf wsX8_lookOf ({ frames := 4, cells := 0, slots := 0, locals := 94 }) (va_Pc [.ref a0] (ax_C dC dI sz [(a0, .inr (8, [a0g_0, a0g_1, a0g_2, a0g_3, a0g_4, a0g_5, a0g_6, a0g_7, a0g_8, a0g_9, a0g_10, a0g_11, a0g_12, a0g_13, a0g_14, Value.ref a0_15, a0g_16, a0g_17, a0g_18, a0g_19, a0g_20, a0g_21, a0g_22, a0g_23, a0g_24, a0g_25, a0g_26, a0g_27, a0g_28, a0g_29, a0g_30, a0g_31, a0g_32, a0g_33, Value.ref a0_34, Value.ref a0_35, Value.int a0_36, a0g_37, a0g_38, a0g_39])), (a0_15, .inl (ka0_15, 156, .inl (fa0_15))), (a0_35, .inl (ka0_35, 9, .inl (fa0_35))), (a0_34, .inl (ka0_34, 9, .inl (fa0_34)))] [(ka0_15, .int), (ka0_35, .int), (ka0_34, .int)] (fun _ => True))) (va_Qi (fun (r : Int32) (_ : Unit) => (-2 : Int) ≤ r.toInt ∧ r.toInt ≤ (99 : Int)) (fun (_ : Unit) (t : State) => ∃ na0_36 : Int32, ∃ nfa0_35 : Nat → Int32, ∃ nfa0_34 : Nat → Int32, ax_B dC dI (va_A [(a0, .inr (8, [a0g_0, a0g_1, a0g_2, a0g_3, a0g_4, a0g_5, a0g_6, a0g_7, a0g_8, a0g_9, a0g_10, a0g_11, a0g_12, a0g_13, a0g_14, Value.ref a0_15, a0g_16, a0g_17, a0g_18, a0g_19, a0g_20, a0g_21, a0g_22, a0g_23, a0g_24, a0g_25, a0g_26, a0g_27, a0g_28, a0g_29, a0g_30, a0g_31, a0g_32, a0g_33, Value.ref a0_34, Value.ref a0_35, Value.int a0_36, a0g_37, a0g_38, a0g_39])), (a0_15, .inl (ka0_15, 156, .inl (fa0_15))), (a0_35, .inl (ka0_35, 9, .inl (fa0_35))), (a0_34, .inl (ka0_34, 9, .inl (fa0_34)))] sz) [(a0, .inr (8, [a0g_0, a0g_1, a0g_2, a0g_3, a0g_4, a0g_5, a0g_6, a0g_7, a0g_8, a0g_9, a0g_10, a0g_11, a0g_12, a0g_13, a0g_14, Value.ref a0_15, a0g_16, a0g_17, a0g_18, a0g_19, a0g_20, a0g_21, a0g_22, a0g_23, a0g_24, a0g_25, a0g_26, a0g_27, a0g_28, a0g_29, a0g_30, a0g_31, a0g_32, a0g_33, Value.ref a0_34, Value.ref a0_35, Value.int na0_36, a0g_37, a0g_38, a0g_39])), (a0_15, .inl (ka0_15, 156, .inl (fa0_15))), (a0_35, .inl (ka0_35, 9, .inl (nfa0_35))), (a0_34, .inl (ka0_34, 9, .inl (nfa0_34)))] [(ka0_15, .int), (ka0_35, .int), (ka0_34, .int)] t) (va_A [(a0, .inr (8, [a0g_0, a0g_1, a0g_2, a0g_3, a0g_4, a0g_5, a0g_6, a0g_7, a0g_8, a0g_9, a0g_10, a0g_11, a0g_12, a0g_13, a0g_14, Value.ref a0_15, a0g_16, a0g_17, a0g_18, a0g_19, a0g_20, a0g_21, a0g_22, a0g_23, a0g_24, a0g_25, a0g_26, a0g_27, a0g_28, a0g_29, a0g_30, a0g_31, a0g_32, a0g_33, Value.ref a0_34, Value.ref a0_35, Value.int a0_36, a0g_37, a0g_38, a0g_39])), (a0_15, .inl (ka0_15, 156, .inl (fa0_15))), (a0_35, .inl (ka0_35, 9, .inl (fa0_35))), (a0_34, .inl (ka0_34, 9, .inl (fa0_34)))] sz)) 0 0 (va_A [(a0, .inr (8, [a0g_0, a0g_1, a0g_2, a0g_3, a0g_4, a0g_5, a0g_6, a0g_7, a0g_8, a0g_9, a0g_10, a0g_11, a0g_12, a0g_13, a0g_14, Value.ref a0_15, a0g_16, a0g_17, a0g_18, a0g_19, a0g_20, a0g_21, a0g_22, a0g_23, a0g_24, a0g_25, a0g_26, a0g_27, a0g_28, a0g_29, a0g_30, a0g_31, a0g_32, a0g_33, Value.ref a0_34, Value.ref a0_35, Value.int a0_36, a0g_37, a0g_38, a0g_39])), (a0_15, .inl (ka0_15, 156, .inl (fa0_15))), (a0_35, .inl (ka0_35, 9, .inl (fa0_35))), (a0_34, .inl (ka0_34, 9, .inl (fa0_34)))] sz) := by
  refine Met.ofW (cc := cX8_lookOf) (maxL := 5) (ret := (some .int)) (by decide) rfl ?_
  intro p e s m args below meth c s₁ B hml hv
  obtain ⟨rfl, hsz, hP, hK, hD0, hE⟩ := hv
  have hx := B.exec
  have hb := B.bytes
  have hr := B.returns
  have hts := atoms_spec (ws := wsX8_lookOf) B.pre
  have hown : s.vm.findClass RX8 = some m.cls := findClass_of_methodNamed B.named
  have hlocks := B.notSynchronized
  subst hsz
  have hD := hD0.self (sz := s.heap.size)
  generalize hAe : va_A [(a0, .inr (8, [a0g_0, a0g_1, a0g_2, a0g_3, a0g_4, a0g_5, a0g_6, a0g_7, a0g_8, a0g_9, a0g_10, a0g_11, a0g_12, a0g_13, a0g_14, Value.ref a0_15, a0g_16, a0g_17, a0g_18, a0g_19, a0g_20, a0g_21, a0g_22, a0g_23, a0g_24, a0g_25, a0g_26, a0g_27, a0g_28, a0g_29, a0g_30, a0g_31, a0g_32, a0g_33, Value.ref a0_34, Value.ref a0_35, Value.int a0_36, a0g_37, a0g_38, a0g_39])), (a0_15, .inl (ka0_15, 156, .inl (fa0_15))), (a0_35, .inl (ka0_35, 9, .inl (fa0_35))), (a0_34, .inl (ka0_34, 9, .inl (fa0_34)))] s.heap.size = A at hD ⊢
  have hA : ∀ q : Nat, s.heap.size ≤ q → A q := fun q h => by rw [← hAe]; exact Or.inr h
  have hS : va_S A s.heap s.heap [] := va_S.rf
  have hP : va_P (dC, dI) vwCl [(a0, .inr (8, [a0g_0, a0g_1, a0g_2, a0g_3, a0g_4, a0g_5, a0g_6, a0g_7, a0g_8, a0g_9, a0g_10, a0g_11, a0g_12, a0g_13, a0g_14, Value.ref a0_15, a0g_16, a0g_17, a0g_18, a0g_19, a0g_20, a0g_21, a0g_22, a0g_23, a0g_24, a0g_25, a0g_26, a0g_27, a0g_28, a0g_29, a0g_30, a0g_31, a0g_32, a0g_33, Value.ref a0_34, Value.ref a0_35, Value.int a0_36, a0g_37, a0g_38, a0g_39])), (a0_15, .inl (ka0_15, 156, .inl (fa0_15))), (a0_35, .inl (ka0_35, 9, .inl (fa0_35))), (a0_34, .inl (ka0_34, 9, .inl (fa0_34)))] s.heap := hP
  have hl := lv_entry ([.ref a0]) (n := 5) (Nat.le_of_ble_eq_true rfl)
  rw [lg_entry_eq]
  generalize (lg_sl ([.ref a0]) ++ List.replicate (5 - (lg_sl ([.ref a0])).length) Slot.unset).toArray = ls at hl ⊢
  have hl : lv_has ls 5 [(0, .ref a0)] := hl
  refine ai_open (fun K hK0 => ?_)
  refine (hK0 _ _ _).mpr ?_
  refine lv_bipush (v := (-2)) hx hb dX8_lookOf_0 zk_bipush_n2 ?_
  refine lv_istore_n (lv' := [(1, .int (-2)), (0, .ref a0)]) hx hb dX8_lookOf_2 rfl hl (by decide) rfl (fun ls hl => ?_)
  refine lv_aload_n hx hb dX8_lookOf_3 rfl (lv_at hl 1 rfl) ?_
  refine lv_bipush (v := (-2)) hx hb dX8_lookOf_4 zk_bipush_n2 ?_
  refine va_put (D := (dC, dI)) (ci := 8) (v := .int (-2)) (ty := .int) (C := RX8) (T := TX8) (N := 40) hx hb hts zi_X8_lookOf_8 tyX8 tyX8_ok nmX8 hown hK hP hD hS 0 rfl rfl 36 (by decide) (hts (.fieldLink RX8 346 "WaxTurnsModel" "leastLeft" "I") (zm_X8_lookOf_r1 (List.mem_of_getElem? (i := 0) rfl))) (fun _ h9 => h9) rfl (tyX8_ok 36 (by decide)) rfl rfl (Nat.le_of_ble_eq_true rfl) dX8_lookOf_6 (fun H locs hP hD hS => ?_)
  obtain ⟨hP, hD⟩ := zc_re (w := [(a0, .inr (8, [a0g_0, a0g_1, a0g_2, a0g_3, a0g_4, a0g_5, a0g_6, a0g_7, a0g_8, a0g_9, a0g_10, a0g_11, a0g_12, a0g_13, a0g_14, Value.ref a0_15, a0g_16, a0g_17, a0g_18, a0g_19, a0g_20, a0g_21, a0g_22, a0g_23, a0g_24, a0g_25, a0g_26, a0g_27, a0g_28, a0g_29, a0g_30, a0g_31, a0g_32, a0g_33, Value.ref a0_34, Value.ref a0_35, Value.int (-2), a0g_37, a0g_38, a0g_39])), (a0_15, .inl (ka0_15, 156, .inl (fa0_15))), (a0_35, .inl (ka0_35, 9, .inl (fa0_35))), (a0_34, .inl (ka0_34, 9, .inl (fa0_34)))]) hP hD rfl
  refine lv_iconst (v := 0) hx hb dX8_lookOf_9 zk_iconst_0 ?_
  refine lv_istore_n (lv' := [(2, .int 0), (1, .int (-2)), (0, .ref a0)]) hx hb dX8_lookOf_10 rfl hl (by decide) rfl (fun ls hl => ?_)
  have J11 : ∀ (n : Nat) (j11l2 : Int32) (j11l1 : Int32) (j11a0_36 : Int32) (j11a0_35_a : Nat → Int32) (j11a0_34_a : Nat → Int32) (H : Heap) (locs : List Loc) (ls : Array Slot), (301 : Int) - j11l2.toInt ≤ (n : Int) → (0 : Int) ≤ j11l2.toInt → j11l2.toInt ≤ (300 : Int) → (-2 : Int) ≤ j11l1.toInt → j11l1.toInt ≤ (99 : Int) → va_P (dC, dI) vwCl [(a0, .inr (8, [a0g_0, a0g_1, a0g_2, a0g_3, a0g_4, a0g_5, a0g_6, a0g_7, a0g_8, a0g_9, a0g_10, a0g_11, a0g_12, a0g_13, a0g_14, Value.ref a0_15, a0g_16, a0g_17, a0g_18, a0g_19, a0g_20, a0g_21, a0g_22, a0g_23, a0g_24, a0g_25, a0g_26, a0g_27, a0g_28, a0g_29, a0g_30, a0g_31, a0g_32, a0g_33, Value.ref a0_34, Value.ref a0_35, Value.int j11a0_36, a0g_37, a0g_38, a0g_39])), (a0_15, .inl (ka0_15, 156, .inl (fa0_15))), (a0_35, .inl (ka0_35, 9, .inl (j11a0_35_a))), (a0_34, .inl (ka0_34, 9, .inl (j11a0_34_a)))] H → va_D A [(a0, .inr (8, [a0g_0, a0g_1, a0g_2, a0g_3, a0g_4, a0g_5, a0g_6, a0g_7, a0g_8, a0g_9, a0g_10, a0g_11, a0g_12, a0g_13, a0g_14, Value.ref a0_15, a0g_16, a0g_17, a0g_18, a0g_19, a0g_20, a0g_21, a0g_22, a0g_23, a0g_24, a0g_25, a0g_26, a0g_27, a0g_28, a0g_29, a0g_30, a0g_31, a0g_32, a0g_33, Value.ref a0_34, Value.ref a0_35, Value.int j11a0_36, a0g_37, a0g_38, a0g_39])), (a0_15, .inl (ka0_15, 156, .inl (fa0_15))), (a0_35, .inl (ka0_35, 9, .inl (j11a0_35_a))), (a0_34, .inl (ka0_34, 9, .inl (j11a0_34_a)))] → va_S A s.heap H locs → lv_has ls 5 [(0, .ref a0), (1, .int j11l1), (2, .int j11l2)] → K H locs (F0 m 11 ls []) := by
    intro n
    induction n with
    | zero =>
      intro j11l2 j11l1 j11a0_36 j11a0_35_a j11a0_34_a H locs ls hm bj11l2_l bj11l2_u bj11l1_l bj11l1_u hP hD hS hl
      have h8 := ai_min j11l2
      have h9 := ai_max j11l2
      exact absurd hm (by omega)
    | succ n ih11 =>
      intro j11l2 j11l1 j11a0_36 j11a0_35_a j11a0_34_a H locs ls hm bj11l2_l bj11l2_u bj11l1_l bj11l1_u hP hD hS hl
      refine (hK0 _ _ _).mpr ?_
      have hm11 := hm
      refine lv_iload_n hx hb dX8_lookOf_11 rfl (lv_at hl 2 rfl) ?_
      refine lv_bipush (v := 100) hx hb dX8_lookOf_12 zk_bipush_100 ?_
      refine lv_icmp_ge (tgt := 112) hx hb dX8_lookOf_14 (by decide) (fun c14 => ?_) (fun c14 => ?_)
      · have gc14 := ai_le c14
        have l14t_j11l2 : (100 : Int) ≤ j11l2.toInt := Int.le_trans zq24 gc14
        refine lv_iload_n hx hb dX8_lookOf_112 rfl (lv_at hl 1 rfl) ?_
        exact W.iret (v := j11l1) hx hb hr (fun t ht hW => ⟨⟨j11l1, (), rfl, ⟨bj11l1_l, bj11l1_u⟩, j11a0_36, j11a0_35_a, j11a0_34_a, by rw [ht]; exact hP, va_K.moved hW.alike hK, hD⟩, hS.F ht⟩) hS.2.2 dX8_lookOf_113
      · have gc14 := ai_nle c14
        have u14f_j11l2 : j11l2.toInt ≤ (99 : Int) := ai_lthi gc14 zq32
        refine lv_aload_n hx hb dX8_lookOf_17 rfl (lv_at hl 0 rfl) ?_
        refine lv_iload_n hx hb dX8_lookOf_18 rfl (lv_at hl 2 rfl) ?_
        refine lv_aload_n hx hb dX8_lookOf_19 rfl (lv_at hl 0 rfl) ?_
        refine va_get (D := (dC, dI)) (ci := 8) (v := .ref a0_15) (C := RX8) (T := TX8) (N := 40) hx hb hts zi_X8_lookOf_8 hown hK hP 0 rfl rfl 15 (by decide) (hts (.fieldLink RX8 20 "WaxTurnsModel" "\x72" "[I") (zm_X8_lookOf_r1 (List.mem_of_getElem? (i := 1) rfl))) (fun _ h9 => h9) rfl dX8_lookOf_20 ?_
        refine lv_iconst (v := 1) hx hb dX8_lookOf_23 zk_iconst_1 ?_
        refine va_iald hx hb hK hP 1 0 rfl rfl (by unfold vp_in; decide +kernel) dX8_lookOf_24 ?_
        refine lv_topi (fun x24 ex24 => ?_)
        have bx24 : (1 : Int) ≤ x24.toInt ∧ x24.toInt ≤ 20 := by rw [ex24]; exact ai_rd bfa0_15.2.1 zq1 zq0 (by decide) (by decide) (by decide)
        refine lv_idiv hx hb dX8_lookOf_25 (ai_nz bx24.1 (by decide)) ?_
        refine lv_topi (fun x25 ex25 => ?_)
        have qx25 := ai_div ex25 ⟨bj11l2_l, u14f_j11l2⟩ (Int.lt_of_lt_of_le zq19 bx24.1)
        obtain ⟨hPc, hDc, hFc, hCc⟩ := zc_cut (wc := [(a0, .inr (8, [a0g_0, a0g_1, a0g_2, a0g_3, a0g_4, a0g_5, a0g_6, a0g_7, a0g_8, a0g_9, a0g_10, a0g_11, a0g_12, a0g_13, a0g_14, Value.ref a0_15, a0g_16, a0g_17, a0g_18, a0g_19, a0g_20, a0g_21, a0g_22, a0g_23, a0g_24, a0g_25, a0g_26, a0g_27, a0g_28, a0g_29, a0g_30, a0g_31, a0g_32, a0g_33, Value.ref a0_34, Value.ref a0_35, Value.int j11a0_36, a0g_37, a0g_38, a0g_39])), (a0_35, .inl (ka0_35, 9, .inl (j11a0_35_a))), (a0_15, .inl (ka0_15, 156, .inl (fa0_15))), (a0_34, .inl (ka0_34, 9, .inl (j11a0_34_a)))]) hP hD hS hA [0, 2, 1, 3] (by decide +kernel) rfl
        have hKc := hK.sub (tys' := [(ka0_35, .int), (ka0_15, .int), (ka0_34, .int)]) [1, 0, 2] rfl
        refine va_callv (va_runV (As := [.int x25]) (rest := []) ⟨hx, hb, hml, hown, hts⟩ (c_X8_layOften l dC dI H.size a0 x25 a0g_0 a0g_1 a0g_2 a0g_3 a0g_4 a0g_5 a0g_6 a0g_7 a0g_8 a0g_9 a0g_10 a0g_11 a0g_12 a0g_13 a0g_14 a0g_16 a0g_17 a0g_18 a0g_19 a0g_20 a0g_21 a0g_22 a0g_23 a0g_24 a0g_25 a0g_26 a0g_27 a0g_28 a0g_29 a0g_30 a0g_31 a0g_32 a0g_33 (Value.int j11a0_36) a0g_37 a0g_38 a0g_39 a0_15 a0_34 a0_35 ka0_35 j11a0_35_a ka0_15 fa0_15 ka0_34 j11a0_34_a qx25.2.1 (Int.le_trans qx25.2.2 zq186) bfa0_15) (cwV 1 hts gX8_lookOf_X8_layOften rfl rfl rfl zd_X8_layOften ⟨Nat.le_of_ble_eq_true rfl, Nat.le_of_ble_eq_true rfl⟩) ⟨ax_blind (fun _ _ _ _ _ => trivial), zr_8 hKc hPc (q0 := 0) rfl, ax_pre hPc hKc hDc (fun _ _ => trivial)⟩ rfl rfl hl.1 rfl (lv_room (Nat.le_of_ble_eq_true rfl)) dX8_lookOf_26 ⟨Nat.le_of_ble_eq_true rfl, Nat.le_of_ble_eq_true rfl⟩) hS (fun q _ h => hFc q h) hFc (fun u t H locs ht hvm hw hB hz1 hk1 hS => ?_)
        obtain ⟨v26nfa0_35, v26nfa0_34, hP1, hK1, hD1⟩ := hB
        rw [ht] at hP1
        obtain ⟨hP, hD⟩ := zc_back (w := [(a0, .inr (8, [a0g_0, a0g_1, a0g_2, a0g_3, a0g_4, a0g_5, a0g_6, a0g_7, a0g_8, a0g_9, a0g_10, a0g_11, a0g_12, a0g_13, a0g_14, Value.ref a0_15, a0g_16, a0g_17, a0g_18, a0g_19, a0g_20, a0g_21, a0g_22, a0g_23, a0g_24, a0g_25, a0g_26, a0g_27, a0g_28, a0g_29, a0g_30, a0g_31, a0g_32, a0g_33, Value.ref a0_34, Value.ref a0_35, Value.int j11a0_36, a0g_37, a0g_38, a0g_39])), (a0_15, .inl (ka0_15, 156, .inl (fa0_15))), (a0_35, .inl (ka0_35, 9, .inl (v26nfa0_35))), (a0_34, .inl (ka0_34, 9, .inl (v26nfa0_34)))]) hP hD hCc hk1 hFc hP1 hD1 [.inr 0, .inr 2, .inr 1, .inr 3] (by decide +kernel) rfl
        refine lv_iconst (v := 0) hx hb dX8_lookOf_29 zk_iconst_0 ?_
        refine lv_istore_n (lv' := [(3, .int 0), (0, .ref a0), (1, .int j11l1), (2, .int j11l2)]) hx hb dX8_lookOf_30 rfl hl (by decide) rfl (fun ls hl => ?_)
        refine lv_iconst (v := 0) hx hb dX8_lookOf_31 zk_iconst_0 ?_
        refine lv_istore (lv' := [(4, .int 0), (3, .int 0), (0, .ref a0), (1, .int j11l1), (2, .int j11l2)]) hx hb dX8_lookOf_32 hl (by decide) rfl (fun ls hl => ?_)
        have J34 : ∀ (n : Nat) (j34l4 : Int32) (j34l3 : Int32) (H : Heap) (locs : List Loc) (ls : Array Slot), (10 : Int) - j34l4.toInt ≤ (n : Int) → (0 : Int) ≤ j34l4.toInt → j34l4.toInt ≤ (9 : Int) → (0 : Int) ≤ j34l3.toInt → va_P (dC, dI) vwCl [(a0, .inr (8, [a0g_0, a0g_1, a0g_2, a0g_3, a0g_4, a0g_5, a0g_6, a0g_7, a0g_8, a0g_9, a0g_10, a0g_11, a0g_12, a0g_13, a0g_14, Value.ref a0_15, a0g_16, a0g_17, a0g_18, a0g_19, a0g_20, a0g_21, a0g_22, a0g_23, a0g_24, a0g_25, a0g_26, a0g_27, a0g_28, a0g_29, a0g_30, a0g_31, a0g_32, a0g_33, Value.ref a0_34, Value.ref a0_35, Value.int j11a0_36, a0g_37, a0g_38, a0g_39])), (a0_15, .inl (ka0_15, 156, .inl (fa0_15))), (a0_35, .inl (ka0_35, 9, .inl (v26nfa0_35))), (a0_34, .inl (ka0_34, 9, .inl (v26nfa0_34)))] H → va_D A [(a0, .inr (8, [a0g_0, a0g_1, a0g_2, a0g_3, a0g_4, a0g_5, a0g_6, a0g_7, a0g_8, a0g_9, a0g_10, a0g_11, a0g_12, a0g_13, a0g_14, Value.ref a0_15, a0g_16, a0g_17, a0g_18, a0g_19, a0g_20, a0g_21, a0g_22, a0g_23, a0g_24, a0g_25, a0g_26, a0g_27, a0g_28, a0g_29, a0g_30, a0g_31, a0g_32, a0g_33, Value.ref a0_34, Value.ref a0_35, Value.int j11a0_36, a0g_37, a0g_38, a0g_39])), (a0_15, .inl (ka0_15, 156, .inl (fa0_15))), (a0_35, .inl (ka0_35, 9, .inl (v26nfa0_35))), (a0_34, .inl (ka0_34, 9, .inl (v26nfa0_34)))] → va_S A s.heap H locs → lv_has ls 5 [(0, .ref a0), (1, .int j11l1), (2, .int j11l2), (3, .int j34l3), (4, .int j34l4)] → K H locs (F0 m 34 ls []) := by
          intro n
          induction n with
          | zero =>
            intro j34l4 j34l3 H locs ls hm bj34l4_l bj34l4_u bj34l3_l hP hD hS hl
            have h8 := ai_min j34l4
            have h9 := ai_max j34l4
            exact absurd hm (by omega)
          | succ n ih34 =>
            intro j34l4 j34l3 H locs ls hm bj34l4_l bj34l4_u bj34l3_l hP hD hS hl
            refine (hK0 _ _ _).mpr ?_
            have hm34 := hm
            refine lv_iload hx hb dX8_lookOf_34 (lv_at hl 4 rfl) ?_
            refine lv_aload_n hx hb dX8_lookOf_36 rfl (lv_at hl 0 rfl) ?_
            refine va_get (D := (dC, dI)) (ci := 8) (v := .ref a0_15) (C := RX8) (T := TX8) (N := 40) hx hb hts zi_X8_lookOf_8 hown hK hP 0 rfl rfl 15 (by decide) (hts (.fieldLink RX8 20 "WaxTurnsModel" "\x72" "[I") (zm_X8_lookOf_r1 (List.mem_of_getElem? (i := 1) rfl))) (fun _ h9 => h9) rfl dX8_lookOf_37 ?_
            refine lv_iconst (v := 0) hx hb dX8_lookOf_40 zk_iconst_0 ?_
            refine va_iald hx hb hK hP 1 0 rfl rfl (by unfold vp_in; decide +kernel) dX8_lookOf_41 ?_
            refine lv_topi (fun x41 ex41 => ?_)
            have bx41 : (2 : Int) ≤ x41.toInt ∧ x41.toInt ≤ 9 := by rw [ex41]; exact ai_rd bfa0_15.1 zq5 zq6 (by decide) (by decide) (by decide)
            refine lv_icmp_ge (tgt := 74) hx hb dX8_lookOf_42 (by decide) (fun c42 => ?_) (fun c42 => ?_)
            · have gc42 := ai_le c42
              have u42t_x41 : x41.toInt ≤ (9 : Int) := bx41.2
              have l42t_j34l4 : (2 : Int) ≤ j34l4.toInt := Int.le_trans bx41.1 gc42
              refine lv_iload_n hx hb dX8_lookOf_74 rfl (lv_at hl 3 rfl) ?_
              have J100 : ∀ (j100l1 : Int32) (j100a0_36 : Int32) (H : Heap) (locs : List Loc) (ls : Array Slot), (-2 : Int) ≤ j100l1.toInt → j100l1.toInt ≤ (99 : Int) → va_P (dC, dI) vwCl [(a0, .inr (8, [a0g_0, a0g_1, a0g_2, a0g_3, a0g_4, a0g_5, a0g_6, a0g_7, a0g_8, a0g_9, a0g_10, a0g_11, a0g_12, a0g_13, a0g_14, Value.ref a0_15, a0g_16, a0g_17, a0g_18, a0g_19, a0g_20, a0g_21, a0g_22, a0g_23, a0g_24, a0g_25, a0g_26, a0g_27, a0g_28, a0g_29, a0g_30, a0g_31, a0g_32, a0g_33, Value.ref a0_34, Value.ref a0_35, Value.int j100a0_36, a0g_37, a0g_38, a0g_39])), (a0_15, .inl (ka0_15, 156, .inl (fa0_15))), (a0_35, .inl (ka0_35, 9, .inl (v26nfa0_35))), (a0_34, .inl (ka0_34, 9, .inl (v26nfa0_34)))] H → va_D A [(a0, .inr (8, [a0g_0, a0g_1, a0g_2, a0g_3, a0g_4, a0g_5, a0g_6, a0g_7, a0g_8, a0g_9, a0g_10, a0g_11, a0g_12, a0g_13, a0g_14, Value.ref a0_15, a0g_16, a0g_17, a0g_18, a0g_19, a0g_20, a0g_21, a0g_22, a0g_23, a0g_24, a0g_25, a0g_26, a0g_27, a0g_28, a0g_29, a0g_30, a0g_31, a0g_32, a0g_33, Value.ref a0_34, Value.ref a0_35, Value.int j100a0_36, a0g_37, a0g_38, a0g_39])), (a0_15, .inl (ka0_15, 156, .inl (fa0_15))), (a0_35, .inl (ka0_35, 9, .inl (v26nfa0_35))), (a0_34, .inl (ka0_34, 9, .inl (v26nfa0_34)))] → va_S A s.heap H locs → lv_has ls 5 [(0, .ref a0), (1, .int j100l1), (2, .int j11l2)] → K H locs (F0 m 100 ls []) := by
                intro j100l1 j100a0_36 H locs ls  bj100l1_l bj100l1_u hP hD hS hl
                refine (hK0 _ _ _).mpr ?_
                refine lv_iload_n hx hb dX8_lookOf_100 rfl (lv_at hl 2 rfl) ?_
                refine lv_aload_n hx hb dX8_lookOf_101 rfl (lv_at hl 0 rfl) ?_
                refine va_get (D := (dC, dI)) (ci := 8) (v := .ref a0_15) (C := RX8) (T := TX8) (N := 40) hx hb hts zi_X8_lookOf_8 hown hK hP 0 rfl rfl 15 (by decide) (hts (.fieldLink RX8 20 "WaxTurnsModel" "\x72" "[I") (zm_X8_lookOf_r1 (List.mem_of_getElem? (i := 1) rfl))) (fun _ h9 => h9) rfl dX8_lookOf_102 ?_
                refine lv_iconst (v := 1) hx hb dX8_lookOf_105 zk_iconst_1 ?_
                refine va_iald hx hb hK hP 1 0 rfl rfl (by unfold vp_in; decide +kernel) dX8_lookOf_106 ?_
                refine lv_topi (fun x106 ex106 => ?_)
                have bx106 : (1 : Int) ≤ x106.toInt ∧ x106.toInt ≤ 20 := by rw [ex106]; exact ai_rd bfa0_15.2.1 zq1 zq0 (by decide) (by decide) (by decide)
                refine lv_iadd hx hb dX8_lookOf_107 ?_
                refine lv_topi (fun x107 ex107 => ?_)
                have qx107 : x107.toInt = j11l2.toInt + x106.toInt := ai_add ex107 ⟨bj11l2_l, u14f_j11l2⟩ ⟨bx106.1, bx106.2⟩ (by decide) (by decide)
                have bx107 : (1 : Int) ≤ x107.toInt ∧ x107.toInt ≤ 119 := ⟨by rw [qx107]; exact Int.add_le_add bj11l2_l bx106.1, by rw [qx107]; exact Int.add_le_add u14f_j11l2 bx106.2⟩
                refine lv_istore_n (lv' := [(2, .int x107), (0, .ref a0), (1, .int j100l1)]) hx hb dX8_lookOf_108 rfl hl (by decide) rfl (fun ls hl => ?_)
                refine lv_goto (tgt := 11) hx hb dX8_lookOf_109 (by decide) ?_
                exact (hK0 _ _ _).mp (ih11 x107 j100l1 j100a0_36 v26nfa0_35 v26nfa0_34 _ _ _ (by have h0 := qx107; omega) (Int.le_trans zq4 bx107.1) (Int.le_trans bx107.2 zq187) bj100l1_l bj100l1_u hP hD hS (lv_sub hl [1, 2, 0] rfl))
              refine lv_if_eq (tgt := 100) hx hb dX8_lookOf_75 (by decide) (fun c75 => ?_) (fun c75 => ?_)
              · have gc75 := ai_eq c75
                have u75t_j34l3 : j34l3.toInt ≤ (0 : Int) := Int.le_trans (Int.le_of_eq gc75) zq6
                have l75t_j34l3 : (0 : Int) ≤ j34l3.toInt := bj34l3_l
                exact (hK0 _ _ _).mp (J100 j11l1 j11a0_36 _ _ _  bj11l1_l bj11l1_u hP hD hS (lv_sub hl [0, 1, 2] rfl))
              · have gc75 := ai_ne c75
                have l75f_j34l3 : (1 : Int) ≤ j34l3.toInt := (by have h1 := bj34l3_l; have h2 : (0 : Int32).toInt = 0 := (by decide); rw [h2] at gc75; omega)
                refine lv_iload_n hx hb dX8_lookOf_78 rfl (lv_at hl 1 rfl) ?_
                have J93 : ∀ (H : Heap) (locs : List Loc) (ls : Array Slot), va_P (dC, dI) vwCl [(a0, .inr (8, [a0g_0, a0g_1, a0g_2, a0g_3, a0g_4, a0g_5, a0g_6, a0g_7, a0g_8, a0g_9, a0g_10, a0g_11, a0g_12, a0g_13, a0g_14, Value.ref a0_15, a0g_16, a0g_17, a0g_18, a0g_19, a0g_20, a0g_21, a0g_22, a0g_23, a0g_24, a0g_25, a0g_26, a0g_27, a0g_28, a0g_29, a0g_30, a0g_31, a0g_32, a0g_33, Value.ref a0_34, Value.ref a0_35, Value.int j11a0_36, a0g_37, a0g_38, a0g_39])), (a0_15, .inl (ka0_15, 156, .inl (fa0_15))), (a0_35, .inl (ka0_35, 9, .inl (v26nfa0_35))), (a0_34, .inl (ka0_34, 9, .inl (v26nfa0_34)))] H → va_D A [(a0, .inr (8, [a0g_0, a0g_1, a0g_2, a0g_3, a0g_4, a0g_5, a0g_6, a0g_7, a0g_8, a0g_9, a0g_10, a0g_11, a0g_12, a0g_13, a0g_14, Value.ref a0_15, a0g_16, a0g_17, a0g_18, a0g_19, a0g_20, a0g_21, a0g_22, a0g_23, a0g_24, a0g_25, a0g_26, a0g_27, a0g_28, a0g_29, a0g_30, a0g_31, a0g_32, a0g_33, Value.ref a0_34, Value.ref a0_35, Value.int j11a0_36, a0g_37, a0g_38, a0g_39])), (a0_15, .inl (ka0_15, 156, .inl (fa0_15))), (a0_35, .inl (ka0_35, 9, .inl (v26nfa0_35))), (a0_34, .inl (ka0_34, 9, .inl (v26nfa0_34)))] → va_S A s.heap H locs → lv_has ls 5 [(0, .ref a0), (2, .int j11l2), (3, .int j34l3)] → K H locs (F0 m 93 ls []) := by
                  intro  H locs ls   hP hD hS hl
                  refine (hK0 _ _ _).mpr ?_
                  refine lv_iload_n hx hb dX8_lookOf_93 rfl (lv_at hl 1 rfl) ?_
                  refine lv_istore_n (lv' := [(1, .int j11l2), (0, .ref a0), (2, .int j11l2), (3, .int j34l3)]) hx hb dX8_lookOf_94 rfl hl (by decide) rfl (fun ls hl => ?_)
                  refine lv_aload_n hx hb dX8_lookOf_95 rfl (lv_at hl 1 rfl) ?_
                  refine lv_iload_n hx hb dX8_lookOf_96 rfl (lv_at hl 3 rfl) ?_
                  refine va_put (D := (dC, dI)) (ci := 8) (v := .int j34l3) (ty := .int) (C := RX8) (T := TX8) (N := 40) hx hb hts zi_X8_lookOf_8 tyX8 tyX8_ok nmX8 hown hK hP hD hS 0 rfl rfl 36 (by decide) (hts (.fieldLink RX8 346 "WaxTurnsModel" "leastLeft" "I") (zm_X8_lookOf_r1 (List.mem_of_getElem? (i := 0) rfl))) (fun _ h9 => h9) rfl (tyX8_ok 36 (by decide)) rfl rfl (Nat.le_of_ble_eq_true rfl) dX8_lookOf_97 (fun H locs hP hD hS => ?_)
                  obtain ⟨hP, hD⟩ := zc_re (w := [(a0, .inr (8, [a0g_0, a0g_1, a0g_2, a0g_3, a0g_4, a0g_5, a0g_6, a0g_7, a0g_8, a0g_9, a0g_10, a0g_11, a0g_12, a0g_13, a0g_14, Value.ref a0_15, a0g_16, a0g_17, a0g_18, a0g_19, a0g_20, a0g_21, a0g_22, a0g_23, a0g_24, a0g_25, a0g_26, a0g_27, a0g_28, a0g_29, a0g_30, a0g_31, a0g_32, a0g_33, Value.ref a0_34, Value.ref a0_35, Value.int j34l3, a0g_37, a0g_38, a0g_39])), (a0_15, .inl (ka0_15, 156, .inl (fa0_15))), (a0_35, .inl (ka0_35, 9, .inl (v26nfa0_35))), (a0_34, .inl (ka0_34, 9, .inl (v26nfa0_34)))]) hP hD rfl
                  exact (hK0 _ _ _).mp (J100 j11l2 j34l3 _ _ _  (Int.le_trans zq75 bj11l2_l) u14f_j11l2 hP hD hS (lv_sub hl [1, 0, 2] rfl))
                refine lv_if_lt (tgt := 93) hx hb dX8_lookOf_79 (by decide) (fun c79 => ?_) (fun c79 => ?_)
                · have gc79 := ai_lt c79
                  have u79t_j11l1 : j11l1.toInt ≤ (-1 : Int) := ai_lthi gc79 zq6
                  exact (hK0 _ _ _).mp (J93  _ _ _   hP hD hS (lv_sub hl [0, 2, 3] rfl))
                · have gc79 := ai_nlt c79
                  have l79f_j11l1 : (0 : Int) ≤ j11l1.toInt := Int.le_trans zq5 gc79
                  refine lv_iload_n hx hb dX8_lookOf_82 rfl (lv_at hl 3 rfl) ?_
                  refine lv_aload_n hx hb dX8_lookOf_83 rfl (lv_at hl 0 rfl) ?_
                  refine va_get (D := (dC, dI)) (ci := 8) (v := .int j11a0_36) (C := RX8) (T := TX8) (N := 40) hx hb hts zi_X8_lookOf_8 hown hK hP 0 rfl rfl 36 (by decide) (hts (.fieldLink RX8 346 "WaxTurnsModel" "leastLeft" "I") (zm_X8_lookOf_r1 (List.mem_of_getElem? (i := 0) rfl))) (fun _ h9 => h9) rfl dX8_lookOf_84 ?_
                  refine lv_icmp_lt (tgt := 93) hx hb dX8_lookOf_87 (by decide) (fun c87 => ?_) (fun c87 => ?_)
                  · have gc87 := ai_lt c87
                    have u87t_j34l3 : j34l3.toInt ≤ (2147483646 : Int) := ai_lthi gc87 (ai_max j11a0_36)
                    have l87t_j11a0_36 : (2 : Int) ≤ j11a0_36.toInt := ai_ltlo gc87 l75f_j34l3
                    exact (hK0 _ _ _).mp (J93  _ _ _   hP hD hS (lv_sub hl [0, 2, 3] rfl))
                  · have gc87 := ai_nlt c87
                    refine lv_goto (tgt := 100) hx hb dX8_lookOf_90 (by decide) ?_
                    exact (hK0 _ _ _).mp (J100 j11l1 j11a0_36 _ _ _  (Int.le_trans zq75 l79f_j11l1) bj11l1_u hP hD hS (lv_sub hl [0, 1, 2] rfl))
            · have gc42 := ai_nle c42
              have u42f_j34l4 : j34l4.toInt ≤ (8 : Int) := ai_lthi gc42 bx41.2
              have l42f_x41 : (2 : Int) ≤ x41.toInt := bx41.1
              refine lv_aload_n hx hb dX8_lookOf_45 rfl (lv_at hl 0 rfl) ?_
              refine va_get (D := (dC, dI)) (ci := 8) (v := .ref a0_35) (C := RX8) (T := TX8) (N := 40) hx hb hts zi_X8_lookOf_8 hown hK hP 0 rfl rfl 35 (by decide) (hts (.fieldLink RX8 56 "WaxTurnsModel" "often" "[I") (zm_X8_lookOf_r1 (List.mem_of_getElem? (i := 2) rfl))) (fun _ h9 => h9) rfl dX8_lookOf_46 ?_
              refine lv_iload hx hb dX8_lookOf_49 (lv_at hl 4 rfl) ?_
              refine va_iald hx hb hK hP 2 1 rfl rfl (ai_in bj34l4_l u42f_j34l4 (by decide) (by decide)) dX8_lookOf_51 ?_
              refine lv_topi (fun x51 ex51 => ?_)
              refine lv_iload_n hx hb dX8_lookOf_52 rfl (lv_at hl 3 rfl) ?_
              have J67 : ∀ (j67s0 : Int32) (H : Heap) (locs : List Loc) (ls : Array Slot), (0 : Int) ≤ j67s0.toInt → va_P (dC, dI) vwCl [(a0, .inr (8, [a0g_0, a0g_1, a0g_2, a0g_3, a0g_4, a0g_5, a0g_6, a0g_7, a0g_8, a0g_9, a0g_10, a0g_11, a0g_12, a0g_13, a0g_14, Value.ref a0_15, a0g_16, a0g_17, a0g_18, a0g_19, a0g_20, a0g_21, a0g_22, a0g_23, a0g_24, a0g_25, a0g_26, a0g_27, a0g_28, a0g_29, a0g_30, a0g_31, a0g_32, a0g_33, Value.ref a0_34, Value.ref a0_35, Value.int j11a0_36, a0g_37, a0g_38, a0g_39])), (a0_15, .inl (ka0_15, 156, .inl (fa0_15))), (a0_35, .inl (ka0_35, 9, .inl (v26nfa0_35))), (a0_34, .inl (ka0_34, 9, .inl (v26nfa0_34)))] H → va_D A [(a0, .inr (8, [a0g_0, a0g_1, a0g_2, a0g_3, a0g_4, a0g_5, a0g_6, a0g_7, a0g_8, a0g_9, a0g_10, a0g_11, a0g_12, a0g_13, a0g_14, Value.ref a0_15, a0g_16, a0g_17, a0g_18, a0g_19, a0g_20, a0g_21, a0g_22, a0g_23, a0g_24, a0g_25, a0g_26, a0g_27, a0g_28, a0g_29, a0g_30, a0g_31, a0g_32, a0g_33, Value.ref a0_34, Value.ref a0_35, Value.int j11a0_36, a0g_37, a0g_38, a0g_39])), (a0_15, .inl (ka0_15, 156, .inl (fa0_15))), (a0_35, .inl (ka0_35, 9, .inl (v26nfa0_35))), (a0_34, .inl (ka0_34, 9, .inl (v26nfa0_34)))] → va_S A s.heap H locs → lv_has ls 5 [(0, .ref a0), (1, .int j11l1), (2, .int j11l2), (4, .int j34l4)] → K H locs (F0 m 67 ls [.int j67s0]) := by
                intro j67s0 H locs ls  bj67s0_l hP hD hS hl
                refine (hK0 _ _ _).mpr ?_
                refine lv_istore_n (lv' := [(3, .int j67s0), (0, .ref a0), (1, .int j11l1), (2, .int j11l2), (4, .int j34l4)]) hx hb dX8_lookOf_67 rfl hl (by decide) rfl (fun ls hl => ?_)
                obtain ⟨x68, ex68⟩ : ∃ y : Int32, y = j34l4 + Int32.ofInt 1 := ⟨_, rfl⟩
                have qx68 : x68.toInt = j34l4.toInt + 1 := ai_inc ex68 (by decide) (by decide) u42f_j34l4 (by decide)
                have bx68 : (1 : Int) ≤ x68.toInt ∧ x68.toInt ≤ 9 := ⟨by rw [qx68]; exact Int.add_le_add bj34l4_l (Int.le_refl _), by rw [qx68]; exact Int.add_le_add u42f_j34l4 (Int.le_refl _)⟩
                refine lv_iinc (v := x68) (lv' := [(4, .int x68), (3, .int j67s0), (0, .ref a0), (1, .int j11l1), (2, .int j11l2)]) hx hb dX8_lookOf_68 hl (k := 4) rfl ex68.symm (by decide) rfl (fun ls hl => ?_)
                refine lv_goto (tgt := 34) hx hb dX8_lookOf_71 (by decide) ?_
                exact (hK0 _ _ _).mp (ih34 x68 j67s0 _ _ _ (by have h0 := qx68; omega) (Int.le_trans zq4 bx68.1) bx68.2 bj67s0_l hP hD hS (lv_sub hl [2, 3, 4, 1, 0] rfl))
              refine lv_icmp_le (tgt := 66) hx hb dX8_lookOf_53 (by decide) (fun c53 => ?_) (fun c53 => ?_)
              · have gc53 := ai_le c53
                refine lv_iload_n hx hb dX8_lookOf_66 rfl (lv_at hl 3 rfl) ?_
                exact (hK0 _ _ _).mp (J67 j34l3 _ _ _  bj34l3_l hP hD hS (lv_sub hl [0, 1, 2, 4] rfl))
              · have gc53 := ai_nle c53
                have u53f_j34l3 : j34l3.toInt ≤ (2147483646 : Int) := ai_lthi gc53 (ai_max x51)
                have l53f_x51 : (1 : Int) ≤ x51.toInt := ai_ltlo gc53 bj34l3_l
                refine lv_aload_n hx hb dX8_lookOf_56 rfl (lv_at hl 0 rfl) ?_
                refine va_get (D := (dC, dI)) (ci := 8) (v := .ref a0_35) (C := RX8) (T := TX8) (N := 40) hx hb hts zi_X8_lookOf_8 hown hK hP 0 rfl rfl 35 (by decide) (hts (.fieldLink RX8 56 "WaxTurnsModel" "often" "[I") (zm_X8_lookOf_r1 (List.mem_of_getElem? (i := 2) rfl))) (fun _ h9 => h9) rfl dX8_lookOf_57 ?_
                refine lv_iload hx hb dX8_lookOf_60 (lv_at hl 4 rfl) ?_
                refine va_iald hx hb hK hP 2 1 rfl rfl (ai_in bj34l4_l u42f_j34l4 (by decide) (by decide)) dX8_lookOf_62 ?_
                refine ax_ti x51 ex51.symm ?_
                refine lv_goto (tgt := 67) hx hb dX8_lookOf_63 (by decide) ?_
                exact (hK0 _ _ _).mp (J67 x51 _ _ _  (Int.le_trans zq4 l53f_x51) hP hD hS (lv_sub hl [0, 1, 2, 4] rfl))
        exact (hK0 _ _ _).mp (J34 10 0 0 _ _ _ (by have h1 : (0 : Int) ≤ (0 : Int32).toInt := zq5; have h2 : (0 : Int32).toInt ≤ (0 : Int) := zq6; omega) zq5 (Int.le_trans zq6 zq7) zq5 hP hD hS (lv_sub hl [2, 3, 4, 1, 0] rfl))
  exact (hK0 _ _ _).mp (J11 301 0 (-2) (-2) fa0_35 fa0_34 _ _ _ (by have h1 : (0 : Int) ≤ (0 : Int32).toInt := zq5; have h2 : (0 : Int32).toInt ≤ (0 : Int) := zq6; omega) zq5 (Int.le_trans zq6 zq83) zq45 (Int.le_trans zq44 zq188) hP hD hS (lv_sub hl [2, 1, 0] rfl))

set_option maxHeartbeats 4000000 in
set_option maxRecDepth 100000 in
theorem c_X8_look (l : Launch) (dC : Nat → ClassId) (dI : Nat → Nat → Nat) (sz : Nat) (a0 : Nat) (a0_0 : Int32) (a0g_1 a0g_2 a0g_3 a0g_4 a0g_5 a0g_6 a0g_7 a0g_8 a0g_9 a0g_10 a0g_12 a0g_13 a0g_16 a0g_17 a0g_18 a0g_19 a0g_20 a0g_21 a0g_22 a0g_23 a0g_24 a0g_25 a0g_26 a0g_27 a0g_28 a0g_29 a0g_30 a0g_31 a0g_32 a0g_33 a0g_37 a0g_38 a0g_39 : Value) (a0_11 : Int32) (a0_14 : Int32) (a0_15 : Nat) (a0_34 : Nat) (a0_35 : Nat) (a0_36 : Int32) (ka0_15 : ClassId) (fa0_15 : Nat → Int32) (ka0_35 : ClassId) (fa0_35 : Nat → Int32) (ka0_34 : ClassId) (fa0_34 : Nat → Int32) (ba0_14_l : (1 : Int) ≤ a0_14.toInt) (ba0_14_u : a0_14.toInt ≤ (1 : Int)) (bfa0_15 : ((∀ k : Nat, 0 ≤ k → k ≤ 0 → (2 : Int) ≤ (fa0_15 k).toInt ∧ (fa0_15 k).toInt ≤ 9) ∧ (∀ k : Nat, 1 ≤ k → k ≤ 1 → (1 : Int) ≤ (fa0_15 k).toInt ∧ (fa0_15 k).toInt ≤ 20) ∧ (∀ k : Nat, 2 ≤ k → k ≤ 2 → (0 : Int) ≤ (fa0_15 k).toInt ∧ (fa0_15 k).toInt ≤ 8) ∧ (∀ k : Nat, 3 ≤ k → k ≤ 3 → (0 : Int) ≤ (fa0_15 k).toInt ∧ (fa0_15 k).toInt ≤ 100) ∧ (∀ k : Nat, 4 ≤ k → k ≤ 4 → (0 : Int) ≤ (fa0_15 k).toInt ∧ (fa0_15 k).toInt ≤ 9) ∧ (∀ k : Nat, 5 ≤ k → k ≤ 5 → (0 : Int) ≤ (fa0_15 k).toInt ∧ (fa0_15 k).toInt ≤ 3) ∧ (∀ k : Nat, 6 ≤ k → k ≤ 6 → (0 : Int) ≤ (fa0_15 k).toInt ∧ (fa0_15 k).toInt ≤ 6) ∧ (∀ k : Nat, 7 ≤ k → k ≤ 9 → (0 : Int) ≤ (fa0_15 k).toInt ∧ (fa0_15 k).toInt ≤ 8) ∧ (∀ k : Nat, 12 ≤ k → k ≤ 29 → (0 : Int) ≤ (fa0_15 k).toInt ∧ (fa0_15 k).toInt ≤ 20) ∧ (∀ k : Nat, 30 ≤ k → k ≤ 35 → (0 : Int) ≤ (fa0_15 k).toInt ∧ (fa0_15 k).toInt ≤ 8) ∧ (∀ k : Nat, 36 ≤ k → k ≤ 47 → (0 : Int) ≤ (fa0_15 k).toInt ∧ (fa0_15 k).toInt ≤ 999))) : Met l yX8_look wsX8_look ({ frames := 5, cells := 0, slots := 0, locals := 118 }) (va_Pc [.ref a0] (ax_C dC dI sz [(a0, .inr (8, [Value.int a0_0, a0g_1, a0g_2, a0g_3, a0g_4, a0g_5, a0g_6, a0g_7, a0g_8, a0g_9, a0g_10, Value.int a0_11, a0g_12, a0g_13, Value.int a0_14, Value.ref a0_15, a0g_16, a0g_17, a0g_18, a0g_19, a0g_20, a0g_21, a0g_22, a0g_23, a0g_24, a0g_25, a0g_26, a0g_27, a0g_28, a0g_29, a0g_30, a0g_31, a0g_32, a0g_33, Value.ref a0_34, Value.ref a0_35, Value.int a0_36, a0g_37, a0g_38, a0g_39])), (a0_15, .inl (ka0_15, 156, .inl (fa0_15))), (a0_35, .inl (ka0_35, 9, .inl (fa0_35))), (a0_34, .inl (ka0_34, 9, .inl (fa0_34)))] [(ka0_15, .int), (ka0_35, .int), (ka0_34, .int)] (fun _ => True))) (va_Qi (fun (r : Int32) (_ : Unit) => (-2 : Int) ≤ r.toInt ∧ r.toInt ≤ (99 : Int)) (fun (_ : Unit) (t : State) => ∃ na0_0 : Int32, ∃ na0_11 : Int32, ∃ na0_36 : Int32, ∃ nfa0_35 : Nat → Int32, ∃ nfa0_34 : Nat → Int32, ax_B dC dI (va_A [(a0, .inr (8, [Value.int a0_0, a0g_1, a0g_2, a0g_3, a0g_4, a0g_5, a0g_6, a0g_7, a0g_8, a0g_9, a0g_10, Value.int a0_11, a0g_12, a0g_13, Value.int a0_14, Value.ref a0_15, a0g_16, a0g_17, a0g_18, a0g_19, a0g_20, a0g_21, a0g_22, a0g_23, a0g_24, a0g_25, a0g_26, a0g_27, a0g_28, a0g_29, a0g_30, a0g_31, a0g_32, a0g_33, Value.ref a0_34, Value.ref a0_35, Value.int a0_36, a0g_37, a0g_38, a0g_39])), (a0_15, .inl (ka0_15, 156, .inl (fa0_15))), (a0_35, .inl (ka0_35, 9, .inl (fa0_35))), (a0_34, .inl (ka0_34, 9, .inl (fa0_34)))] sz) [(a0, .inr (8, [Value.int na0_0, a0g_1, a0g_2, a0g_3, a0g_4, a0g_5, a0g_6, a0g_7, a0g_8, a0g_9, a0g_10, Value.int na0_11, a0g_12, a0g_13, Value.int a0_14, Value.ref a0_15, a0g_16, a0g_17, a0g_18, a0g_19, a0g_20, a0g_21, a0g_22, a0g_23, a0g_24, a0g_25, a0g_26, a0g_27, a0g_28, a0g_29, a0g_30, a0g_31, a0g_32, a0g_33, Value.ref a0_34, Value.ref a0_35, Value.int na0_36, a0g_37, a0g_38, a0g_39])), (a0_15, .inl (ka0_15, 156, .inl (fa0_15))), (a0_35, .inl (ka0_35, 9, .inl (nfa0_35))), (a0_34, .inl (ka0_34, 9, .inl (nfa0_34)))] [(ka0_15, .int), (ka0_35, .int), (ka0_34, .int)] t) (va_A [(a0, .inr (8, [Value.int a0_0, a0g_1, a0g_2, a0g_3, a0g_4, a0g_5, a0g_6, a0g_7, a0g_8, a0g_9, a0g_10, Value.int a0_11, a0g_12, a0g_13, Value.int a0_14, Value.ref a0_15, a0g_16, a0g_17, a0g_18, a0g_19, a0g_20, a0g_21, a0g_22, a0g_23, a0g_24, a0g_25, a0g_26, a0g_27, a0g_28, a0g_29, a0g_30, a0g_31, a0g_32, a0g_33, Value.ref a0_34, Value.ref a0_35, Value.int a0_36, a0g_37, a0g_38, a0g_39])), (a0_15, .inl (ka0_15, 156, .inl (fa0_15))), (a0_35, .inl (ka0_35, 9, .inl (fa0_35))), (a0_34, .inl (ka0_34, 9, .inl (fa0_34)))] sz)) 0 0 (va_A [(a0, .inr (8, [Value.int a0_0, a0g_1, a0g_2, a0g_3, a0g_4, a0g_5, a0g_6, a0g_7, a0g_8, a0g_9, a0g_10, Value.int a0_11, a0g_12, a0g_13, Value.int a0_14, Value.ref a0_15, a0g_16, a0g_17, a0g_18, a0g_19, a0g_20, a0g_21, a0g_22, a0g_23, a0g_24, a0g_25, a0g_26, a0g_27, a0g_28, a0g_29, a0g_30, a0g_31, a0g_32, a0g_33, Value.ref a0_34, Value.ref a0_35, Value.int a0_36, a0g_37, a0g_38, a0g_39])), (a0_15, .inl (ka0_15, 156, .inl (fa0_15))), (a0_35, .inl (ka0_35, 9, .inl (fa0_35))), (a0_34, .inl (ka0_34, 9, .inl (fa0_34)))] sz) := by
  refine Met.ofW (cc := cX8_look) (maxL := 1) (ret := (some .int)) (by decide) rfl ?_
  intro p e s m args below meth c s₁ B hml hv
  obtain ⟨rfl, hsz, hP, hK, hD0, hE⟩ := hv
  have hx := B.exec
  have hb := B.bytes
  have hr := B.returns
  have hts := atoms_spec (ws := wsX8_look) B.pre
  have hown : s.vm.findClass RX8 = some m.cls := findClass_of_methodNamed B.named
  have hlocks := B.notSynchronized
  subst hsz
  have hD := hD0.self (sz := s.heap.size)
  generalize hAe : va_A [(a0, .inr (8, [Value.int a0_0, a0g_1, a0g_2, a0g_3, a0g_4, a0g_5, a0g_6, a0g_7, a0g_8, a0g_9, a0g_10, Value.int a0_11, a0g_12, a0g_13, Value.int a0_14, Value.ref a0_15, a0g_16, a0g_17, a0g_18, a0g_19, a0g_20, a0g_21, a0g_22, a0g_23, a0g_24, a0g_25, a0g_26, a0g_27, a0g_28, a0g_29, a0g_30, a0g_31, a0g_32, a0g_33, Value.ref a0_34, Value.ref a0_35, Value.int a0_36, a0g_37, a0g_38, a0g_39])), (a0_15, .inl (ka0_15, 156, .inl (fa0_15))), (a0_35, .inl (ka0_35, 9, .inl (fa0_35))), (a0_34, .inl (ka0_34, 9, .inl (fa0_34)))] s.heap.size = A at hD ⊢
  have hA : ∀ q : Nat, s.heap.size ≤ q → A q := fun q h => by rw [← hAe]; exact Or.inr h
  have hS : va_S A s.heap s.heap [] := va_S.rf
  have hP : va_P (dC, dI) vwCl [(a0, .inr (8, [Value.int a0_0, a0g_1, a0g_2, a0g_3, a0g_4, a0g_5, a0g_6, a0g_7, a0g_8, a0g_9, a0g_10, Value.int a0_11, a0g_12, a0g_13, Value.int a0_14, Value.ref a0_15, a0g_16, a0g_17, a0g_18, a0g_19, a0g_20, a0g_21, a0g_22, a0g_23, a0g_24, a0g_25, a0g_26, a0g_27, a0g_28, a0g_29, a0g_30, a0g_31, a0g_32, a0g_33, Value.ref a0_34, Value.ref a0_35, Value.int a0_36, a0g_37, a0g_38, a0g_39])), (a0_15, .inl (ka0_15, 156, .inl (fa0_15))), (a0_35, .inl (ka0_35, 9, .inl (fa0_35))), (a0_34, .inl (ka0_34, 9, .inl (fa0_34)))] s.heap := hP
  have hl := lv_entry ([.ref a0]) (n := 1) (Nat.le_of_ble_eq_true rfl)
  rw [lg_entry_eq]
  generalize (lg_sl ([.ref a0]) ++ List.replicate (1 - (lg_sl ([.ref a0])).length) Slot.unset).toArray = ls at hl ⊢
  have hl : lv_has ls 1 [(0, .ref a0)] := hl
  refine lv_aload_n hx hb dX8_look_0 rfl (lv_at hl 0 rfl) ?_
  obtain ⟨hPc, hDc, hFc, hCc⟩ := zc_cut (wc := [(a0, .inr (8, [Value.int a0_0, a0g_1, a0g_2, a0g_3, a0g_4, a0g_5, a0g_6, a0g_7, a0g_8, a0g_9, a0g_10, Value.int a0_11, a0g_12, a0g_13, Value.int a0_14, Value.ref a0_15, a0g_16, a0g_17, a0g_18, a0g_19, a0g_20, a0g_21, a0g_22, a0g_23, a0g_24, a0g_25, a0g_26, a0g_27, a0g_28, a0g_29, a0g_30, a0g_31, a0g_32, a0g_33, Value.ref a0_34, Value.ref a0_35, Value.int a0_36, a0g_37, a0g_38, a0g_39]))]) hP hD hS hA [0] (by decide +kernel) rfl
  have hKc := hK.sub (tys' := []) [] rfl
  refine va_callv (va_runV (As := []) (rest := []) ⟨hx, hb, hml, hown, hts⟩ (c_X8_good l dC dI s.heap.size a0 a0_0 a0g_1 a0g_2 a0g_3 a0g_4 a0g_5 a0g_6 a0g_7 a0g_8 a0g_9 a0g_10 a0g_12 a0g_13 (Value.int a0_14) (Value.ref a0_15) a0g_16 a0g_17 a0g_18 a0g_19 a0g_20 a0g_21 a0g_22 a0g_23 a0g_24 a0g_25 a0g_26 a0g_27 a0g_28 a0g_29 a0g_30 a0g_31 a0g_32 a0g_33 (Value.ref a0_34) (Value.ref a0_35) (Value.int a0_36) a0g_37 a0g_38 a0g_39 a0_11 ) (cwV 0 hts gX8_look_X8_good rfl rfl rfl zd_X8_good ⟨Nat.le_of_ble_eq_true rfl, Nat.le_of_ble_eq_true rfl⟩) ⟨ax_blind (fun _ _ _ _ _ => trivial), zr_8 hKc hPc (q0 := 0) rfl, ax_pre hPc hKc hDc (fun _ _ => trivial)⟩ rfl rfl hl.1 rfl (lv_room (Nat.le_of_ble_eq_true rfl)) dX8_look_1 ⟨Nat.le_of_ble_eq_true rfl, Nat.le_of_ble_eq_true rfl⟩) hS (fun q _ h => hFc q h) hFc (fun u t H locs ht hvm hw hB hz1 hk1 hS => ?_)
  obtain ⟨v1na0_0, v1na0_11, hP1, hK1, hD1⟩ := hB
  rw [ht] at hP1
  obtain ⟨hP, hD⟩ := zc_back (w := [(a0, .inr (8, [Value.int v1na0_0, a0g_1, a0g_2, a0g_3, a0g_4, a0g_5, a0g_6, a0g_7, a0g_8, a0g_9, a0g_10, Value.int v1na0_11, a0g_12, a0g_13, Value.int a0_14, Value.ref a0_15, a0g_16, a0g_17, a0g_18, a0g_19, a0g_20, a0g_21, a0g_22, a0g_23, a0g_24, a0g_25, a0g_26, a0g_27, a0g_28, a0g_29, a0g_30, a0g_31, a0g_32, a0g_33, Value.ref a0_34, Value.ref a0_35, Value.int a0_36, a0g_37, a0g_38, a0g_39])), (a0_15, .inl (ka0_15, 156, .inl (fa0_15))), (a0_35, .inl (ka0_35, 9, .inl (fa0_35))), (a0_34, .inl (ka0_34, 9, .inl (fa0_34)))]) hP hD hCc hk1 hFc hP1 hD1 [.inr 0, .inl 1, .inl 2, .inl 3] (by decide +kernel) rfl
  refine lv_aload_n hx hb dX8_look_4 rfl (lv_at hl 0 rfl) ?_
  refine va_get (D := (dC, dI)) (ci := 8) (v := .int a0_14) (C := RX8) (T := TX8) (N := 40) hx hb hts zi_X8_look_8 hown hK hP 0 rfl rfl 14 (by decide) (hts (.fieldLink RX8 173 "WaxTurnsModel" "hasGallery" "Z") (zm_X8_look_r1 (List.mem_of_getElem? (i := 0) rfl))) (fun _ h9 => h9) rfl dX8_look_5 ?_
  refine lv_if_eq (tgt := 18) hx hb dX8_look_8 (by decide) (fun c8 => ?_) (fun c8 => ?_)
  · have gc8 := ai_eq c8
    have u8t_a0_14 : a0_14.toInt ≤ (0 : Int) := Int.le_trans (Int.le_of_eq gc8) zq6
    have l8t_a0_14 : (1 : Int) ≤ a0_14.toInt := ba0_14_l
    exact absurd (Int.le_trans l8t_a0_14 u8t_a0_14) (by decide)
  · have gc8 := ai_ne c8
    refine lv_aload_n hx hb dX8_look_11 rfl (lv_at hl 0 rfl) ?_
    obtain ⟨hPc, hDc, hFc, hCc⟩ := zc_cut (wc := [(a0, .inr (8, [Value.int v1na0_0, a0g_1, a0g_2, a0g_3, a0g_4, a0g_5, a0g_6, a0g_7, a0g_8, a0g_9, a0g_10, Value.int v1na0_11, a0g_12, a0g_13, Value.int a0_14, Value.ref a0_15, a0g_16, a0g_17, a0g_18, a0g_19, a0g_20, a0g_21, a0g_22, a0g_23, a0g_24, a0g_25, a0g_26, a0g_27, a0g_28, a0g_29, a0g_30, a0g_31, a0g_32, a0g_33, Value.ref a0_34, Value.ref a0_35, Value.int a0_36, a0g_37, a0g_38, a0g_39])), (a0_15, .inl (ka0_15, 156, .inl (fa0_15))), (a0_35, .inl (ka0_35, 9, .inl (fa0_35))), (a0_34, .inl (ka0_34, 9, .inl (fa0_34)))]) hP hD hS hA [0, 1, 2, 3] (by decide +kernel) rfl
    have hKc := hK.sub (tys' := [(ka0_15, .int), (ka0_35, .int), (ka0_34, .int)]) [0, 1, 2] rfl
    refine va_calli (va_runV (As := []) (rest := []) ⟨hx, hb, hml, hown, hts⟩ (c_X8_lookOf l dC dI H.size a0 (Value.int v1na0_0) a0g_1 a0g_2 a0g_3 a0g_4 a0g_5 a0g_6 a0g_7 a0g_8 a0g_9 a0g_10 (Value.int v1na0_11) a0g_12 a0g_13 (Value.int a0_14) a0g_16 a0g_17 a0g_18 a0g_19 a0g_20 a0g_21 a0g_22 a0g_23 a0g_24 a0g_25 a0g_26 a0g_27 a0g_28 a0g_29 a0g_30 a0g_31 a0g_32 a0g_33 a0g_37 a0g_38 a0g_39 a0_15 a0_34 a0_35 a0_36 ka0_15 fa0_15 ka0_35 fa0_35 ka0_34 fa0_34 bfa0_15) (cwV 0 hts gX8_look_X8_lookOf rfl rfl rfl zd_X8_lookOf ⟨Nat.le_of_ble_eq_true rfl, Nat.le_of_ble_eq_true rfl⟩) ⟨ax_blind (fun _ _ _ _ _ => trivial), zr_8 hKc hPc (q0 := 0) rfl, ax_pre hPc hKc hDc (fun _ _ => trivial)⟩ rfl rfl hl.1 rfl (lv_room (Nat.le_of_ble_eq_true rfl)) dX8_look_12 ⟨Nat.le_of_ble_eq_true rfl, Nat.le_of_ble_eq_true rfl⟩) hS (fun q _ h => hFc q h) hFc (fun r12 u t H locs ht hvm hw hB hz1 hk1 hS => ?_)
    obtain ⟨v12na0_36, v12nfa0_35, v12nfa0_34, hP1, hK1, hD1⟩ := hB
    rw [ht] at hP1
    obtain ⟨hP, hD⟩ := zc_back (w := [(a0, .inr (8, [Value.int v1na0_0, a0g_1, a0g_2, a0g_3, a0g_4, a0g_5, a0g_6, a0g_7, a0g_8, a0g_9, a0g_10, Value.int v1na0_11, a0g_12, a0g_13, Value.int a0_14, Value.ref a0_15, a0g_16, a0g_17, a0g_18, a0g_19, a0g_20, a0g_21, a0g_22, a0g_23, a0g_24, a0g_25, a0g_26, a0g_27, a0g_28, a0g_29, a0g_30, a0g_31, a0g_32, a0g_33, Value.ref a0_34, Value.ref a0_35, Value.int v12na0_36, a0g_37, a0g_38, a0g_39])), (a0_15, .inl (ka0_15, 156, .inl (fa0_15))), (a0_35, .inl (ka0_35, 9, .inl (v12nfa0_35))), (a0_34, .inl (ka0_34, 9, .inl (v12nfa0_34)))]) hP hD hCc hk1 hFc hP1 hD1 [.inr 0, .inr 1, .inr 2, .inr 3] (by decide +kernel) rfl
    have hw : (-2 : Int) ≤ r12.toInt ∧ r12.toInt ≤ (99 : Int) := hw
    obtain ⟨h12_0, h12_1⟩ := hw
    refine lv_goto (tgt := 23) hx hb dX8_look_15 (by decide) ?_
    exact W.iret (v := r12) hx hb hr (fun t ht hW => ⟨⟨r12, (), rfl, ⟨h12_0, h12_1⟩, v1na0_0, v1na0_11, v12na0_36, v12nfa0_35, v12nfa0_34, by rw [ht]; exact hP, va_K.moved hW.alike hK, hD⟩, hS.F ht⟩) hS.2.2 dX8_look_23
